/-! THE TYPED WORLD: cells by their places in the list; what a field or an element may hold; what an abstract state says -/
abbrev zFT : Type := Nat × Int × Int
abbrev zCT : Type := Nat × Nat × Nat × List zFT
/-- static data: the table of cells (from, to, type), the first comer's cell, how many names are ghosts -/
abbrev zZ : Type := List (Nat × Nat × zCT) × Int × Nat
abbrev zWr : Type := List (Int × Int × Nat × Nat)
def zft (ad : Nat → Nat) (gh : Nat → Int) (cb : Int) (q : Nat) (ft : zFT) (v : Value) : Prop := match ft with
  | (0, lo, hi) => ∃ x : Int32, v = .int x ∧ lo ≤ x.toInt ∧ x.toInt ≤ hi
  | (1, _, _) => ∃ x : Int64, v = .long x
  | (2, lo, hi) => ∃ r : Nat, v = .ref (ad r) ∧ lo ≤ (r : Int) ∧ (r : Int) ≤ hi
  | (3, g, _) => ∃ x : Int32, v = .int x ∧ x.toInt = gh g.toNat
  | (4, d, _) => v = .ref (ad (q + d.toNat))
  | (5, lo, hi) => ∃ x : Int32, v = .int x ∧ ((q : Int) < cb + gh 1 → lo ≤ x.toInt ∧ x.toInt ≤ hi)
  | (7, lo, hi) => ∃ x : Int32, v = .int x ∧ lo ≤ x.toInt ∧ x.toInt ≤ hi
  | (8, lo, hi) => ∃ x : Int32, v = .int x ∧ (lo ≤ x.toInt ∧ x.toInt ≤ hi) ∧ ((q : Int) = gh 3 → gh 2 < x.toInt)
  | _ => False
/-- a sign and its number -/
def zTI (a b : Int32) : Prop := (a.toInt = 78 → 0 ≤ b.toInt ∧ b.toInt ≤ 7) ∧ (a.toInt = 63 → 0 ≤ b.toInt)
def zcell (ad : Nat → Nat) (gh : Nat → Int) (cb : Int) (tys : List (ClassId × FieldType)) (ws : va_W) (q : Nat) (ct : zCT) : Prop := match ct with
  | (0, ci, _, fts) => ∃ fs : List Value, ws[q]? = some (ad q, .inr (ci, fs)) ∧ fs.length = fts.length ∧ ∀ (j : Nat) (ft : zFT) (v : Value), fts[j]? = some ft → fs[j]? = some v → zft ad gh cb q ft v
  | (1, t0, len, fts) => ∃ (cA : ClassId) (f : Nat → Int32), ws[q]? = some (ad q, .inl (cA, len, .inl f)) ∧ tys[t0]? = some (cA, .int) ∧ ∀ (j : Nat) (ft : zFT), j < len → fts[0]? = some ft → zft ad gh cb q ft (.int (f j))
  | (2, t0, len, fts) => ∃ (cA : ClassId) (f : Nat → Int32), ws[q]? = some (ad q, .inl (cA, len, .inl f)) ∧ tys[t0]? = some (cA, .byte) ∧ ∀ (j : Nat) (ft : zFT), j < len → fts[0]? = some ft → zft ad gh cb q ft (.int (f j))
  | (3, t0, len, _) => ∃ (cA : ClassId) (f : Nat → Int64), ws[q]? = some (ad q, .inl (cA, len, .inr (.inl f))) ∧ tys[t0]? = some (cA, .long)
  | (4, t0, len, fts) => ∃ (cA : ClassId) (C : String) (f : Nat → Option Nat), ws[q]? = some (ad q, .inl (cA, len, .inr (.inr (.inr (.inr f))))) ∧ tys[t0]? = some (cA, .object C) ∧ ∀ (j : Nat) (ft : zFT), j < len → fts[0]? = some ft → f j = some (ad (ft.2.1.toNat + j))
  | (5, t0, len, fts) => ∃ (cA : ClassId) (f : Nat → Option Nat), ws[q]? = some (ad q, .inl (cA, len, .inr (.inr (.inr (.inr f))))) ∧ tys[t0]? = some (cA, .array .long) ∧ ∀ (j : Nat) (ft : zFT), j < len → fts[0]? = some ft → f j = some (ad (ft.2.1.toNat + j))
  | (6, t0, len, fts) => ∃ (cA cB : ClassId) (f g : Nat → Int32), ws[q]? = some (ad q, .inl (cA, len, .inl f)) ∧ tys[t0]? = some (cA, .int) ∧ ws[q + (fts.headD (0, 0, 0)).1]? = some (ad (q + (fts.headD (0, 0, 0)).1), .inl (cB, len, .inl g)) ∧ (∀ j : Nat, j < len → zTI (f j) (g j)) ∧ ((q : Int) = gh 3 + (fts.headD (0, 0, 0)).2.1 → 0 ≤ gh 2 → gh 2 < len ∧ (f (gh 2).toNat).toInt = 63)
  | (7, t0, len, _) => ∃ (cA : ClassId) (f : Nat → Int32), ws[q]? = some (ad q, .inl (cA, len, .inl f)) ∧ tys[t0]? = some (cA, .int)
  | _ => False
def zW (Z : zZ) (ad : Nat → Nat) (gh : Nat → Int) (tys : List (ClassId × FieldType)) (ws : va_W) : Prop := ∀ e ∈ Z.1, ∀ q : Nat, e.1 ≤ q → q ≤ e.2.1 → zcell ad gh Z.2.1 tys ws q e.2.2
/-- what a field, or an element, holds -/
def zfv (ws : va_W) (q j : Nat) : Option Value := match ws[q]? with
  | some (_, .inr (_, fs)) => fs[j]?
  | some (_, .inl (_, n, .inl f)) => if j < n then some (.int (f j)) else none
  | some (_, .inl (_, n, .inr (.inl f))) => if j < n then some (.long (f j)) else none
  | _ => none
def zcov (w : Int × Int × Nat × Nat) (q j : Nat) : Prop := w.1 ≤ (q : Int) ∧ (q : Int) ≤ w.2.1 ∧ (w.2.2.1 = 0 ∨ w.2.2.2 = j)
def zUn (wr : zWr) (ws0 ws : va_W) : Prop := ∀ q j : Nat, (∀ w ∈ wr, ¬ zcov w q j) → zfv ws q j = zfv ws0 q j
/-- an abstract value is a value's -/
def zm (ad : Nat → Nat) (nu : List Int) (av : zAV) (v : Value) : Prop := match av with
  | (0, _, _, _, _) => True
  | (1, n, k, _, _) => ∃ x : Int32, v = .int x ∧ zV nu n k x.toInt
  | (2, n, k, _, _) => ∃ x : Int64, v = .long x ∧ zV nu n k x.toInt
  | (3, n, k, _, _) => ∃ q : Nat, v = .ref (ad q) ∧ zV nu n k q
  | (4, n, k, n2, k2) => ∃ x y : Int64, v = .int (lg_cmp x y) ∧ zV nu n k x.toInt ∧ zV nu n2 k2 y.toInt
  | _ => False
theorem zm.app {ad : Nat → Nat} {nu t : List Int} {av : zAV} {v : Value} (h : zm ad nu av v) : zm ad (nu ++ t) av v := by
  obtain ⟨tg, n, k, n2, k2⟩ := av
  match tg, h with
  | 0, _ => trivial
  | 1, ⟨x, h1, h2⟩ => exact ⟨x, h1, h2.app⟩
  | 2, ⟨x, h1, h2⟩ => exact ⟨x, h1, h2.app⟩
  | 3, ⟨x, h1, h2⟩ => exact ⟨x, h1, h2.app⟩
  | 4, ⟨x, y, h1, h2, h3⟩ => exact ⟨x, y, h1, h2.app, h3.app⟩
def zall (M : zAV → Value → Prop) : List zAV → List Value → Prop
  | [], [] => True
  | a :: as, v :: vs => M a v ∧ zall M as vs
  | _, _ => False
theorem zall.mono {M N : zAV → Value → Prop} (h : ∀ a v, M a v → N a v) : ∀ {as : List zAV} {vs : List Value}, zall M as vs → zall N as vs
  | [], [], _ => trivial
  | _ :: _, _ :: _, h1 => ⟨h _ _ h1.1, h1.2.mono h⟩
theorem zall.len {M : zAV → Value → Prop} : ∀ {as : List zAV} {vs : List Value}, zall M as vs → as.length = vs.length
  | [], [], _ => rfl
  | _ :: _, _ :: _, h1 => by simp [h1.2.len]
theorem zall.get {M : zAV → Value → Prop} : ∀ {as : List zAV} {vs : List Value}, zall M as vs → ∀ {i : Nat} {a : zAV}, as[i]? = some a → ∃ v, vs[i]? = some v ∧ M a v
  | [], [], _, i, a, h => by simp at h
  | a0 :: as, v0 :: vs, h1, i, a, h => by
    cases i with
    | zero => rw [List.getElem?_cons_zero] at h; cases h; exact ⟨v0, rfl, h1.1⟩
    | succ i => rw [List.getElem?_cons_succ] at h; rw [List.getElem?_cons_succ]; exact h1.2.get h
theorem zall.app {M : zAV → Value → Prop} : ∀ {as bs : List zAV} {vs us : List Value}, zall M as vs → zall M bs us → zall M (as ++ bs) (vs ++ us)
  | [], _, [], _, _, h => h
  | _ :: _, _, _ :: _, _, h1, h => ⟨h1.1, h1.2.app h⟩
/-- the locals -/
def zL (ad : Nat → Nat) (nu : List Int) (nL : Nat) (ls : Array Slot) (L : List zAV) : Prop := ls.size = nL ∧ L.length = nL ∧ lv_wf ls ∧ ∀ (i : Nat) (a : zAV), L[i]? = some a → a.1 ≠ 0 → ∃ v, ls[i]? = some (.val v) ∧ zm ad nu a v
theorem zL.app {ad : Nat → Nat} {nu t : List Int} {nL : Nat} {ls : Array Slot} {L : List zAV} (h : zL ad nu nL ls L) : zL ad (nu ++ t) nL ls L :=
  ⟨h.1, h.2.1, h.2.2.1, fun i a h1 h2 => by obtain ⟨v, h3, h4⟩ := h.2.2.2 i a h1 h2; exact ⟨v, h3, h4.app⟩⟩
def zF (ad : Nat → Nat) (nu : List Int) (ws : va_W) (fa : List zFa) : Prop := ∀ f ∈ fa, ∃ (q : Nat) (v : Value), zV nu f.1 f.2.1 q ∧ zfv ws q f.2.2.1 = some v ∧ zm ad nu f.2.2.2 v
theorem zF.app {ad : Nat → Nat} {nu t : List Int} {ws : va_W} {fa : List zFa} (h : zF ad nu ws fa) : zF ad (nu ++ t) ws fa := fun f hf => by
  obtain ⟨q, v, h1, h2, h3⟩ := h f hf
  exact ⟨q, v, h1.app, h2, h3.app⟩
/-- the names: the ghosts stand first, then the segment's own start -/
def zN (G : Nat) (gh : Nat → Int) (nu0 nu : List Int) (env : List zIv) (cd : List zCd) : Prop := zEnv env nu ∧ zCds cd nu ∧ (∀ g, g < G → nu[g]? = some (gh g)) ∧ ∃ t, nu = nu0 ++ t
theorem zN.push {G : Nat} {gh : Nat → Int} {nu0 nu : List Int} {env : List zIv} {cd : List zCd} (h : zN G gh nu0 nu env cd) {iv : zIv} {z : Int} (hz : zInIv z iv) : zN G gh nu0 (nu ++ [z]) (env ++ [iv]) cd := by
  obtain ⟨h1, h2, h3, t, rfl⟩ := h
  refine ⟨h1.push hz, h2.app, fun g hg => ?_, t ++ [z], by rw [List.append_assoc]⟩
  have := h3 g hg
  rw [List.getElem?_append_left (List.getElem?_eq_some_iff.mp this).1]
  exact this
/-- the heap's side of a state -/
def zHp (Z : zZ) (D : va_G) (cl : List vw_C) (tys : List (ClassId × FieldType)) (A : Nat → Prop) (ad : Nat → Nat) (gh : Nat → Int) (wr : zWr) (H0 : Heap) (ws0 ws : va_W) (H : Heap) (locs : List Loc) : Prop :=
  va_P D cl ws H ∧ va_D A ws ∧ va_S A H0 H locs ∧ zW Z ad gh tys ws ∧ zUn wr ws0 ws
/-- an abstract state holds -/
def zG (Z : zZ) (D : va_G) (cl : List vw_C) (tys : List (ClassId × FieldType)) (A : Nat → Prop) (ad : Nat → Nat) (gh : Nat → Int) (wr : zWr) (H0 : Heap) (ws0 : va_W) (nu0 : List Int) (nL : Nat) (sg : zS) (nu : List Int) (ls : Array Slot) (st : List Value) (ws : va_W) (H : Heap) (locs : List Loc) : Prop :=
  zHp Z D cl tys A ad gh wr H0 ws0 ws H locs ∧ zN Z.2.2 gh nu0 nu sg.1 sg.2.1 ∧ zL ad nu nL ls sg.2.2.1 ∧ zall (zm ad nu) sg.2.2.2.1 st ∧ zF ad nu ws sg.2.2.2.2.1 ∧ zMes sg.2.2.2.2.2 nu
/-- storing a local -/
def zlv (ls : Array Slot) : List (Nat × Value) := (List.range ls.size).filterMap (fun (j : Nat) => match (ls[j]? : Option Slot) with
  | some (Slot.val w) => some (j, w)
  | _ => none)
theorem zlv_mem {ls : Array Slot} {j : Nat} {w : Value} (h : ls[j]? = some (.val w)) : (j, w) ∈ zlv ls := by
  refine List.mem_filterMap.mpr ⟨j, List.mem_range.mpr (Array.getElem?_eq_some_iff.mp h).1, ?_⟩
  rw [h]
theorem zlv_has {ls : Array Slot} {nL : Nat} (hs : ls.size = nL) (hw : lv_wf ls) : lv_has ls nL (zlv ls) := by
  refine ⟨hs, hw, fun q hq => ?_⟩
  obtain ⟨j, -, hj⟩ := List.mem_filterMap.mp hq
  split at hj
  · cases hj
    assumption
  · cases hj
def z0 : zAV := (0, 0, 0, 0, 0)
def zkill (L : List zAV) (i : Nat) : List zAV := match i with
  | 0 => L
  | j + 1 => match L[j]? with
    | some (2, _, _, _, _) => L.set j z0
    | _ => L
def zst1 (L : List zAV) (i : Nat) (a : zAV) : List zAV := (zkill L i).set i a
def zst2 (L : List zAV) (i : Nat) (a : zAV) : List zAV := ((zkill L i).set (i + 1) z0).set i a
theorem zkill_len (L : List zAV) (i : Nat) : (zkill L i).length = L.length := by
  unfold zkill
  split
  · rfl
  · split
    · rw [List.length_set]
    · rfl
theorem zm_cat2 {ad : Nat → Nat} {nu : List Int} {a : zAV} {v : Value} (h : zm ad nu a v) (hc : v.category = 2) (h0 : a.1 ≠ 0) : a.1 = 2 := by
  obtain ⟨tg, n, k, n2, k2⟩ := a
  match tg, h with
  | 0, _ => exact absurd rfl h0
  | 1, ⟨x, h1, h2⟩ => subst h1; cases hc
  | 2, ⟨x, h1, h2⟩ => rfl
  | 3, ⟨x, h1, h2⟩ => subst h1; cases hc
  | 4, ⟨x, y, h1, h2, h3⟩ => subst h1; cases hc
theorem zkill_get {L : List zAV} {i j : Nat} {a : zAV} (h : (zkill L i)[j]? = some a) (h0 : a.1 ≠ 0) : L[j]? = some a ∧ (j + 1 = i → a.1 ≠ 2) := by
  cases i with
  | zero => exact ⟨h, fun q => by omega⟩
  | succ i =>
    unfold zkill at h
    simp only at h
    split at h
    · by_cases hj : j = i
      · subst hj
        rw [List.getElem?_set_self ((List.getElem?_eq_some_iff.mp (by assumption)).1)] at h
        cases h
        exact absurd rfl h0
      · rw [List.getElem?_set_ne (Ne.symm hj)] at h
        exact ⟨h, fun q => by omega⟩
    · refine ⟨h, fun q hq => ?_⟩
      have e : j = i := by omega
      subst e
      obtain ⟨tg, n, k, n2, k2⟩ := a
      cases hq
      rename_i hne
      exact hne n k n2 k2 h
theorem zL.st1 {ad : Nat → Nat} {nu : List Int} {nL : Nat} {ls ls' : Array Slot} {L : List zAV} {i : Nat} {a : zAV} {v : Value} (h : zL ad nu nL ls L) (hi : i < nL) (ha : zm ad nu a v)
    (hl : lv_has ls' nL ((i, v) :: (zlv ls).filter (fun q => !(q.1 == i) && !(q.1 + 1 == i && q.2.category == 2)))) : zL ad nu nL ls' (zst1 L i a) := by
  refine ⟨hl.1, by unfold zst1; rw [List.length_set, zkill_len]; exact h.2.1, hl.2.1, fun j b hj hb => ?_⟩
  unfold zst1 at hj
  by_cases hji : j = i
  · subst hji
    rw [List.getElem?_set_self (by rw [zkill_len, h.2.1]; exact hi)] at hj
    cases hj
    exact ⟨v, hl.2.2 (j, v) List.mem_cons_self, ha⟩
  · rw [List.getElem?_set_ne (Ne.symm hji)] at hj
    obtain ⟨h1, h2⟩ := zkill_get hj hb
    obtain ⟨w, h3, h4⟩ := h.2.2.2 j b h1 hb
    refine ⟨w, hl.2.2 (j, w) (List.mem_cons_of_mem _ (List.mem_filter.mpr ⟨zlv_mem h3, ?_⟩)), h4⟩
    have n1 : (j == i) = false := by simpa using hji
    have n2 : (j + 1 == i && w.category == 2) = false := by
      by_cases q : j + 1 = i ∧ w.category = 2
      · exact absurd (zm_cat2 h4 q.2 hb) (h2 q.1)
      · rcases Classical.not_and_iff_not_or_not.mp q with q | q <;> simp [q]
    show (!(j == i) && !(j + 1 == i && w.category == 2)) = true
    rw [n1, n2]
    rfl
theorem zL.st2 {ad : Nat → Nat} {nu : List Int} {nL : Nat} {ls ls' : Array Slot} {L : List zAV} {i : Nat} {a : zAV} {v : Value} (h : zL ad nu nL ls L) (hi : i + 1 < nL) (ha : zm ad nu a v)
    (hl : lv_has ls' nL ((i, v) :: (zlv ls).filter (fun q => !(q.1 == i) && (!(q.1 == i + 1) && !(q.1 + 1 == i && q.2.category == 2))))) : zL ad nu nL ls' (zst2 L i a) := by
  refine ⟨hl.1, by unfold zst2; rw [List.length_set, List.length_set, zkill_len]; exact h.2.1, hl.2.1, fun j b hj hb => ?_⟩
  unfold zst2 at hj
  by_cases hji : j = i
  · subst hji
    rw [List.getElem?_set_self (by rw [List.length_set, zkill_len, h.2.1]; omega)] at hj
    cases hj
    exact ⟨v, hl.2.2 (j, v) List.mem_cons_self, ha⟩
  · rw [List.getElem?_set_ne (Ne.symm hji)] at hj
    by_cases hj1 : j = i + 1
    · subst hj1
      rw [List.getElem?_set_self (by rw [zkill_len, h.2.1]; exact hi)] at hj
      cases hj
      exact absurd rfl hb
    · rw [List.getElem?_set_ne (Ne.symm hj1)] at hj
      obtain ⟨h1, h2⟩ := zkill_get hj hb
      obtain ⟨w, h3, h4⟩ := h.2.2.2 j b h1 hb
      refine ⟨w, hl.2.2 (j, w) (List.mem_cons_of_mem _ (List.mem_filter.mpr ⟨zlv_mem h3, ?_⟩)), h4⟩
      have n1 : (j == i) = false := by simpa using hji
      have n3 : (j == i + 1) = false := by simpa using hj1
      have n2 : (j + 1 == i && w.category == 2) = false := by
        by_cases q : j + 1 = i ∧ w.category = 2
        · exact absurd (zm_cat2 h4 q.2 hb) (h2 q.1)
        · rcases Classical.not_and_iff_not_or_not.mp q with q | q <;> simp [q]
      show (!(j == i) && (!(j == i + 1) && !(j + 1 == i && w.category == 2))) = true
      rw [n1, n2, n3]
      rfl
