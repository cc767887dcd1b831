/-! THE PURE MACHINE'S STEPS ARE THE MACHINE'S: the world and its table of numbers; loads, stores, sums, branches -/
theorem ybif {b : Bool} {X : Prop} (h : bif b then X else False) : b = true ∧ X := by
  cases b with
  | true => exact ⟨rfl, h⟩
  | false => exact h.elim
theorem ybeq {a b : Nat} (h : Nat.beq a b = true) : a = b := Nat.eq_of_beq_eq_true h
theorem yble {a b : Nat} (h : Nat.ble a b = true) : a ≤ b := Nat.le_of_ble_eq_true h
def yval (Z : zZ) (ad : Nat → Nat) (t : Nat) (z : Int) (v : Value) : Prop := if 100 ≤ t then ∃ e, Z.1[t - 100]? = some e ∧ 0 ≤ z ∧ e.1 + z.toNat ≤ e.2.1 ∧ v = .ref (ad (e.1 + z.toNat)) else zval ad t z v
theorem yvI {Z : zZ} {ad : Nat → Nat} {z : Int} {x : Int32} (h : x.toInt = z) : yval Z ad 1 z (.int x) := by
  unfold yval
  rw [if_neg (by omega)]
  exact ⟨x, rfl, h⟩
theorem yvL {Z : zZ} {ad : Nat → Nat} {z : Int} {x : Int64} (h : x.toInt = z) : yval Z ad 2 z (.long x) := by
  unfold yval
  rw [if_neg (by omega)]
  exact ⟨x, rfl, h⟩
theorem yvR {Z : zZ} {ad : Nat → Nat} {z : Int} {q : Nat} (h : (q : Int) = z) : yval Z ad 3 z (.ref (ad q)) := by
  unfold yval
  rw [if_neg (by omega)]
  exact ⟨q, rfl, h⟩
theorem yvI' {Z : zZ} {ad : Nat → Nat} {z : Int} {v : Value} (h : yval Z ad 1 z v) : ∃ x : Int32, v = .int x ∧ x.toInt = z := by
  unfold yval at h
  rw [if_neg (by omega)] at h
  exact h
theorem yvL' {Z : zZ} {ad : Nat → Nat} {z : Int} {v : Value} (h : yval Z ad 2 z v) : ∃ x : Int64, v = .long x ∧ x.toInt = z := by
  unfold yval at h
  rw [if_neg (by omega)] at h
  exact h
theorem yvR' {Z : zZ} {ad : Nat → Nat} {t : Nat} {z : Int} {v : Value} (h : yval Z ad t z v) (ht : t = 3 ∨ 100 ≤ t) : v = .ref (ad (ypl Z t z)) := by
  unfold yval at h
  unfold ypl
  rcases ht with rfl | ht
  · rw [if_neg (by omega)] at h
    obtain ⟨q, h1, h2⟩ := h
    have e : z.toNat = q := by omega
    show v = .ref (ad z.toNat)
    rw [e]
    exact h1
  · rw [if_pos ht] at h
    obtain ⟨e, h1, h2, h3, h4⟩ := h
    have n3 : Nat.beq t 3 = false := by
      cases hb : Nat.beq t 3 with
      | false => rfl
      | true => have := ybeq hb; omega
    rw [n3, List.getD_eq_getElem?_getD, h1]
    exact h4
theorem yv0 {Z : zZ} {ad : Nat → Nat} {t : Nat} {z : Int} {v : Value} (h : yval Z ad t z v) : (t = 1 ∨ t = 2) ∨ (t = 3 ∨ 100 ≤ t) := by
  by_cases ht : 100 ≤ t
  · exact Or.inr (Or.inr ht)
  · unfold yval at h
    rw [if_neg ht] at h
    match t, h with
    | 1, _ => exact Or.inl (Or.inl rfl)
    | 2, _ => exact Or.inl (Or.inr rfl)
    | 3, _ => exact Or.inr (Or.inl rfl)
theorem ycat_ok {Z : zZ} {ad : Nat → Nat} {a : yV} {v : Value} (h : yval Z ad a.1 a.2 v) : v.category = ycat a := by
  obtain ⟨t, z⟩ := a
  rcases yv0 h with (rfl | rfl) | ht
  · obtain ⟨x, rfl, -⟩ := yvI' h
    rfl
  · obtain ⟨x, rfl, -⟩ := yvL' h
    rfl
  · have h2 := yvR' h ht
    have h2 : v = .ref (ad (ypl Z t z)) := h2
    subst h2
    have : t ≠ 2 := by omega
    show 1 = ycat (t, z)
    simp [ycat, this]
theorem yty_ref {Z : zZ} {t : Nat} {z : Int} {ct : zCT} (h : yty Z t z = some ct) : t = 3 ∨ 100 ≤ t := by
  unfold yty at h
  cases h3 : Nat.beq t 3 with
  | true => exact Or.inl (ybeq h3)
  | false =>
    rw [h3] at h
    cases h4 : Nat.ble 100 t with
    | true => exact Or.inr (yble h4)
    | false =>
      rw [h4] at h
      cases h
theorem yty_ok {Z : zZ} {ad : Nat → Nat} {t : Nat} {z : Int} {ct : zCT} {v : Value} (h : yty Z t z = some ct) (hv : yval Z ad t z v) : v = .ref (ad (ypl Z t z)) ∧ ∃ e ∈ Z.1, e.1 ≤ ypl Z t z ∧ ypl Z t z ≤ e.2.1 ∧ e.2.2 = ct := by
  have hr := yty_ref h
  refine ⟨yvR' hv hr, ?_⟩
  unfold yty at h
  rcases hr with rfl | ht
  · have h : (Z.1.find? (fun e => Nat.ble e.1 z.toNat && Nat.ble z.toNat e.2.1)).map (fun e => e.2.2) = some ct := h
    obtain ⟨e, h1, h2⟩ := Option.map_eq_some_iff.mp h
    have h3 := List.find?_some h1
    rw [Bool.and_eq_true] at h3
    exact ⟨e, List.mem_of_find?_eq_some h1, yble h3.1, yble h3.2, h2⟩
  · have n3 : Nat.beq t 3 = false := by
      cases hb : Nat.beq t 3 with
      | false => rfl
      | true => have := ybeq hb; omega
    rw [n3, Nat.ble_eq_true_of_le ht] at h
    have h : (Z.1[t - 100]?).map (fun e => e.2.2) = some ct := h
    obtain ⟨e, h1, h2⟩ := Option.map_eq_some_iff.mp h
    unfold yval at hv
    rw [if_pos ht] at hv
    obtain ⟨e', g1, g2, g3, g4⟩ := hv
    rw [h1] at g1
    cases g1
    refine ⟨e, List.mem_of_getElem? h1, ?_, ?_, h2⟩
    · unfold ypl
      rw [n3, List.getD_eq_getElem?_getD, h1]
      exact Nat.le_add_right _ _
    · unfold ypl
      rw [n3, List.getD_eq_getElem?_getD, h1]
      exact g3
/-- a field's value -/
def yfv (ad : Nat → Nat) (q : Nat) (ft : zFT) (z : Int) (v : Value) : Prop := match ft with
  | (1, _, _) => ∃ x : Int64, v = .long x ∧ x.toInt = z
  | (2, lo, hi) => ∃ r : Nat, v = .ref (ad r) ∧ lo ≤ (r : Int) ∧ (r : Int) ≤ hi ∧ (r : Int) = z
  | (4, d, _) => v = .ref (ad (q + d.toNat))
  | _ => ∃ x : Int32, v = .int x ∧ x.toInt = z
def ycell (ad : Nat → Nat) (tys : List (ClassId × FieldType)) (ws : va_W) (g : yM) (q : Nat) (ct : zCT) : Prop := match ct with
  | (0, ci, _, fts) => ∃ fs : List Value, ws[q]? = some (ad q, .inr (ci, fs)) ∧ fs.length = fts.length ∧ ∀ (j : Nat) (ft : zFT) (v : Value), fts[j]? = some ft → fs[j]? = some v → yfv ad q ft (g q j) v
  | (1, t0, len, _) => ∃ (cA : ClassId) (f : Nat → Int32), ws[q]? = some (ad q, .inl (cA, len, .inl f)) ∧ tys[t0]? = some (cA, .int) ∧ ∀ j : Nat, j < len → (f j).toInt = g q j
  | (2, t0, len, _) => ∃ (cA : ClassId) (f : Nat → Int32), ws[q]? = some (ad q, .inl (cA, len, .inl f)) ∧ tys[t0]? = some (cA, .byte) ∧ ∀ j : Nat, j < len → (f j).toInt = g q j
  | (3, t0, len, _) => ∃ (cA : ClassId) (f : Nat → Int64), ws[q]? = some (ad q, .inl (cA, len, .inr (.inl f))) ∧ tys[t0]? = some (cA, .long) ∧ ∀ j : Nat, j < len → (f j).toInt = g q j
  | (4, t0, len, fts) => ∃ (cA : ClassId) (C : String) (f : Nat → Option Nat), ws[q]? = some (ad q, .inl (cA, len, .inr (.inr (.inr (.inr f))))) ∧ tys[t0]? = some (cA, .object C) ∧ ∀ (j : Nat) (ft : zFT), j < len → fts[0]? = some ft → f j = some (ad (ft.2.1.toNat + j))
  | (5, t0, len, fts) => ∃ (cA : ClassId) (f : Nat → Option Nat), ws[q]? = some (ad q, .inl (cA, len, .inr (.inr (.inr (.inr f))))) ∧ tys[t0]? = some (cA, .array .long) ∧ ∀ (j : Nat) (ft : zFT), j < len → fts[0]? = some ft → f j = some (ad (ft.2.1.toNat + j))
  | (6, t0, len, _) => ∃ (cA : ClassId) (f : Nat → Int32), ws[q]? = some (ad q, .inl (cA, len, .inl f)) ∧ tys[t0]? = some (cA, .int) ∧ ∀ j : Nat, j < len → (f j).toInt = g q j
  | (7, t0, len, _) => ∃ (cA : ClassId) (f : Nat → Int32), ws[q]? = some (ad q, .inl (cA, len, .inl f)) ∧ tys[t0]? = some (cA, .int) ∧ ∀ j : Nat, j < len → (f j).toInt = g q j
  | _ => False
def yMem (Z : zZ) (ad : Nat → Nat) (tys : List (ClassId × FieldType)) (ws : va_W) (g : yM) : Prop := ∀ e ∈ Z.1, ∀ q : Nat, e.1 ≤ q → q ≤ e.2.1 → ycell ad tys ws g q e.2.2
def yS (Z : zZ) (ad : Nat → Nat) : List yV → List Value → Prop
  | [], [] => True
  | a :: as, v :: vs => yval Z ad a.1 a.2 v ∧ yS Z ad as vs
  | _, _ => False
def yL (Z : zZ) (ad : Nat → Nat) (nL : Nat) (ls : Array Slot) (L : List yV) : Prop := ls.size = nL ∧ L.length = nL ∧ lv_wf ls ∧ ∀ (i : Nat) (a : yV), L[i]? = some a → a.1 ≠ 0 → ∃ v, ls[i]? = some (.val v) ∧ yval Z ad a.1 a.2 v
def yG (Z : zZ) (D : va_G) (cl : List vw_C) (tys : List (ClassId × FieldType)) (A : Nat → Prop) (ad : Nat → Nat) (H0 : Heap) (nL : Nat) (L st : List yV) (g : yM) (ls : Array Slot) (stc : List Value) (ws : va_W) (H : Heap) (locs : List Loc) : Prop :=
  va_P D cl ws H ∧ va_D A ws ∧ va_S A H0 H locs ∧ yMem Z ad tys ws g ∧ yL Z ad nL ls L ∧ yS Z ad st stc
def yWP (F : List yV → List yV → yM → Array Slot → List Value → va_W → Heap → List Loc → Prop) (Wm : Heap → List Loc → Nat → Array Slot → List Value → Prop) (pc : Nat) (L st : List yV) (g : yM) : Prop :=
  ∀ (ls : Array Slot) (stc : List Value) (ws : va_W) (H : Heap) (locs : List Loc), F L st g ls stc ws H locs → Wm H locs pc ls stc
theorem yget_ok : ∀ {L : List yV} {i : Nat}, (yget L i).1 ≠ 0 → L[i]? = some (yget L i)
  | [], _, h => absurd rfl h
  | _ :: _, 0, _ => rfl
  | _ :: r, n + 1, h => yget_ok (L := r) (i := n) h
theorem ysetK_ok : ∀ {L : List yV} {i : Nat} {v : yV} {k : List yV → Prop}, ysetK L i v k → i < L.length ∧ k (L.set i v)
  | [], _, _, _, h => h.elim
  | _ :: r, 0, v, k, h => ⟨Nat.succ_pos _, h⟩
  | a :: r, n + 1, v, k, h => by
    obtain ⟨h1, h2⟩ := ysetK_ok (L := r) (i := n) h
    exact ⟨Nat.succ_lt_succ h1, h2⟩
def ykill (L : List yV) (i : Nat) : List yV := match i with
  | 0 => L
  | j + 1 => if (yget L j).1 = 2 then L.set j (0, 0) else L
theorem ykillK_ok {L : List yV} {i : Nat} {k : List yV → Prop} (h : ykillK L i k) : k (ykill L i) := by
  unfold ykillK at h
  unfold ykill
  cases i with
  | zero => exact h
  | succ j =>
    simp only at h ⊢
    cases hb : Nat.beq (yget L j).1 2 with
    | true =>
      rw [hb] at h
      rw [if_pos (ybeq hb)]
      exact (ysetK_ok h).2
    | false =>
      rw [hb] at h
      rw [if_neg (fun q => by rw [q] at hb; cases hb)]
      exact h
theorem ykill_len (L : List yV) (i : Nat) : (ykill L i).length = L.length := by
  unfold ykill
  cases i with
  | zero => rfl
  | succ j =>
    simp only
    split
    · rw [List.length_set]
    · rfl
theorem ykill_get {L : List yV} {i j : Nat} {a : yV} (h : (ykill L i)[j]? = some a) (h0 : a.1 ≠ 0) : L[j]? = some a ∧ (j + 1 = i → a.1 ≠ 2) := by
  cases i with
  | zero => exact ⟨h, fun q => by omega⟩
  | succ i =>
    unfold ykill at h
    simp only at h
    split at h
    · rename_i h2
      by_cases hj : j = i
      · subst hj
        have hl : j < L.length := by
          have := (List.getElem?_eq_some_iff.mp h).1
          rw [List.length_set] at this
          exact this
        rw [List.getElem?_set_self hl] at h
        cases h
        exact absurd rfl h0
      · rw [List.getElem?_set_ne (Ne.symm hj)] at h
        exact ⟨h, fun q => by omega⟩
    · rename_i h2
      refine ⟨h, fun q hq => h2 ?_⟩
      have e : j = i := by omega
      subst e
      have h3 : ∀ {L : List yV} {i : Nat} {a : yV}, L[i]? = some a → yget L i = a := by
        intro L
        induction L with
        | nil => intro i a h; simp at h
        | cons b r ih =>
          intro i a h
          cases i with
          | zero => rw [List.getElem?_cons_zero] at h; cases h; rfl
          | succ i => rw [List.getElem?_cons_succ] at h; exact ih h
      rw [h3 h]
      exact hq
theorem yL.st1 {Z : zZ} {ad : Nat → Nat} {nL : Nat} {ls ls' : Array Slot} {L : List yV} {i : Nat} {a : yV} {v : Value} (h : yL Z ad nL ls L) (hi : i < nL) (ha : yval Z ad a.1 a.2 v)
    (hl : lv_has ls' nL ((i, v) :: (zlv ls).filter (fun q => !(q.1 == i) && !(q.1 + 1 == i && q.2.category == 2)))) : yL Z ad nL ls' ((ykill L i).set i a) := by
  refine ⟨hl.1, by rw [List.length_set, ykill_len]; exact h.2.1, hl.2.1, fun j b hj hb => ?_⟩
  by_cases hji : j = i
  · subst hji
    rw [List.getElem?_set_self (by rw [ykill_len, h.2.1]; exact hi)] at hj
    cases hj
    exact ⟨v, hl.2.2 (j, v) List.mem_cons_self, ha⟩
  · rw [List.getElem?_set_ne (Ne.symm hji)] at hj
    obtain ⟨h1, h2⟩ := ykill_get hj hb
    obtain ⟨w, h3, h4⟩ := h.2.2.2 j b h1 hb
    refine ⟨w, hl.2.2 (j, w) (List.mem_cons_of_mem _ (List.mem_filter.mpr ⟨zlv_mem h3, ?_⟩)), h4⟩
    have n1 : (j == i) = false := by simpa using hji
    have n2 : (j + 1 == i && w.category == 2) = false := by
      by_cases q : j + 1 = i ∧ w.category = 2
      · have hc := ycat_ok h4
        rw [q.2] at hc
        unfold ycat at hc
        split at hc
        · rename_i h5; exact absurd h5 (h2 q.1)
        · omega
      · rcases Classical.not_and_iff_not_or_not.mp q with q | q <;> simp [q]
    show (!(j == i) && !(j + 1 == i && w.category == 2)) = true
    rw [n1, n2]
    rfl
theorem yL.st2 {Z : zZ} {ad : Nat → Nat} {nL : Nat} {ls ls' : Array Slot} {L : List yV} {i : Nat} {a : yV} {v : Value} (h : yL Z ad nL ls L) (hi : i + 1 < nL) (ha : yval Z ad a.1 a.2 v)
    (hl : lv_has ls' nL ((i, v) :: (zlv ls).filter (fun q => !(q.1 == i) && (!(q.1 == i + 1) && !(q.1 + 1 == i && q.2.category == 2))))) : yL Z ad nL ls' (((ykill L i).set (i + 1) (0, 0)).set i a) := by
  refine ⟨hl.1, by rw [List.length_set, List.length_set, ykill_len]; exact h.2.1, hl.2.1, fun j b hj hb => ?_⟩
  by_cases hji : j = i
  · subst hji
    rw [List.getElem?_set_self (by rw [List.length_set, ykill_len, h.2.1]; omega)] at hj
    cases hj
    exact ⟨v, hl.2.2 (j, v) List.mem_cons_self, ha⟩
  · rw [List.getElem?_set_ne (Ne.symm hji)] at hj
    by_cases hj1 : j = i + 1
    · subst hj1
      rw [List.getElem?_set_self (by rw [ykill_len, h.2.1]; exact hi)] at hj
      cases hj
      exact absurd rfl hb
    · rw [List.getElem?_set_ne (Ne.symm hj1)] at hj
      obtain ⟨h1, h2⟩ := ykill_get hj hb
      obtain ⟨w, h3, h4⟩ := h.2.2.2 j b h1 hb
      refine ⟨w, hl.2.2 (j, w) (List.mem_cons_of_mem _ (List.mem_filter.mpr ⟨zlv_mem h3, ?_⟩)), h4⟩
      have n1 : (j == i) = false := by simpa using hji
      have n3 : (j == i + 1) = false := by simpa using hj1
      have n2 : (j + 1 == i && w.category == 2) = false := by
        by_cases q : j + 1 = i ∧ w.category = 2
        · have hc := ycat_ok h4
          rw [q.2] at hc
          unfold ycat at hc
          split at hc
          · rename_i h5; exact absurd h5 (h2 q.1)
          · omega
        · rcases Classical.not_and_iff_not_or_not.mp q with q | q <;> simp [q]
      show (!(j == i) && (!(j == i + 1) && !(j + 1 == i && w.category == 2))) = true
      rw [n1, n2, n3]
      rfl
theorem yofI (x : Int32) : Int32.ofInt x.toInt = x := by
  apply Int32.toInt_inj.mp
  rw [zofI (Int32.le_toInt x) (by have := Int32.toInt_lt x; omega)]
theorem yofL (x : Int64) : Int64.ofInt x.toInt = x := by
  apply Int64.toInt_inj.mp
  rw [zofL (Int64.le_toInt x) (by have := Int64.toInt_lt x; omega)]
section YS
variable {p : Program} {l : Launch} {e : Env} {R : Room} {s : State} {m : MethodId} {args : Array Value} {below : List Frame} {meth : Method} {c : Code} {Q : State → Prop} {cc : ByteArray} {pc ce sl : Nat}
variable {Z : zZ} {D : va_G} {cl : List vw_C} {tys : List (ClassId × FieldType)} {A : Nat → Prop} {ad : Nat → Nat} {H0 : Heap} {nL : Nat}
variable {nx : yNx} {L st : List yV} {g : yM} {len : Nat}
theorem yk_cI {n lo hi : Int} {el : Nat} {v : Int32} (h : yi_c 1 pc nx L st g n lo hi len el) (hv : lo ≤ n → n ≤ hi → v.toInt = n) (row : len = el → ∀ (H : Heap) (locs : List Loc) (ls : Array Slot) (rest : List Value), W p l e R s m args below meth c H locs ce sl Q (F0 m (pc + el) ls (.int v :: rest)) → W p l e R s m args below meth c H locs ce sl Q (F0 m pc ls rest)) (k : ∀ (pc' : Nat) (L' st' : List yV) (g' : yM), nx pc' L' st' g' → yWP (yG Z D cl tys A ad H0 nL) (fun H locs pc ls st => W p l e R s m args below meth c H locs ce sl Q (F0 m pc ls st)) pc' L' st' g') : yWP (yG Z D cl tys A ad H0 nL) (fun H locs pc ls st => W p l e R s m args below meth c H locs ce sl Q (F0 m pc ls st)) pc L st g := by
  obtain ⟨h1, h2⟩ := ybif h
  rw [Bool.and_eq_true, Bool.and_eq_true] at h1
  intro ls stc ws H locs hG
  obtain ⟨hP, hD, hS, hM, hL, hT⟩ := hG
  exact row (ybeq h1.1) H locs ls stc (k _ _ _ _ h2 ls _ ws H locs ⟨hP, hD, hS, hM, hL, yvI (hv (zleI_ok h1.2.1) (zleI_ok h1.2.2)), hT⟩)
theorem yk_cL {n lo hi : Int} {el : Nat} {v : Int64} (h : yi_c 2 pc nx L st g n lo hi len el) (hv : lo ≤ n → n ≤ hi → v.toInt = n) (row : len = el → ∀ (H : Heap) (locs : List Loc) (ls : Array Slot) (rest : List Value), W p l e R s m args below meth c H locs ce sl Q (F0 m (pc + el) ls (.long v :: rest)) → W p l e R s m args below meth c H locs ce sl Q (F0 m pc ls rest)) (k : ∀ (pc' : Nat) (L' st' : List yV) (g' : yM), nx pc' L' st' g' → yWP (yG Z D cl tys A ad H0 nL) (fun H locs pc ls st => W p l e R s m args below meth c H locs ce sl Q (F0 m pc ls st)) pc' L' st' g') : yWP (yG Z D cl tys A ad H0 nL) (fun H locs pc ls st => W p l e R s m args below meth c H locs ce sl Q (F0 m pc ls st)) pc L st g := by
  obtain ⟨h1, h2⟩ := ybif h
  rw [Bool.and_eq_true, Bool.and_eq_true] at h1
  intro ls stc ws H locs hG
  obtain ⟨hP, hD, hS, hM, hL, hT⟩ := hG
  exact row (ybeq h1.1) H locs ls stc (k _ _ _ _ h2 ls _ ws H locs ⟨hP, hD, hS, hM, hL, yvL (hv (zleI_ok h1.2.1) (zleI_ok h1.2.2)), hT⟩)
theorem yk_ldcI {tb : List (Nat × Int)} {idx el : Nat} (h : yi_ldc tb 1 pc nx L st g idx len el) (row : len = el → ∀ q ∈ tb, q.1 = idx → ∃ v : Int32, v.toInt = q.2 ∧ ∀ (H : Heap) (locs : List Loc) (ls : Array Slot) (rest : List Value), W p l e R s m args below meth c H locs ce sl Q (F0 m (pc + el) ls (.int v :: rest)) → W p l e R s m args below meth c H locs ce sl Q (F0 m pc ls rest)) (k : ∀ (pc' : Nat) (L' st' : List yV) (g' : yM), nx pc' L' st' g' → yWP (yG Z D cl tys A ad H0 nL) (fun H locs pc ls st => W p l e R s m args below meth c H locs ce sl Q (F0 m pc ls st)) pc' L' st' g') : yWP (yG Z D cl tys A ad H0 nL) (fun H locs pc ls st => W p l e R s m args below meth c H locs ce sl Q (F0 m pc ls st)) pc L st g := by
  unfold yi_ldc at h
  split at h
  · rename_i f hf
    obtain ⟨h1, h2⟩ := ybif h
    obtain ⟨v, hv, hr⟩ := row (ybeq h1) f (List.mem_of_find?_eq_some hf) (by have := List.find?_some hf; simpa using this)
    intro ls stc ws H locs hG
    obtain ⟨hP, hD, hS, hM, hL, hT⟩ := hG
    exact hr H locs ls stc (k _ _ _ _ h2 ls _ ws H locs ⟨hP, hD, hS, hM, hL, yvI hv, hT⟩)
  · exact h.elim
theorem yk_ldcL {tb : List (Nat × Int)} {idx el : Nat} (h : yi_ldc tb 2 pc nx L st g idx len el) (row : len = el → ∀ q ∈ tb, q.1 = idx → ∃ v : Int64, v.toInt = q.2 ∧ ∀ (H : Heap) (locs : List Loc) (ls : Array Slot) (rest : List Value), W p l e R s m args below meth c H locs ce sl Q (F0 m (pc + el) ls (.long v :: rest)) → W p l e R s m args below meth c H locs ce sl Q (F0 m pc ls rest)) (k : ∀ (pc' : Nat) (L' st' : List yV) (g' : yM), nx pc' L' st' g' → yWP (yG Z D cl tys A ad H0 nL) (fun H locs pc ls st => W p l e R s m args below meth c H locs ce sl Q (F0 m pc ls st)) pc' L' st' g') : yWP (yG Z D cl tys A ad H0 nL) (fun H locs pc ls st => W p l e R s m args below meth c H locs ce sl Q (F0 m pc ls st)) pc L st g := by
  unfold yi_ldc at h
  split at h
  · rename_i f hf
    obtain ⟨h1, h2⟩ := ybif h
    obtain ⟨v, hv, hr⟩ := row (ybeq h1) f (List.mem_of_find?_eq_some hf) (by have := List.find?_some hf; simpa using this)
    intro ls stc ws H locs hG
    obtain ⟨hP, hD, hS, hM, hL, hT⟩ := hG
    exact hr H locs ls stc (k _ _ _ _ h2 ls _ ws H locs ⟨hP, hD, hS, hM, hL, yvL hv, hT⟩)
  · exact h.elim
theorem yk_cell {tb : List (Nat × Nat)} {idx el : Nat} (h : yi_cell tb pc nx L st g idx len el) (row : len = el → ∀ q ∈ tb, q.1 = idx → ∀ (H : Heap) (locs : List Loc) (ls : Array Slot) (rest : List Value), va_S A H0 H locs → W p l e R s m args below meth c H locs ce sl Q (F0 m (pc + el) ls (.ref (ad q.2) :: rest)) → W p l e R s m args below meth c H locs ce sl Q (F0 m pc ls rest)) (k : ∀ (pc' : Nat) (L' st' : List yV) (g' : yM), nx pc' L' st' g' → yWP (yG Z D cl tys A ad H0 nL) (fun H locs pc ls st => W p l e R s m args below meth c H locs ce sl Q (F0 m pc ls st)) pc' L' st' g') : yWP (yG Z D cl tys A ad H0 nL) (fun H locs pc ls st => W p l e R s m args below meth c H locs ce sl Q (F0 m pc ls st)) pc L st g := by
  unfold yi_cell at h
  split at h
  · rename_i f hf
    obtain ⟨h1, h2⟩ := ybif h
    have hr := row (ybeq h1) f (List.mem_of_find?_eq_some hf) (by have := List.find?_some hf; simpa using this)
    intro ls stc ws H locs hG
    obtain ⟨hP, hD, hS, hM, hL, hT⟩ := hG
    exact hr H locs ls stc hS (k _ _ _ _ h2 ls _ ws H locs ⟨hP, hD, hS, hM, hL, yvR rfl, hT⟩)
  · exact h.elim
theorem yk_ldI {i el : Nat} (h : yi_ld 1 pc nx L st g i len el) (row : len = el → ∀ (H : Heap) (locs : List Loc) (ls : Array Slot) (rest : List Value) (x : Int32), ls[i]? = some (.val (.int x)) → W p l e R s m args below meth c H locs ce sl Q (F0 m (pc + el) ls (.int x :: rest)) → W p l e R s m args below meth c H locs ce sl Q (F0 m pc ls rest)) (k : ∀ (pc' : Nat) (L' st' : List yV) (g' : yM), nx pc' L' st' g' → yWP (yG Z D cl tys A ad H0 nL) (fun H locs pc ls st => W p l e R s m args below meth c H locs ce sl Q (F0 m pc ls st)) pc' L' st' g') : yWP (yG Z D cl tys A ad H0 nL) (fun H locs pc ls st => W p l e R s m args below meth c H locs ce sl Q (F0 m pc ls st)) pc L st g := by
  unfold yi_ld at h
  rcases hg : yget L i with ⟨t, z⟩
  rw [hg] at h
  obtain ⟨h1, h2⟩ := ybif h
  rw [Bool.and_eq_true] at h1
  have ht := ybeq h1.2
  subst ht
  intro ls stc ws H locs hG
  obtain ⟨hP, hD, hS, hM, hL, hT⟩ := hG
  obtain ⟨v, g1, g2⟩ := hL.2.2.2 i (1, z) (by rw [← hg]; exact yget_ok (by rw [hg]; simp)) (by simp)
  obtain ⟨x, rfl, g3⟩ := yvI' g2
  exact row (ybeq h1.1) H locs ls stc x g1 (k _ _ _ _ h2 ls _ ws H locs ⟨hP, hD, hS, hM, hL, yvI g3, hT⟩)
theorem yk_ldL {i el : Nat} (h : yi_ld 2 pc nx L st g i len el) (row : len = el → ∀ (H : Heap) (locs : List Loc) (ls : Array Slot) (rest : List Value) (x : Int64), ls[i]? = some (.val (.long x)) → W p l e R s m args below meth c H locs ce sl Q (F0 m (pc + el) ls (.long x :: rest)) → W p l e R s m args below meth c H locs ce sl Q (F0 m pc ls rest)) (k : ∀ (pc' : Nat) (L' st' : List yV) (g' : yM), nx pc' L' st' g' → yWP (yG Z D cl tys A ad H0 nL) (fun H locs pc ls st => W p l e R s m args below meth c H locs ce sl Q (F0 m pc ls st)) pc' L' st' g') : yWP (yG Z D cl tys A ad H0 nL) (fun H locs pc ls st => W p l e R s m args below meth c H locs ce sl Q (F0 m pc ls st)) pc L st g := by
  unfold yi_ld at h
  rcases hg : yget L i with ⟨t, z⟩
  rw [hg] at h
  obtain ⟨h1, h2⟩ := ybif h
  rw [Bool.and_eq_true] at h1
  have ht := ybeq h1.2
  subst ht
  intro ls stc ws H locs hG
  obtain ⟨hP, hD, hS, hM, hL, hT⟩ := hG
  obtain ⟨v, g1, g2⟩ := hL.2.2.2 i (2, z) (by rw [← hg]; exact yget_ok (by rw [hg]; simp)) (by simp)
  obtain ⟨x, rfl, g3⟩ := yvL' g2
  exact row (ybeq h1.1) H locs ls stc x g1 (k _ _ _ _ h2 ls _ ws H locs ⟨hP, hD, hS, hM, hL, yvL g3, hT⟩)
theorem yref {t : Nat} (h : (Nat.beq t 3 || Nat.ble 100 t) = true) : t = 3 ∨ 100 ≤ t := by
  rcases Bool.or_eq_true_iff.mp h with h | h
  · exact Or.inl (ybeq h)
  · exact Or.inr (yble h)
theorem yk_ldA {i el : Nat} (h : yi_ldA pc nx L st g i len el) (row : len = el → ∀ (H : Heap) (locs : List Loc) (ls : Array Slot) (rest : List Value) (x : Nat), ls[i]? = some (.val (.ref x)) → W p l e R s m args below meth c H locs ce sl Q (F0 m (pc + el) ls (.ref x :: rest)) → W p l e R s m args below meth c H locs ce sl Q (F0 m pc ls rest)) (k : ∀ (pc' : Nat) (L' st' : List yV) (g' : yM), nx pc' L' st' g' → yWP (yG Z D cl tys A ad H0 nL) (fun H locs pc ls st => W p l e R s m args below meth c H locs ce sl Q (F0 m pc ls st)) pc' L' st' g') : yWP (yG Z D cl tys A ad H0 nL) (fun H locs pc ls st => W p l e R s m args below meth c H locs ce sl Q (F0 m pc ls st)) pc L st g := by
  unfold yi_ldA at h
  rcases hg : yget L i with ⟨t, z⟩
  rw [hg] at h
  obtain ⟨h1, h2⟩ := ybif h
  rw [Bool.and_eq_true] at h1
  have ht := yref h1.2
  intro ls stc ws H locs hG
  obtain ⟨hP, hD, hS, hM, hL, hT⟩ := hG
  obtain ⟨v, g1, g2⟩ := hL.2.2.2 i (t, z) (by rw [← hg]; exact yget_ok (by rw [hg]; show t ≠ 0; omega)) (by show t ≠ 0; omega)
  have g3 := yvR' g2 ht
  subst g3
  exact row (ybeq h1.1) H locs ls stc _ g1 (k _ _ _ _ h2 ls _ ws H locs ⟨hP, hD, hS, hM, hL, g2, hT⟩)
theorem yk_stI {i el : Nat} (h : yi_st 1 pc nx L st g i len el) (row : len = el → ∀ (H : Heap) (locs : List Loc) (ls : Array Slot) (rest : List Value) (x : Int32), lv_has ls nL (zlv ls) → i < nL → (∀ ls' : Array Slot, lv_has ls' nL ((i, Value.int x) :: (zlv ls).filter (fun q => !(q.1 == i) && !(q.1 + 1 == i && q.2.category == 2))) → W p l e R s m args below meth c H locs ce sl Q (F0 m (pc + el) ls' rest)) → W p l e R s m args below meth c H locs ce sl Q (F0 m pc ls (.int x :: rest))) (k : ∀ (pc' : Nat) (L' st' : List yV) (g' : yM), nx pc' L' st' g' → yWP (yG Z D cl tys A ad H0 nL) (fun H locs pc ls st => W p l e R s m args below meth c H locs ce sl Q (F0 m pc ls st)) pc' L' st' g') : yWP (yG Z D cl tys A ad H0 nL) (fun H locs pc ls st => W p l e R s m args below meth c H locs ce sl Q (F0 m pc ls st)) pc L st g := by
  match st, h with
  | (t, z) :: r, h =>
    obtain ⟨h1, h2⟩ := ybif h
    rw [Bool.and_eq_true] at h1
    have ht := ybeq h1.2
    subst ht
    obtain ⟨h3, h4⟩ := ysetK_ok (ykillK_ok h2)
    intro ls stc ws H locs hG
    obtain ⟨hP, hD, hS, hM, hL, hT⟩ := hG
    match stc, hT with
    | v :: stc, ⟨hv, hT⟩ =>
      obtain ⟨x, rfl, g3⟩ := yvI' hv
      rw [ykill_len, hL.2.1] at h3
      exact row (ybeq h1.1) H locs ls stc x (zlv_has hL.1 hL.2.2.1) h3 (fun ls' hl => k _ _ _ _ h4 ls' _ ws H locs ⟨hP, hD, hS, hM, hL.st1 (a := (1, z)) h3 hv hl, hT⟩)
theorem yk_stA {i el : Nat} (h : yi_stA pc nx L st g i len el) (row : len = el → ∀ (H : Heap) (locs : List Loc) (ls : Array Slot) (rest : List Value) (x : Nat), lv_has ls nL (zlv ls) → i < nL → (∀ ls' : Array Slot, lv_has ls' nL ((i, Value.ref x) :: (zlv ls).filter (fun q => !(q.1 == i) && !(q.1 + 1 == i && q.2.category == 2))) → W p l e R s m args below meth c H locs ce sl Q (F0 m (pc + el) ls' rest)) → W p l e R s m args below meth c H locs ce sl Q (F0 m pc ls (.ref x :: rest))) (k : ∀ (pc' : Nat) (L' st' : List yV) (g' : yM), nx pc' L' st' g' → yWP (yG Z D cl tys A ad H0 nL) (fun H locs pc ls st => W p l e R s m args below meth c H locs ce sl Q (F0 m pc ls st)) pc' L' st' g') : yWP (yG Z D cl tys A ad H0 nL) (fun H locs pc ls st => W p l e R s m args below meth c H locs ce sl Q (F0 m pc ls st)) pc L st g := by
  match st, h with
  | (t, z) :: r, h =>
    obtain ⟨h1, h2⟩ := ybif h
    rw [Bool.and_eq_true] at h1
    have ht := yref h1.2
    obtain ⟨h3, h4⟩ := ysetK_ok (ykillK_ok h2)
    intro ls stc ws H locs hG
    obtain ⟨hP, hD, hS, hM, hL, hT⟩ := hG
    match stc, hT with
    | v :: stc, ⟨hv, hT⟩ =>
      have g3 := yvR' hv ht
      subst g3
      rw [ykill_len, hL.2.1] at h3
      exact row (ybeq h1.1) H locs ls stc _ (zlv_has hL.1 hL.2.2.1) h3 (fun ls' hl => k _ _ _ _ h4 ls' _ ws H locs ⟨hP, hD, hS, hM, hL.st1 (a := (t, z)) h3 hv hl, hT⟩)
theorem yk_stL {i el : Nat} (h : yi_stL pc nx L st g i len el) (row : len = el → ∀ (H : Heap) (locs : List Loc) (ls : Array Slot) (rest : List Value) (x : Int64), lv_has ls nL (zlv ls) → i + 1 < nL → (∀ ls' : Array Slot, lv_has ls' nL ((i, Value.long x) :: (zlv ls).filter (fun q => !(q.1 == i) && (!(q.1 == i + 1) && !(q.1 + 1 == i && q.2.category == 2)))) → W p l e R s m args below meth c H locs ce sl Q (F0 m (pc + el) ls' rest)) → W p l e R s m args below meth c H locs ce sl Q (F0 m pc ls (.long x :: rest))) (k : ∀ (pc' : Nat) (L' st' : List yV) (g' : yM), nx pc' L' st' g' → yWP (yG Z D cl tys A ad H0 nL) (fun H locs pc ls st => W p l e R s m args below meth c H locs ce sl Q (F0 m pc ls st)) pc' L' st' g') : yWP (yG Z D cl tys A ad H0 nL) (fun H locs pc ls st => W p l e R s m args below meth c H locs ce sl Q (F0 m pc ls st)) pc L st g := by
  match st, h with
  | (t, z) :: r, h =>
    obtain ⟨h1, h2⟩ := ybif h
    rw [Bool.and_eq_true] at h1
    have ht := ybeq h1.2
    subst ht
    obtain ⟨h3, h4⟩ := ysetK_ok (ykillK_ok h2)
    obtain ⟨h5, h6⟩ := ysetK_ok h4
    intro ls stc ws H locs hG
    obtain ⟨hP, hD, hS, hM, hL, hT⟩ := hG
    match stc, hT with
    | v :: stc, ⟨hv, hT⟩ =>
      obtain ⟨x, rfl, g3⟩ := yvL' hv
      rw [ykill_len, hL.2.1] at h3
      exact row (ybeq h1.1) H locs ls stc x (zlv_has hL.1 hL.2.2.1) h3 (fun ls' hl => k _ _ _ _ h6 ls' _ ws H locs ⟨hP, hD, hS, hM, hL.st2 (a := (2, z)) h3 hv hl, hT⟩)
theorem yk_iinc (hx : p.tables.exec = Jvm.exec) (hb : c.code = cc) {i : Nat} {d : Int} (h : yi_iinc pc nx L st g i d len) (hd : decode cc pc = .ok (.iinc i d, len)) (k : ∀ (pc' : Nat) (L' st' : List yV) (g' : yM), nx pc' L' st' g' → yWP (yG Z D cl tys A ad H0 nL) (fun H locs pc ls st => W p l e R s m args below meth c H locs ce sl Q (F0 m pc ls st)) pc' L' st' g') : yWP (yG Z D cl tys A ad H0 nL) (fun H locs pc ls st => W p l e R s m args below meth c H locs ce sl Q (F0 m pc ls st)) pc L st g := by
  unfold yi_iinc at h
  rcases hg : yget L i with ⟨t, z⟩
  rw [hg] at h
  obtain ⟨h1, h2⟩ := ybif h
  rw [Bool.and_eq_true, Bool.and_eq_true, Bool.and_eq_true] at h1
  have e3 := ybeq h1.1
  subst e3
  have ht := ybeq h1.2.1
  subst ht
  obtain ⟨h3, h4⟩ := ysetK_ok (ykillK_ok h2)
  intro ls stc ws H locs hG
  obtain ⟨hP, hD, hS, hM, hL, hT⟩ := hG
  obtain ⟨v, g1, g2⟩ := hL.2.2.2 i (1, z) (by rw [← hg]; exact yget_ok (by rw [hg]; simp)) (by simp)
  obtain ⟨x, rfl, g3⟩ := yvI' g2
  obtain ⟨j, hj⟩ := List.getElem?_of_mem (zlv_mem g1)
  rw [ykill_len, hL.2.1] at h3
  refine lv_iinc hx hb hd (zlv_has hL.1 hL.2.2.1) hj rfl h3 rfl (fun ls' hl => ?_)
  have g4 : z = x.toInt := g3.symm
  exact k _ _ _ _ h4 ls' _ ws H locs ⟨hP, hD, hS, hM, hL.st1 (a := (1, yw (z + d))) h3 (yvI (by rw [Int32.toInt_add, zofI (zleI_ok h1.2.2.1) (zleI_ok h1.2.2.2), g4]; rfl)) hl, hT⟩
theorem yk_bin {f : Int → Int → Int} {w : Int32 → Int32 → Int32} (h : yi_bin 1 f pc nx L st g len) (hf : ∀ x y : Int32, (w x y).toInt = f x.toInt y.toInt) (row : len = 1 → ∀ (H : Heap) (locs : List Loc) (ls : Array Slot) (rest : List Value) (x y : Int32), W p l e R s m args below meth c H locs ce sl Q (F0 m (pc + 1) ls (.int (w x y) :: rest)) → W p l e R s m args below meth c H locs ce sl Q (F0 m pc ls (.int y :: .int x :: rest))) (k : ∀ (pc' : Nat) (L' st' : List yV) (g' : yM), nx pc' L' st' g' → yWP (yG Z D cl tys A ad H0 nL) (fun H locs pc ls st => W p l e R s m args below meth c H locs ce sl Q (F0 m pc ls st)) pc' L' st' g') : yWP (yG Z D cl tys A ad H0 nL) (fun H locs pc ls st => W p l e R s m args below meth c H locs ce sl Q (F0 m pc ls st)) pc L st g := by
  match st, h with
  | (t2, y) :: (t1, x) :: r, h =>
    obtain ⟨h1, h2⟩ := ybif h
    rw [Bool.and_eq_true, Bool.and_eq_true] at h1
    have e2 := ybeq h1.2.1
    have e1 := ybeq h1.2.2
    subst e2
    subst e1
    intro ls stc ws H locs hG
    obtain ⟨hP, hD, hS, hM, hL, hT⟩ := hG
    match stc, hT with
    | v2 :: v1 :: stc, ⟨hv2, hv1, hT⟩ =>
      obtain ⟨b, rfl, g2⟩ := yvI' hv2
      obtain ⟨a, rfl, g1⟩ := yvI' hv1
      have g2 : b.toInt = y := g2
      have g1 : a.toInt = x := g1
      exact row (ybeq h1.1) H locs ls stc a b (k _ _ _ _ h2 ls _ ws H locs ⟨hP, hD, hS, hM, hL, yvI (by rw [hf, g1, g2]), hT⟩)
theorem yk_binL {f : Int → Int → Int} {w : Int64 → Int64 → Int64} (h : yi_bin 2 f pc nx L st g len) (hf : ∀ x y : Int64, (w x y).toInt = f x.toInt y.toInt) (row : len = 1 → ∀ (H : Heap) (locs : List Loc) (ls : Array Slot) (rest : List Value) (x y : Int64), W p l e R s m args below meth c H locs ce sl Q (F0 m (pc + 1) ls (.long (w x y) :: rest)) → W p l e R s m args below meth c H locs ce sl Q (F0 m pc ls (.long y :: .long x :: rest))) (k : ∀ (pc' : Nat) (L' st' : List yV) (g' : yM), nx pc' L' st' g' → yWP (yG Z D cl tys A ad H0 nL) (fun H locs pc ls st => W p l e R s m args below meth c H locs ce sl Q (F0 m pc ls st)) pc' L' st' g') : yWP (yG Z D cl tys A ad H0 nL) (fun H locs pc ls st => W p l e R s m args below meth c H locs ce sl Q (F0 m pc ls st)) pc L st g := by
  match st, h with
  | (t2, y) :: (t1, x) :: r, h =>
    obtain ⟨h1, h2⟩ := ybif h
    rw [Bool.and_eq_true, Bool.and_eq_true] at h1
    have e2 := ybeq h1.2.1
    have e1 := ybeq h1.2.2
    subst e2
    subst e1
    intro ls stc ws H locs hG
    obtain ⟨hP, hD, hS, hM, hL, hT⟩ := hG
    match stc, hT with
    | v2 :: v1 :: stc, ⟨hv2, hv1, hT⟩ =>
      obtain ⟨b, rfl, g2⟩ := yvL' hv2
      obtain ⟨a, rfl, g1⟩ := yvL' hv1
      have g2 : b.toInt = y := g2
      have g1 : a.toInt = x := g1
      exact row (ybeq h1.1) H locs ls stc a b (k _ _ _ _ h2 ls _ ws H locs ⟨hP, hD, hS, hM, hL, yvL (by rw [hf, g1, g2]), hT⟩)
theorem yk_shL {f : Int → Int → Int} {w : Int64 → Int32 → Int64} (h : yi_shL f pc nx L st g len) (hf : ∀ (x : Int64) (y : Int32), (w x y).toInt = f x.toInt y.toInt) (row : len = 1 → ∀ (H : Heap) (locs : List Loc) (ls : Array Slot) (rest : List Value) (x : Int64) (y : Int32), W p l e R s m args below meth c H locs ce sl Q (F0 m (pc + 1) ls (.long (w x y) :: rest)) → W p l e R s m args below meth c H locs ce sl Q (F0 m pc ls (.int y :: .long x :: rest))) (k : ∀ (pc' : Nat) (L' st' : List yV) (g' : yM), nx pc' L' st' g' → yWP (yG Z D cl tys A ad H0 nL) (fun H locs pc ls st => W p l e R s m args below meth c H locs ce sl Q (F0 m pc ls st)) pc' L' st' g') : yWP (yG Z D cl tys A ad H0 nL) (fun H locs pc ls st => W p l e R s m args below meth c H locs ce sl Q (F0 m pc ls st)) pc L st g := by
  match st, h with
  | (t2, y) :: (t1, x) :: r, h =>
    obtain ⟨h1, h2⟩ := ybif h
    rw [Bool.and_eq_true, Bool.and_eq_true] at h1
    have e2 := ybeq h1.2.1
    have e1 := ybeq h1.2.2
    subst e2
    subst e1
    intro ls stc ws H locs hG
    obtain ⟨hP, hD, hS, hM, hL, hT⟩ := hG
    match stc, hT with
    | v2 :: v1 :: stc, ⟨hv2, hv1, hT⟩ =>
      obtain ⟨b, rfl, g2⟩ := yvI' hv2
      obtain ⟨a, rfl, g1⟩ := yvL' hv1
      have g2 : b.toInt = y := g2
      have g1 : a.toInt = x := g1
      exact row (ybeq h1.1) H locs ls stc a b (k _ _ _ _ h2 ls _ ws H locs ⟨hP, hD, hS, hM, hL, yvL (by rw [hf, g1, g2]), hT⟩)
theorem yk_dr {f : Int → Int → Int} {w : Int32 → Int32 → Int32} (h : yi_dr f pc nx L st g len) (hf : ∀ x y : Int32, (w x y).toInt = f x.toInt y.toInt) (row : len = 1 → ∀ (H : Heap) (locs : List Loc) (ls : Array Slot) (rest : List Value) (x y : Int32), ¬ y = 0 → W p l e R s m args below meth c H locs ce sl Q (F0 m (pc + 1) ls (.int (w x y) :: rest)) → W p l e R s m args below meth c H locs ce sl Q (F0 m pc ls (.int y :: .int x :: rest))) (k : ∀ (pc' : Nat) (L' st' : List yV) (g' : yM), nx pc' L' st' g' → yWP (yG Z D cl tys A ad H0 nL) (fun H locs pc ls st => W p l e R s m args below meth c H locs ce sl Q (F0 m pc ls st)) pc' L' st' g') : yWP (yG Z D cl tys A ad H0 nL) (fun H locs pc ls st => W p l e R s m args below meth c H locs ce sl Q (F0 m pc ls st)) pc L st g := by
  match st, h with
  | (t2, y) :: (t1, x) :: r, h =>
    obtain ⟨h1, h0, h2⟩ := ybif h
    rw [Bool.and_eq_true, Bool.and_eq_true] at h1
    have e2 := ybeq h1.2.1
    have e1 := ybeq h1.2.2
    subst e2
    subst e1
    intro ls stc ws H locs hG
    obtain ⟨hP, hD, hS, hM, hL, hT⟩ := hG
    match stc, hT with
    | v2 :: v1 :: stc, ⟨hv2, hv1, hT⟩ =>
      obtain ⟨b, rfl, g2⟩ := yvI' hv2
      obtain ⟨a, rfl, g1⟩ := yvI' hv1
      have g2 : b.toInt = y := g2
      have g1 : a.toInt = x := g1
      exact row (ybeq h1.1) H locs ls stc a b (fun q => h0 (by rw [← g2, q]; rfl)) (k _ _ _ _ h2 ls _ ws H locs ⟨hP, hD, hS, hM, hL, yvI (by rw [hf, g1, g2]), hT⟩)
theorem yk_una {f : Int → Int} {w : Int32 → Int32} (h : yi_una 1 1 f pc nx L st g len) (hf : ∀ x : Int32, (w x).toInt = f x.toInt) (row : len = 1 → ∀ (H : Heap) (locs : List Loc) (ls : Array Slot) (rest : List Value) (x : Int32), W p l e R s m args below meth c H locs ce sl Q (F0 m (pc + 1) ls (.int (w x) :: rest)) → W p l e R s m args below meth c H locs ce sl Q (F0 m pc ls (.int x :: rest))) (k : ∀ (pc' : Nat) (L' st' : List yV) (g' : yM), nx pc' L' st' g' → yWP (yG Z D cl tys A ad H0 nL) (fun H locs pc ls st => W p l e R s m args below meth c H locs ce sl Q (F0 m pc ls st)) pc' L' st' g') : yWP (yG Z D cl tys A ad H0 nL) (fun H locs pc ls st => W p l e R s m args below meth c H locs ce sl Q (F0 m pc ls st)) pc L st g := by
  match st, h with
  | (t1, x) :: r, h =>
    obtain ⟨h1, h2⟩ := ybif h
    rw [Bool.and_eq_true] at h1
    have e1 := ybeq h1.2
    subst e1
    intro ls stc ws H locs hG
    obtain ⟨hP, hD, hS, hM, hL, hT⟩ := hG
    match stc, hT with
    | v1 :: stc, ⟨hv1, hT⟩ =>
      obtain ⟨a, rfl, g1⟩ := yvI' hv1
      have g1 : a.toInt = x := g1
      exact row (ybeq h1.1) H locs ls stc a (k _ _ _ _ h2 ls _ ws H locs ⟨hP, hD, hS, hM, hL, yvI (by rw [hf, g1]), hT⟩)
theorem yk_i2l (hx : p.tables.exec = Jvm.exec) (hb : c.code = cc) (h : yi_una 1 2 (fun x => x) pc nx L st g len) (hd : decode cc pc = .ok (.i2l, len)) (k : ∀ (pc' : Nat) (L' st' : List yV) (g' : yM), nx pc' L' st' g' → yWP (yG Z D cl tys A ad H0 nL) (fun H locs pc ls st => W p l e R s m args below meth c H locs ce sl Q (F0 m pc ls st)) pc' L' st' g') : yWP (yG Z D cl tys A ad H0 nL) (fun H locs pc ls st => W p l e R s m args below meth c H locs ce sl Q (F0 m pc ls st)) pc L st g := by
  match st, h with
  | (t1, x) :: r, h =>
    obtain ⟨h1, h2⟩ := ybif h
    rw [Bool.and_eq_true] at h1
    have e1 := ybeq h1.2
    subst e1
    have e3 := ybeq h1.1
    subst e3
    intro ls stc ws H locs hG
    obtain ⟨hP, hD, hS, hM, hL, hT⟩ := hG
    match stc, hT with
    | v1 :: stc, ⟨hv1, hT⟩ =>
      obtain ⟨a, rfl, g1⟩ := yvI' hv1
      exact lv_i2l hx hb hd rfl (k _ _ _ _ h2 ls _ ws H locs ⟨hP, hD, hS, hM, hL, yvL (by rw [Int32.toInt_toInt64]; exact g1), hT⟩)
theorem yk_l2i (hx : p.tables.exec = Jvm.exec) (hb : c.code = cc) (h : yi_una 2 1 yw pc nx L st g len) (hd : decode cc pc = .ok (.l2i, len)) (k : ∀ (pc' : Nat) (L' st' : List yV) (g' : yM), nx pc' L' st' g' → yWP (yG Z D cl tys A ad H0 nL) (fun H locs pc ls st => W p l e R s m args below meth c H locs ce sl Q (F0 m pc ls st)) pc' L' st' g') : yWP (yG Z D cl tys A ad H0 nL) (fun H locs pc ls st => W p l e R s m args below meth c H locs ce sl Q (F0 m pc ls st)) pc L st g := by
  match st, h with
  | (t1, x) :: r, h =>
    obtain ⟨h1, h2⟩ := ybif h
    rw [Bool.and_eq_true] at h1
    have e1 := ybeq h1.2
    subst e1
    have e3 := ybeq h1.1
    subst e3
    intro ls stc ws H locs hG
    obtain ⟨hP, hD, hS, hM, hL, hT⟩ := hG
    match stc, hT with
    | v1 :: stc, ⟨hv1, hT⟩ =>
      obtain ⟨a, rfl, g1⟩ := yvL' hv1
      have g1 : a.toInt = x := g1
      exact lv_l2i hx hb hd rfl (k _ _ _ _ h2 ls _ ws H locs ⟨hP, hD, hS, hM, hL, yvI (by rw [Int64.toInt_toInt32, g1]; rfl), hT⟩)
theorem ycmp_ok (x y : Int64) : (lg_cmp x y).toInt = ycmp x.toInt y.toInt := by
  unfold lg_cmp ycmp
  by_cases h : y < x
  · have h1 := Int64.lt_iff_toInt_lt.mp h
    rw [if_pos h, if_neg (by omega), if_neg (by omega)]
    rfl
  · have h1 : ¬ y.toInt < x.toInt := fun q => h (Int64.lt_iff_toInt_lt.mpr q)
    rw [if_neg h]
    by_cases e : x = y
    · subst e
      rw [if_pos rfl, if_neg (by omega), if_pos rfl]
      rfl
    · have e1 : ¬ x.toInt = y.toInt := fun q => e (Int64.toInt_inj.mp q)
      rw [if_neg e, if_pos (by omega)]
      rfl
theorem yk_lcmp (hx : p.tables.exec = Jvm.exec) (hb : c.code = cc) (h : yi_lcmp pc nx L st g len) (hd : decode cc pc = .ok (.lcmp, len)) (k : ∀ (pc' : Nat) (L' st' : List yV) (g' : yM), nx pc' L' st' g' → yWP (yG Z D cl tys A ad H0 nL) (fun H locs pc ls st => W p l e R s m args below meth c H locs ce sl Q (F0 m pc ls st)) pc' L' st' g') : yWP (yG Z D cl tys A ad H0 nL) (fun H locs pc ls st => W p l e R s m args below meth c H locs ce sl Q (F0 m pc ls st)) pc L st g := by
  match st, h with
  | (t2, y) :: (t1, x) :: r, h =>
    obtain ⟨h1, h2⟩ := ybif h
    rw [Bool.and_eq_true, Bool.and_eq_true] at h1
    have e2 := ybeq h1.2.1
    have e1 := ybeq h1.2.2
    subst e2
    subst e1
    have e3 := ybeq h1.1
    subst e3
    intro ls stc ws H locs hG
    obtain ⟨hP, hD, hS, hM, hL, hT⟩ := hG
    match stc, hT with
    | v2 :: v1 :: stc, ⟨hv2, hv1, hT⟩ =>
      obtain ⟨b, rfl, g2⟩ := yvL' hv2
      obtain ⟨a, rfl, g1⟩ := yvL' hv1
      have g2 : b.toInt = y := g2
      have g1 : a.toInt = x := g1
      exact W.lcmp hx hb hd (k _ _ _ _ h2 ls _ ws H locs ⟨hP, hD, hS, hM, hL, yvI (by rw [ycmp_ok, g1, g2]), hT⟩)
theorem ycat1 {t : Nat} {z : Int} {v : Value} (hv : yval Z ad t z v) (h : (Nat.beq t 1 || (Nat.beq t 3 || Nat.ble 100 t)) = true) : v.category = 1 := by
  rw [ycat_ok (a := (t, z)) hv]
  have : t ≠ 2 := by
    rcases Bool.or_eq_true_iff.mp h with h | h
    · have := ybeq h; omega
    · rcases yref h with h | h <;> omega
  simp [ycat, this]
theorem yk_dup (hx : p.tables.exec = Jvm.exec) (hb : c.code = cc) (h : yi_dup pc nx L st g len) (hd : decode cc pc = .ok (.dup, len)) (k : ∀ (pc' : Nat) (L' st' : List yV) (g' : yM), nx pc' L' st' g' → yWP (yG Z D cl tys A ad H0 nL) (fun H locs pc ls st => W p l e R s m args below meth c H locs ce sl Q (F0 m pc ls st)) pc' L' st' g') : yWP (yG Z D cl tys A ad H0 nL) (fun H locs pc ls st => W p l e R s m args below meth c H locs ce sl Q (F0 m pc ls st)) pc L st g := by
  match st, h with
  | (t1, x) :: r, h =>
    obtain ⟨h1, h2⟩ := ybif h
    rw [Bool.and_eq_true] at h1
    have e3 := ybeq h1.1
    subst e3
    intro ls stc ws H locs hG
    obtain ⟨hP, hD, hS, hM, hL, hT⟩ := hG
    match stc, hT with
    | v1 :: stc, ⟨hv1, hT⟩ => exact lv_dup hx hb hd (ycat1 hv1 h1.2) (k _ _ _ _ h2 ls _ ws H locs ⟨hP, hD, hS, hM, hL, hv1, hv1, hT⟩)
theorem yk_pop (hx : p.tables.exec = Jvm.exec) (hb : c.code = cc) (h : yi_pop pc nx L st g len) (hd : decode cc pc = .ok (.pop, len)) (k : ∀ (pc' : Nat) (L' st' : List yV) (g' : yM), nx pc' L' st' g' → yWP (yG Z D cl tys A ad H0 nL) (fun H locs pc ls st => W p l e R s m args below meth c H locs ce sl Q (F0 m pc ls st)) pc' L' st' g') : yWP (yG Z D cl tys A ad H0 nL) (fun H locs pc ls st => W p l e R s m args below meth c H locs ce sl Q (F0 m pc ls st)) pc L st g := by
  match st, h with
  | (t1, x) :: r, h =>
    obtain ⟨h1, h2⟩ := ybif h
    rw [Bool.and_eq_true] at h1
    have e3 := ybeq h1.1
    subst e3
    intro ls stc ws H locs hG
    obtain ⟨hP, hD, hS, hM, hL, hT⟩ := hG
    match stc, hT with
    | v1 :: stc, ⟨hv1, hT⟩ => exact lv_pop hx hb hd (ycat1 hv1 h1.2) (k _ _ _ _ h2 ls _ ws H locs ⟨hP, hD, hS, hM, hL, hT⟩)
theorem yk_pop2 (hx : p.tables.exec = Jvm.exec) (hb : c.code = cc) (h : yi_pop2 pc nx L st g len) (hd : decode cc pc = .ok (.pop2, len)) (k : ∀ (pc' : Nat) (L' st' : List yV) (g' : yM), nx pc' L' st' g' → yWP (yG Z D cl tys A ad H0 nL) (fun H locs pc ls st => W p l e R s m args below meth c H locs ce sl Q (F0 m pc ls st)) pc' L' st' g') : yWP (yG Z D cl tys A ad H0 nL) (fun H locs pc ls st => W p l e R s m args below meth c H locs ce sl Q (F0 m pc ls st)) pc L st g := by
  match st, h with
  | (t1, x) :: r, h =>
    obtain ⟨h1, h2⟩ := ybif h
    rw [Bool.and_eq_true] at h1
    have e3 := ybeq h1.1
    subst e3
    have e1 := ybeq h1.2
    subst e1
    intro ls stc ws H locs hG
    obtain ⟨hP, hD, hS, hM, hL, hT⟩ := hG
    match stc, hT with
    | v1 :: stc, ⟨hv1, hT⟩ =>
      obtain ⟨y, rfl, -⟩ := yvL' hv1
      exact lv_pop2_2 hx hb hd rfl (k _ _ _ _ h2 ls _ ws H locs ⟨hP, hD, hS, hM, hL, hT⟩)
theorem yjmp_ok {off : Int} {kk : Nat → Prop} (h : yjmp pc off kk) : ∃ t : Nat, (pc : Int) + off = (t : Int) ∧ kk t := by
  obtain ⟨h1, h2⟩ := ybif h
  have := zleI_ok h1
  exact ⟨_, (Int.toNat_of_nonneg this).symm, h2⟩
theorem yk_goto (hx : p.tables.exec = Jvm.exec) (hb : c.code = cc) {off : Int} (h : yi_goto pc nx L st g off len) (hd : decode cc pc = .ok (.goto off, len)) (k : ∀ (pc' : Nat) (L' st' : List yV) (g' : yM), nx pc' L' st' g' → yWP (yG Z D cl tys A ad H0 nL) (fun H locs pc ls st => W p l e R s m args below meth c H locs ce sl Q (F0 m pc ls st)) pc' L' st' g') : yWP (yG Z D cl tys A ad H0 nL) (fun H locs pc ls st => W p l e R s m args below meth c H locs ce sl Q (F0 m pc ls st)) pc L st g := by
  obtain ⟨h1, h2⟩ := ybif h
  have e3 := ybeq h1
  subst e3
  obtain ⟨t, h3, h4⟩ := yjmp_ok h2
  intro ls stc ws H locs hG
  exact lv_goto hx hb hd h3 (k _ _ _ _ h4 ls stc ws H locs hG)
theorem yk_icmp {cn : Int → Int → Prop} {off : Int} {P : Int32 → Int32 → Prop} (h : yi_icmp cn pc nx L st g off len) (hP : ∀ x y : Int32, P x y ↔ cn x.toInt y.toInt)
    (row : len = 3 → ∀ (tgt : Nat), (pc : Int) + off = (tgt : Int) → ∀ (H : Heap) (locs : List Loc) (ls : Array Slot) (rest : List Value) (x y : Int32), (P x y → W p l e R s m args below meth c H locs ce sl Q (F0 m tgt ls rest)) → (¬ P x y → W p l e R s m args below meth c H locs ce sl Q (F0 m (pc + 3) ls rest)) → W p l e R s m args below meth c H locs ce sl Q (F0 m pc ls (.int y :: .int x :: rest))) (k : ∀ (pc' : Nat) (L' st' : List yV) (g' : yM), nx pc' L' st' g' → yWP (yG Z D cl tys A ad H0 nL) (fun H locs pc ls st => W p l e R s m args below meth c H locs ce sl Q (F0 m pc ls st)) pc' L' st' g') : yWP (yG Z D cl tys A ad H0 nL) (fun H locs pc ls st => W p l e R s m args below meth c H locs ce sl Q (F0 m pc ls st)) pc L st g := by
  match st, h with
  | (t2, y) :: (t1, x) :: r, h =>
    obtain ⟨h1, h2⟩ := ybif h
    rw [Bool.and_eq_true, Bool.and_eq_true] at h1
    have e2 := ybeq h1.2.1
    have e1 := ybeq h1.2.2
    subst e2
    subst e1
    obtain ⟨t, h3, h4, h5⟩ := yjmp_ok h2
    intro ls stc ws H locs hG
    obtain ⟨hPp, hD, hS, hM, hL, hT⟩ := hG
    match stc, hT with
    | v2 :: v1 :: stc, ⟨hv2, hv1, hT⟩ =>
      obtain ⟨b, rfl, g2⟩ := yvI' hv2
      obtain ⟨a, rfl, g1⟩ := yvI' hv1
      have g2 : b.toInt = y := g2
      have g1 : a.toInt = x := g1
      have hp := hP a b
      rw [g1, g2] at hp
      exact row (ybeq h1.1) t h3 H locs ls stc a b (fun q => k _ _ _ _ (h4 (hp.mp q)) ls stc ws H locs ⟨hPp, hD, hS, hM, hL, hT⟩) (fun q => k _ _ _ _ (h5 (fun z => q (hp.mpr z))) ls stc ws H locs ⟨hPp, hD, hS, hM, hL, hT⟩)
theorem yk_if {cn : Int → Int → Prop} {off : Int} {P : Int32 → Prop} (h : yi_if cn pc nx L st g off len) (hP : ∀ x : Int32, P x ↔ cn x.toInt 0)
    (row : len = 3 → ∀ (tgt : Nat), (pc : Int) + off = (tgt : Int) → ∀ (H : Heap) (locs : List Loc) (ls : Array Slot) (rest : List Value) (x : Int32), (P x → W p l e R s m args below meth c H locs ce sl Q (F0 m tgt ls rest)) → (¬ P x → W p l e R s m args below meth c H locs ce sl Q (F0 m (pc + 3) ls rest)) → W p l e R s m args below meth c H locs ce sl Q (F0 m pc ls (.int x :: rest))) (k : ∀ (pc' : Nat) (L' st' : List yV) (g' : yM), nx pc' L' st' g' → yWP (yG Z D cl tys A ad H0 nL) (fun H locs pc ls st => W p l e R s m args below meth c H locs ce sl Q (F0 m pc ls st)) pc' L' st' g') : yWP (yG Z D cl tys A ad H0 nL) (fun H locs pc ls st => W p l e R s m args below meth c H locs ce sl Q (F0 m pc ls st)) pc L st g := by
  match st, h with
  | (t1, x) :: r, h =>
    obtain ⟨h1, h2⟩ := ybif h
    rw [Bool.and_eq_true] at h1
    have e1 := ybeq h1.2
    subst e1
    obtain ⟨t, h3, h4, h5⟩ := yjmp_ok h2
    intro ls stc ws H locs hG
    obtain ⟨hPp, hD, hS, hM, hL, hT⟩ := hG
    match stc, hT with
    | v1 :: stc, ⟨hv1, hT⟩ =>
      obtain ⟨a, rfl, g1⟩ := yvI' hv1
      have g1 : a.toInt = x := g1
      have hp := hP a
      rw [g1] at hp
      exact row (ybeq h1.1) t h3 H locs ls stc a (fun q => k _ _ _ _ (h4 (hp.mp q)) ls stc ws H locs ⟨hPp, hD, hS, hM, hL, hT⟩) (fun q => k _ _ _ _ (h5 (fun z => q (hp.mpr z))) ls stc ws H locs ⟨hPp, hD, hS, hM, hL, hT⟩)
theorem yi_sw_ok {r : List yV} {x : Int} : ∀ {offs : List Int} {lo : Int}, yi_sw pc nx L r g x lo offs → ∀ (i : Nat) (off : Int), offs[i]? = some off → x = lo + i → ∃ t : Nat, (pc : Int) + off = (t : Int) ∧ nx t L r g
  | o :: os, lo, h, 0, off, h1, h2 => by
    rw [List.getElem?_cons_zero] at h1
    cases h1
    obtain ⟨t, h3, h4⟩ := yjmp_ok h.1
    exact ⟨t, h3, h4 (by omega)⟩
  | o :: os, lo, h, i + 1, off, h1, h2 => by
    rw [List.getElem?_cons_succ] at h1
    exact yi_sw_ok h.2 i off h1 (by omega)
theorem yk_tsw (hx : p.tables.exec = Jvm.exec) (hb : c.code = cc) {d lo hi : Int} {offs : Array Int} (h : yi_tsw pc nx L st g d lo hi offs.toList) (hd : decode cc pc = .ok (.tableswitch d lo hi offs, len)) (k : ∀ (pc' : Nat) (L' st' : List yV) (g' : yM), nx pc' L' st' g' → yWP (yG Z D cl tys A ad H0 nL) (fun H locs pc ls st => W p l e R s m args below meth c H locs ce sl Q (F0 m pc ls st)) pc' L' st' g') : yWP (yG Z D cl tys A ad H0 nL) (fun H locs pc ls st => W p l e R s m args below meth c H locs ce sl Q (F0 m pc ls st)) pc L st g := by
  match st, h with
  | (t1, x) :: r, h =>
    obtain ⟨h1, hsz, h2, h3⟩ := ybif h
    have e1 := ybeq h1
    subst e1
    obtain ⟨dt, h4, h5⟩ := yjmp_ok h2
    intro ls stc ws H locs hG
    obtain ⟨hPp, hD, hS, hM, hL, hT⟩ := hG
    match stc, hT with
    | v1 :: stc, ⟨hv1, hT⟩ =>
      obtain ⟨a, rfl, g1⟩ := yvI' hv1
      have g1 : a.toInt = x := g1
      by_cases hlo : a.toInt < lo
      · exact lv_tableOut hx hb hd (Or.inl hlo) h4 (k _ _ _ _ (h5 (Or.inl (by omega))) ls _ ws H locs ⟨hPp, hD, hS, hM, hL, hT⟩)
      · by_cases hhi : hi < a.toInt
        · exact lv_tableOut hx hb hd (Or.inr hhi) h4 (k _ _ _ _ (h5 (Or.inr (by omega))) ls _ ws H locs ⟨hPp, hD, hS, hM, hL, hT⟩)
        · have hl : (a.toInt - lo).toNat < offs.toList.length := by omega
          have ho : offs.toList[(a.toInt - lo).toNat]? = some (offs.toList[(a.toInt - lo).toNat]) := List.getElem?_eq_getElem hl
          obtain ⟨t, h6, h7⟩ := yi_sw_ok h3 _ _ ho (by omega)
          rw [Array.getElem?_toList] at ho
          exact lv_tableIn hx hb hd hlo hhi ho h6 (k _ _ _ _ h7 ls _ ws H locs ⟨hPp, hD, hS, hM, hL, hT⟩)
theorem yi_ls_ok {r : List yV} {x : Int} : ∀ {ps : List (Int × Int)}, yi_ls pc nx L r g x ps → ∀ q ∈ ps, x = q.1 → ∃ t : Nat, (pc : Int) + q.2 = (t : Int) ∧ nx t L r g
  | o :: os, h, q, hq, hx => by
    rcases List.mem_cons.mp hq with rfl | hq
    · obtain ⟨t, h3, h4⟩ := yjmp_ok h.1
      exact ⟨t, h3, h4 hx⟩
    · exact yi_ls_ok h.2 q hq hx
theorem yk_lsw (hx : p.tables.exec = Jvm.exec) (hb : c.code = cc) {d : Int} {ps : Array (Int × Int)} (h : yi_lsw pc nx L st g d ps.toList) (hd : decode cc pc = .ok (.lookupswitch d ps, len)) (k : ∀ (pc' : Nat) (L' st' : List yV) (g' : yM), nx pc' L' st' g' → yWP (yG Z D cl tys A ad H0 nL) (fun H locs pc ls st => W p l e R s m args below meth c H locs ce sl Q (F0 m pc ls st)) pc' L' st' g') : yWP (yG Z D cl tys A ad H0 nL) (fun H locs pc ls st => W p l e R s m args below meth c H locs ce sl Q (F0 m pc ls st)) pc L st g := by
  match st, h with
  | (t1, x) :: r, h =>
    obtain ⟨h1, h2, h3⟩ := ybif h
    rw [Bool.and_eq_true] at h1
    have e1 := ybeq h1.1
    subst e1
    obtain ⟨dt, h4, h5⟩ := yjmp_ok h2
    intro ls stc ws H locs hG
    obtain ⟨hPp, hD, hS, hM, hL, hT⟩ := hG
    match stc, hT with
    | v1 :: stc, ⟨hv1, hT⟩ =>
      obtain ⟨a, rfl, g1⟩ := yvI' hv1
      have g1 : a.toInt = x := g1
      rcases zlk_off d a.toInt ps.toList with ⟨u1, u2⟩ | ⟨q, u1, u2, u3⟩
      · exact lv_lookup hx hb hd h1.2 u1 h4 (k _ _ _ _ (h5 (fun q hq => by rw [← g1]; exact u2 q hq)) ls _ ws H locs ⟨hPp, hD, hS, hM, hL, hT⟩)
      · obtain ⟨t, h6, h7⟩ := yi_ls_ok h3 q u1 (by rw [← g1]; exact u2.symm)
        exact lv_lookup hx hb hd h1.2 u3 h6 (k _ _ _ _ h7 ls _ ws H locs ⟨hPp, hD, hS, hM, hL, hT⟩)
end YS
