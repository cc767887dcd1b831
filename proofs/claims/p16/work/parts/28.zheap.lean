/-! FIELDS AND ELEMENTS -/
def zapart (env : List zIv) (a b : Nat × Int) : Bool := (a.1 == b.1 && !(a.2 == b.2)) || (decide (zhi env a.1 + a.2 < zlo env b.1 + b.2) || decide (zhi env b.1 + b.2 < zlo env a.1 + a.2))
theorem zapart_ok {env : List zIv} {nu : List Int} {a b : Nat × Int} {x y : Int} (h : zapart env a b = true) (he : zEnv env nu) (hx : zV nu a.1 a.2 x) (hy : zV nu b.1 b.2 y) : x ≠ y := by
  have bx := hx.bd he
  have by' := hy.bd he
  unfold zapart at h
  rcases Bool.or_eq_true_iff.mp h with h | h
  · rw [Bool.and_eq_true, beq_iff_eq] at h
    have h2 : a.2 ≠ b.2 := by
      intro q
      rw [q] at h
      simp at h
    obtain ⟨u, hu, rfl⟩ := hx
    obtain ⟨v, hv, rfl⟩ := hy
    rw [← h.1, hu] at hv
    cases hv
    omega
  · rcases Bool.or_eq_true_iff.mp h with h | h
    · rw [decide_eq_true_eq] at h; omega
    · rw [decide_eq_true_eq] at h; omega
/-- facts that outlive a write to field j of a cell, to any element of a cell -/
def zfk (env : List zIv) (fa : List zFa) (a : Nat × Int) (j : Nat) : List zFa := fa.filter (fun f => !(f.2.2.1 == j) || zapart env (f.1, f.2.1) a)
def zfkA (env : List zIv) (fa : List zFa) (a : Nat × Int) : List zFa := fa.filter (fun f => zapart env (f.1, f.2.1) a)
/-- one field, or element, of one cell is another -/
def zUpd (ws ws' : va_W) (q j : Nat) (v : Value) : Prop := (∀ q' : Nat, q' ≠ q → ws'[q']? = ws[q']?) ∧ (∀ j' : Nat, j' ≠ j → zfv ws' q j' = zfv ws q j') ∧ zfv ws' q j = some v
theorem zfv_ne {ws ws' : va_W} {q : Nat} (h : ws'[q]? = ws[q]?) (j : Nat) : zfv ws' q j = zfv ws q j := by
  unfold zfv
  rw [h]
theorem zF.put {ad : Nat → Nat} {nu : List Int} {env : List zIv} {ws ws' : va_W} {fa : List zFa} {a : Nat × Int} {q j : Nat} {av : zAV} {v : Value} (h : zF ad nu ws fa) (he : zEnv env nu) (ha : zV nu a.1 a.2 q) (hu : zUpd ws ws' q j v) (hv : zm ad nu av v) : zF ad nu ws' ((a.1, a.2, j, av) :: zfk env fa a j) := by
  intro f hf
  rcases List.mem_cons.mp hf with rfl | hf
  · exact ⟨q, v, ha, hu.2.2, hv⟩
  · obtain ⟨h1, h2⟩ := List.mem_filter.mp hf
    obtain ⟨q', v', g1, g2, g3⟩ := h f h1
    refine ⟨q', v', g1, ?_, g3⟩
    by_cases hq : q' = q
    · subst hq
      rcases Bool.or_eq_true_iff.mp h2 with h2 | h2
      · have hj : f.2.2.1 ≠ j := by
          intro z
          rw [z] at h2
          simp at h2
        rw [hu.2.1 _ hj]
        exact g2
      · exact absurd rfl (zapart_ok h2 he g1 ha)
    · rw [zfv_ne (hu.1 q' hq)]
      exact g2
theorem zF.putA {ad : Nat → Nat} {nu : List Int} {env : List zIv} {ws ws' : va_W} {fa : List zFa} {a : Nat × Int} {q : Nat} (h : zF ad nu ws fa) (he : zEnv env nu) (ha : zV nu a.1 a.2 q) (hu : ∀ q' : Nat, q' ≠ q → ws'[q']? = ws[q']?) : zF ad nu ws' (zfkA env fa a) := by
  intro f hf
  obtain ⟨h1, h2⟩ := List.mem_filter.mp hf
  obtain ⟨q', v', g1, g2, g3⟩ := h f h1
  refine ⟨q', v', g1, ?_, g3⟩
  have hq : q' ≠ q := fun z => zapart_ok h2 he g1 ha (by rw [z])
  rw [zfv_ne (hu q' hq)]
  exact g2
/-- reading by the type: the tag and the result; tag 9: not to be read -/
def zrdT (Z : zZ) (env : List zIv) (cd : List zCd) (a : Nat × Int) (ft : zFT) : Nat × zRes := match ft with
  | (0, lo, hi) => (1, if lo = hi then .inl (0, lo) else .inr [(lo, hi)])
  | (1, _, _) => (2, .inr zFullL)
  | (2, lo, hi) => (3, if lo = hi then .inl (0, lo) else .inr [(lo, hi)])
  | (3, g, _) => if g.toNat < Z.2.2 then (1, .inl (g.toNat, 0)) else (9, .inr [])
  | (4, d, _) => (3, .inl (a.1, a.2 + (d.toNat : Int)))
  | (5, lo, hi) => if 1 < Z.2.2 ∧ zle env cd (a.1, a.2 + 1) (1, Z.2.1) = true then (1, .inr [(lo, hi)]) else (1, .inr zFull)
  | (7, lo, hi) => (1, if lo = hi then .inl (0, lo) else .inr [(lo, hi)])
  | (8, lo, hi) => (1, .inr [(lo, hi)])
  | _ => (9, .inr [])
/-- the value of a number under a tag -/
def zval (ad : Nat → Nat) (tag : Nat) (z : Int) (v : Value) : Prop := match tag with
  | 1 => ∃ x : Int32, v = .int x ∧ x.toInt = z
  | 2 => ∃ x : Int64, v = .long x ∧ x.toInt = z
  | 3 => ∃ q : Nat, v = .ref (ad q) ∧ (q : Int) = z
  | _ => False
theorem zval.zm {ad : Nat → Nat} {nu : List Int} {tag n : Nat} {k z : Int} {v : Value} (h : zval ad tag z v) (hz : zV nu n k z) : zm ad nu (tag, n, k, 0, 0) v := by
  match tag, h with
  | 1, ⟨x, h1, h2⟩ => exact ⟨x, h1, by rw [h2]; exact hz⟩
  | 2, ⟨x, h1, h2⟩ => exact ⟨x, h1, by rw [h2]; exact hz⟩
  | 3, ⟨x, h1, h2⟩ => exact ⟨x, h1, by rw [h2]; exact hz⟩
def zpushF (tag : Nat) (sg : zS) (rest : List zAV) (r : zRes) (a : Nat × Int) (j : Nat) : zS := match r with
  | .inl b => (sg.1, sg.2.1, sg.2.2.1, (tag, b.1, b.2, 0, 0) :: rest, (a.1, a.2, j, (tag, b.1, b.2, 0, 0)) :: sg.2.2.2.2.1, sg.2.2.2.2.2)
  | .inr iv => (sg.1 ++ [iv], sg.2.1, sg.2.2.1, (tag, sg.1.length, 0, 0, 0) :: rest, (a.1, a.2, j, (tag, sg.1.length, 0, 0, 0)) :: sg.2.2.2.2.1, sg.2.2.2.2.2)
/-- reading field j: known already, or by its type -/
def zread (Z : zZ) (sg : zS) (rest : List zAV) (a : Nat × Int) (j : Nat) (ft : zFT) : Option zS :=
  match sg.2.2.2.2.1.find? (fun f => f.1 == a.1 && (f.2.1 == a.2 && f.2.2.1 == j)) with
  | some f => if f.2.2.2.1 = 1 ∨ f.2.2.2.1 = 2 ∨ f.2.2.2.1 = 3 then some (sg.1, sg.2.1, sg.2.2.1, f.2.2.2 :: rest, sg.2.2.2.2) else none
  | none => if (zrdT Z sg.1 sg.2.1 a ft).1 = 9 then none else some (zpushF (zrdT Z sg.1 sg.2.1 a ft).1 sg rest (zrdT Z sg.1 sg.2.1 a ft).2 a j)
/-- reading an element at a place that isn't known -/
def zreadU (Z : zZ) (sg : zS) (rest : List zAV) (a : Nat × Int) (ft : zFT) : Option zS :=
  if (zrdT Z sg.1 sg.2.1 a ft).1 = 9 then none else some (zpush (zrdT Z sg.1 sg.2.1 a ft).1 sg rest (zrdT Z sg.1 sg.2.1 a ft).2)
/-- within bounds, by intervals or by conditions -/
def zinX (env : List zIv) (cd : List zCd) (a : Nat × Int) (lo hi : Int) : Bool := zin env a [(lo, hi)] || (zle env cd (0, lo) a && zle env cd a (0, hi))
theorem zinX_ok {env : List zIv} {cd : List zCd} {nu : List Int} {a : Nat × Int} {lo hi x : Int} (h : zinX env cd a lo hi = true) (h0 : nu[0]? = some 0) (he : zEnv env nu) (hc : zCds cd nu) (hx : zV nu a.1 a.2 x) : lo ≤ x ∧ x ≤ hi := by
  unfold zinX at h
  rcases Bool.or_eq_true_iff.mp h with h | h
  · obtain ⟨p, hp, g1, g2⟩ := zin_ok h he hx
    rw [List.mem_singleton] at hp
    subst hp
    exact ⟨g1, g2⟩
  · rw [Bool.and_eq_true] at h
    have l1 := zle_ok h.1 he hc (x := 0 + lo) ⟨0, h0, rfl⟩ hx
    have l2 := zle_ok h.2 he hc (y := 0 + hi) hx ⟨0, h0, rfl⟩
    omega
/-- may it be written there -/
def zwt (Z : zZ) (env : List zIv) (cd : List zCd) (a : Nat × Int) (ft : zFT) (av : zAV) : Bool := match ft, av with
  | (0, lo, hi), (1, n, k, _, _) => zinX env cd (n, k) lo hi
  | (7, lo, hi), (1, n, k, _, _) => zinX env cd (n, k) lo hi
  | (1, _, _), (2, _, _, _, _) => true
  | (2, lo, hi), (3, n, k, _, _) => decide (lo ≤ zlo env n + k) && decide (zhi env n + k ≤ hi)
  | (3, g, _), (1, n, k, _, _) => n == g.toNat && (decide (k = 0) && decide (g.toNat < Z.2.2))
  | (5, lo, hi), (1, n, k, _, _) => zin env (n, k) [(lo, hi)] || (decide (1 < Z.2.2) && zle env cd (1, Z.2.1) a)
  | (8, lo, hi), (1, n, k, _, _) => zinX env cd (n, k) lo hi && (decide (2 < Z.2.2) && zle env cd (2, 1) (n, k))
  | _, _ => false
def zcovB (wr : zWr) (env : List zIv) (a : Nat × Int) (j : Nat) : Bool := wr.any (fun w => decide (w.1 ≤ zlo env a.1 + a.2) && (decide (zhi env a.1 + a.2 ≤ w.2.1) && (w.2.2.1 == 0 || w.2.2.2 == j)))
def zcovA (wr : zWr) (env : List zIv) (a : Nat × Int) : Bool := wr.any (fun w => decide (w.1 ≤ zlo env a.1 + a.2) && (decide (zhi env a.1 + a.2 ≤ w.2.1) && w.2.2.1 == 0))
theorem zcovB_ok {wr : zWr} {env : List zIv} {nu : List Int} {a : Nat × Int} {q j : Nat} (h : zcovB wr env a j = true) (he : zEnv env nu) (ha : zV nu a.1 a.2 q) : ∃ w ∈ wr, zcov w q j := by
  have b := ha.bd he
  obtain ⟨w, hw, h⟩ := List.any_eq_true.mp h
  rw [Bool.and_eq_true, Bool.and_eq_true, Bool.or_eq_true, decide_eq_true_eq, decide_eq_true_eq, beq_iff_eq, beq_iff_eq] at h
  exact ⟨w, hw, by omega, by omega, h.2.2⟩
theorem zcovA_ok {wr : zWr} {env : List zIv} {nu : List Int} {a : Nat × Int} {q : Nat} (h : zcovA wr env a = true) (he : zEnv env nu) (ha : zV nu a.1 a.2 q) (j : Nat) : ∃ w ∈ wr, zcov w q j := by
  have b := ha.bd he
  obtain ⟨w, hw, h⟩ := List.any_eq_true.mp h
  rw [Bool.and_eq_true, Bool.and_eq_true, decide_eq_true_eq, decide_eq_true_eq, beq_iff_eq] at h
  exact ⟨w, hw, by omega, by omega, Or.inl h.2.2⟩
/-- the cell's type: all that the name may be is one kind of cell -/
def zty (Z : zZ) (env : List zIv) (a : Nat × Int) : Option zCT := match zlo env a.1 + a.2, zhi env a.1 + a.2 with
  | .ofNat l, .ofNat u => (Z.1.find? (fun e => Nat.ble e.1 l && Nat.ble u e.2.1)).map (fun e => e.2.2)
  | _, _ => none
theorem zty_lo {Z : zZ} {env : List zIv} {a : Nat × Int} {ct : zCT} (h : zty Z env a = some ct) : 0 ≤ zlo env a.1 + a.2 := by
  unfold zty at h
  split at h
  · rename_i l u e1 e2
    have e1 : zlo env a.1 + a.2 = (l : Int) := e1
    omega
  · cases h
theorem zty_ok {Z : zZ} {env : List zIv} {nu : List Int} {a : Nat × Int} {ct : zCT} {q : Nat} (h : zty Z env a = some ct) (he : zEnv env nu) (ha : zV nu a.1 a.2 q) : ∃ e ∈ Z.1, e.1 ≤ q ∧ q ≤ e.2.1 ∧ e.2.2 = ct := by
  have b := ha.bd he
  unfold zty at h
  split at h
  · rename_i l u e1 e2
    obtain ⟨e, h1, h2⟩ := Option.map_eq_some_iff.mp h
    have h3 := List.find?_some h1
    rw [Bool.and_eq_true] at h3
    have h4 := Nat.le_of_ble_eq_true h3.1
    have h5 := Nat.le_of_ble_eq_true h3.2
    have e1 : zlo env a.1 + a.2 = (l : Int) := e1
    have e2 : zhi env a.1 + a.2 = (u : Int) := e2
    exact ⟨e, List.mem_of_find?_eq_some h1, by omega, by omega, h2⟩
  · cases h
/-- the table's ranges are apart -/
def zDj (Z : zZ) : Prop := (∀ e ∈ Z.1, ∀ e' ∈ Z.1, ∀ q : Nat, e.1 ≤ q → q ≤ e.2.1 → e'.1 ≤ q → q ≤ e'.2.1 → e.2.2 = e'.2.2) ∧ ∀ e ∈ Z.1, e.2.2.1 = 6 → ∀ q : Nat, e.1 ≤ q → q ≤ e.2.1 → ∃ e' ∈ Z.1, e'.1 ≤ q + (e.2.2.2.2.2.headD (0, 0, 0)).1 ∧ q + (e.2.2.2.2.2.headD (0, 0, 0)).1 ≤ e'.2.1 ∧ e'.2.2.1 = 7
/-- what the words say of a field's instruction -/
def zFld (cl : List vw_C) (s : State) (args : Array Value) (own : String) (idx ci j : Nat) : Prop :=
  ∃ (C : String) (T : u_T) (N : Nat) (ty0 : Nat → FieldType), cl[ci]? = some (C, T, N) ∧ j < N ∧ (∀ w ∈ u_ws C T N, w.before args s = true) ∧ (∀ k, k < N → parseFieldDescriptor (T k).2.2.1 = some (ty0 k)) ∧ (∀ a, a < N → ∀ b, b < N → a ≠ b → (T a).2.1 ≠ (T b).2.1) ∧
    ((Cond.fieldLink own idx (T j).1 (T j).2.1 (T j).2.2.1).before args s = true ∨ ∃ host, (Cond.fieldLinkNest own idx (T j).1 (T j).2.1 (T j).2.2.1 host).before args s = true)
/-- and of one that stores: its kind (0 an int, 1 a boolean, 2 a reference), not final -/
def zFldP (cl : List vw_C) (s : State) (args : Array Value) (own : String) (idx ci j tc : Nat) : Prop :=
  ∃ (C : String) (T : u_T) (N : Nat) (ty0 : Nat → FieldType), cl[ci]? = some (C, T, N) ∧ j < N ∧ (∀ w ∈ u_ws C T N, w.before args s = true) ∧ (∀ k, k < N → parseFieldDescriptor (T k).2.2.1 = some (ty0 k)) ∧ (∀ a, a < N → ∀ b, b < N → a ≠ b → (T a).2.1 ≠ (T b).2.1) ∧
    ((Cond.fieldLink own idx (T j).1 (T j).2.1 (T j).2.2.1).before args s = true ∨ ∃ host, (Cond.fieldLinkNest own idx (T j).1 (T j).2.1 (T j).2.2.1 host).before args s = true) ∧ (T j).2.2.2 = false ∧
    (tc = 0 → ty0 j = .int) ∧ (tc = 1 → ty0 j = .boolean) ∧ (tc = 2 → ∃ n, ty0 j = .object n)
section ZH
variable {p : Program} {l : Launch} {e : Env} {R : Room} {s : State} {m : MethodId} {args : Array Value} {below : List Frame} {meth : Method} {c : Code} {Q : State → Prop} {cc : ByteArray} {pc ce sl : Nat}
variable {Z : zZ} {D : va_G} {cl : List vw_C} {tys : List (ClassId × FieldType)} {A : Nat → Prop} {ad : Nat → Nat} {gh : Nat → Int} {wr : zWr} {H0 : Heap} {ws0 : va_W} {nu0 : List Int} {nL : Nat}
variable {env : List zIv} {cd : List zCd} {L st : List zAV} {fa : List zFa} {me : List zMe}
theorem zrdT_ok {nu : List Int} {a : Nat × Int} {ft : zFT} {q : Nat} {v : Value} (h0 : 0 < Z.2.2 ∧ gh 0 = 0) (hN : zN Z.2.2 gh nu0 nu env cd) (ha : zV nu a.1 a.2 q) (hv : zft ad gh Z.2.1 q ft v) (h9 : (zrdT Z env cd a ft).1 ≠ 9) : ∃ z, zRok nu (zrdT Z env cd a ft).2 z ∧ zval ad (zrdT Z env cd a ft).1 z v := by
  obtain ⟨tg, lo, hi⟩ := ft
  match tg, hv with
  | 0, ⟨x, h1, h2, h3⟩ =>
    refine ⟨x.toInt, ?_, x, h1, rfl⟩
    show zRok nu (if lo = hi then .inl (0, lo) else .inr [(lo, hi)]) x.toInt
    by_cases h : lo = hi
    · rw [if_pos h]
      have e : x.toInt = lo := by omega
      rw [e]
      exact hN.cst h0 lo
    · rw [if_neg h]
      exact ⟨_, List.mem_cons_self, h2, h3⟩
  | 7, ⟨x, h1, h2, h3⟩ =>
    refine ⟨x.toInt, ?_, x, h1, rfl⟩
    show zRok nu (if lo = hi then .inl (0, lo) else .inr [(lo, hi)]) x.toInt
    by_cases h : lo = hi
    · rw [if_pos h]
      have e : x.toInt = lo := by omega
      rw [e]
      exact hN.cst h0 lo
    · rw [if_neg h]
      exact ⟨_, List.mem_cons_self, h2, h3⟩
  | 8, ⟨x, h1, h2, h3⟩ => exact ⟨x.toInt, ⟨_, List.mem_cons_self, h2.1, h2.2⟩, x, h1, rfl⟩
  | 1, ⟨x, h1⟩ => exact ⟨x.toInt, zFullL_in x, x, h1, rfl⟩
  | 2, ⟨r, h1, h2, h3⟩ =>
    refine ⟨r, ?_, r, h1, rfl⟩
    show zRok nu (if lo = hi then .inl (0, lo) else .inr [(lo, hi)]) r
    by_cases h : lo = hi
    · rw [if_pos h]
      have e : (r : Int) = lo := by omega
      rw [e]
      exact hN.cst h0 lo
    · rw [if_neg h]
      exact ⟨_, List.mem_cons_self, h2, h3⟩
  | 3, ⟨x, h1, h2⟩ =>
    by_cases hg : lo.toNat < Z.2.2
    · have e : zrdT Z env cd a (3, lo, hi) = (1, .inl (lo.toNat, 0)) := if_pos hg
      rw [e]
      exact ⟨x.toInt, ⟨gh lo.toNat, hN.2.2.1 _ hg, by rw [h2]; omega⟩, x, h1, rfl⟩
    · have e : zrdT Z env cd a (3, lo, hi) = (9, .inr []) := if_neg hg
      rw [e] at h9
      exact absurd rfl h9
  | 4, h1 =>
    obtain ⟨u, hu, e⟩ := ha
    refine ⟨((q + lo.toNat : Nat) : Int), ⟨u, hu, ?_⟩, q + lo.toNat, h1, rfl⟩
    show ((q + lo.toNat : Nat) : Int) = u + (a.2 + (lo.toNat : Int))
    omega
  | 5, ⟨x, h1, h2⟩ =>
    by_cases hc : 1 < Z.2.2 ∧ zle env cd (a.1, a.2 + 1) (1, Z.2.1) = true
    · have e : zrdT Z env cd a (5, lo, hi) = (1, .inr [(lo, hi)]) := if_pos hc
      rw [e]
      have hle := zle_ok hc.2 hN.1 hN.2.1 (x := q + 1) (y := gh 1 + Z.2.1) (ha.up 1) ⟨gh 1, hN.2.2.1 1 hc.1, rfl⟩
      have := h2 (by omega)
      exact ⟨x.toInt, ⟨_, List.mem_cons_self, this.1, this.2⟩, x, h1, rfl⟩
    · have e : zrdT Z env cd a (5, lo, hi) = (1, .inr zFull) := if_neg hc
      rw [e]
      exact ⟨x.toInt, zFull_in x, x, h1, rfl⟩
theorem zwt_ok {nu : List Int} {a : Nat × Int} {ft : zFT} {av : zAV} {q : Nat} {v : Value} (h0 : 0 < Z.2.2 ∧ gh 0 = 0) (hN : zN Z.2.2 gh nu0 nu env cd) (ha : zV nu a.1 a.2 q) (hv : zm ad nu av v) (h : zwt Z env cd a ft av = true) : zft ad gh Z.2.1 q ft v := by
  obtain ⟨tg, lo, hi⟩ := ft
  obtain ⟨t2, n, k, n2, k2⟩ := av
  match tg, t2, hv, h with
  | 0, 1, ⟨x, h1, h2⟩, h =>
    obtain ⟨g1, g2⟩ := zinX_ok (a := (n, k)) h (hN.z0 h0) hN.1 hN.2.1 h2
    exact ⟨x, h1, g1, g2⟩
  | 7, 1, ⟨x, h1, h2⟩, h =>
    obtain ⟨g1, g2⟩ := zinX_ok (a := (n, k)) h (hN.z0 h0) hN.1 hN.2.1 h2
    exact ⟨x, h1, g1, g2⟩
  | 8, 1, ⟨x, h1, h2⟩, h =>
    have h' : (zinX env cd (n, k) lo hi && (decide (2 < Z.2.2) && zle env cd (2, 1) (n, k))) = true := h
    rw [Bool.and_eq_true, Bool.and_eq_true, decide_eq_true_eq] at h'
    have g := zinX_ok (a := (n, k)) h'.1 (hN.z0 h0) hN.1 hN.2.1 h2
    have hle := zle_ok h'.2.2 hN.1 hN.2.1 (x := gh 2 + 1) ⟨gh 2, hN.2.2.1 2 h'.2.1, rfl⟩ h2
    exact ⟨x, h1, g, fun _ => by omega⟩
  | 1, 2, ⟨x, h1, h2⟩, h => exact ⟨x, h1⟩
  | 2, 3, ⟨x, h1, h2⟩, h =>
    have b := h2.bd hN.1
    have h' : (decide (lo ≤ zlo env n + k) && decide (zhi env n + k ≤ hi)) = true := h
    rw [Bool.and_eq_true, decide_eq_true_eq, decide_eq_true_eq] at h'
    exact ⟨x, h1, by omega, by omega⟩
  | 3, 1, ⟨x, h1, h2⟩, h =>
    have h' : (n == lo.toNat && (decide (k = 0) && decide (lo.toNat < Z.2.2))) = true := h
    rw [Bool.and_eq_true, Bool.and_eq_true, beq_iff_eq, decide_eq_true_eq, decide_eq_true_eq] at h'
    obtain ⟨u, hu, e⟩ := h2
    rw [h'.1, hN.2.2.1 _ h'.2.2] at hu
    cases hu
    exact ⟨x, h1, by rw [e, h'.2.1]; omega⟩
  | 5, 1, ⟨x, h1, h2⟩, h =>
    have h' : (zin env (n, k) [(lo, hi)] || (decide (1 < Z.2.2) && zle env cd (1, Z.2.1) a)) = true := h
    refine ⟨x, h1, fun hq => ?_⟩
    rcases Bool.or_eq_true_iff.mp h' with h' | h'
    · obtain ⟨p, hp, g1, g2⟩ := zin_ok (a := (n, k)) h' hN.1 h2
      rw [List.mem_singleton] at hp
      subst hp
      exact ⟨g1, g2⟩
    · rw [Bool.and_eq_true, decide_eq_true_eq] at h'
      have hle := zle_ok h'.2 hN.1 hN.2.1 (x := gh 1 + Z.2.1) (y := q) ⟨gh 1, hN.2.2.1 1 h'.1, rfl⟩ ha
      omega
theorem zread_ok {nu : List Int} {ls : Array Slot} {stc stc' : List Value} {ws : va_W} {H : Heap} {locs : List Loc} {sg sg' : zS} {rest : List zAV} {a : Nat × Int} {j q : Nat} {ft : zFT} {v : Value} (h0 : 0 < Z.2.2 ∧ gh 0 = 0) (h : zG Z D cl tys A ad gh wr H0 ws0 nu0 nL sg nu ls stc' ws H locs) (hs : zall (zm ad nu) rest stc)
    (ha : zV nu a.1 a.2 q) (hv : zfv ws q j = some v) (ht : zft ad gh Z.2.1 q ft v) (he : zread Z sg rest a j ft = some sg') : ∃ nu', zG Z D cl tys A ad gh wr H0 ws0 nu0 nL sg' nu' ls (v :: stc) ws H locs := by
  unfold zread at he
  split at he
  · rename_i f hf
    have hm := List.mem_of_find?_eq_some hf
    have hp := List.find?_some hf
    simp only [Bool.and_eq_true, beq_iff_eq] at hp
    split at he
    · cases he
      obtain ⟨q', v', g1, g2, g3⟩ := h.2.2.2.2.1 f hm
      rw [hp.1, hp.2.1] at g1
      have e : q' = q := by have := g1.eq ha; omega
      subst e
      rw [hp.2.2, hv] at g2
      cases g2
      exact ⟨nu, h.1, h.2.1, h.2.2.1, ⟨g3, hs⟩, h.2.2.2.2.1, h.2.2.2.2.2⟩
    · cases he
  · split at he
    · cases he
    · rename_i h9
      cases he
      obtain ⟨z, g1, g2⟩ := zrdT_ok h0 h.2.1 ha ht h9
      generalize zrdT Z sg.1 sg.2.1 a ft = tr at g1 g2
      obtain ⟨tag, r⟩ := tr
      cases r with
      | inl b =>
        refine ⟨nu, h.1, h.2.1, h.2.2.1, ⟨g2.zm g1, hs⟩, ?_, h.2.2.2.2.2⟩
        intro f hf
        rcases List.mem_cons.mp hf with rfl | hf
        · exact ⟨q, v, ha, hv, g2.zm g1⟩
        · exact h.2.2.2.2.1 f hf
      | inr iv =>
        have hn := zV.new h.2.1.1 z
        refine ⟨nu ++ [z], h.1, h.2.1.push g1, h.2.2.1.app, ⟨g2.zm hn, hs.mono fun a v h => h.app⟩, ?_, h.2.2.2.2.2.app⟩
        intro f hf
        rcases List.mem_cons.mp hf with rfl | hf
        · exact ⟨q, v, ha.app, hv, g2.zm hn⟩
        · exact h.2.2.2.2.1.app f hf
theorem zreadU_ok {nu : List Int} {ls : Array Slot} {stc stc' : List Value} {ws : va_W} {H : Heap} {locs : List Loc} {sg sg' : zS} {rest : List zAV} {a : Nat × Int} {q : Nat} {ft : zFT} {v : Value} (h0 : 0 < Z.2.2 ∧ gh 0 = 0) (h : zG Z D cl tys A ad gh wr H0 ws0 nu0 nL sg nu ls stc' ws H locs) (hs : zall (zm ad nu) rest stc)
    (ha : zV nu a.1 a.2 q) (ht : zft ad gh Z.2.1 q ft v) (he : zreadU Z sg rest a ft = some sg') : ∃ nu', zG Z D cl tys A ad gh wr H0 ws0 nu0 nL sg' nu' ls (v :: stc) ws H locs := by
  unfold zreadU at he
  split at he
  · cases he
  · rename_i h9
    cases he
    obtain ⟨z, g1, g2⟩ := zrdT_ok h0 h.2.1 ha ht h9
    generalize zrdT Z sg.1 sg.2.1 a ft = tr at g1 g2
    obtain ⟨tag, r⟩ := tr
    cases r with
    | inl b => exact ⟨nu, h.1, h.2.1, h.2.2.1, ⟨g2.zm g1, hs⟩, h.2.2.2.2.1, h.2.2.2.2.2⟩
    | inr iv => exact ⟨nu ++ [z], h.1, h.2.1.push g1, h.2.2.1.app, ⟨g2.zm (zV.new h.2.1.1 z), hs.mono fun a v h => h.app⟩, h.2.2.2.2.1.app, h.2.2.2.2.2.app⟩
/-- getfield -/
theorem zs_get (hx : p.tables.exec = Jvm.exec) (hb : c.code = cc) (h0 : 0 < Z.2.2 ∧ gh 0 = 0) {own : String} (hown : s.vm.findClass own = some m.cls) (hK : va_K D cl tys s) {idx ci j n n2 x : Nat} {k k2 : Int} {fts : List zFT} {ft : zFT} {sg' : zS} (hd : decode cc pc = .ok (.getfield idx, 3)) (hf : zFld cl s args own idx ci j)
    (ht : zty Z env (n, k) = some (0, ci, x, fts)) (hj : fts[j]? = some ft) (hr : zread Z (env, cd, L, st, fa, me) st (n, k) j ft = some sg') (kk : zWP (zG Z D cl tys A ad gh wr H0 ws0 nu0 nL) (fun H locs pc ls st => W p l e R s m args below meth c H locs ce sl Q (F0 m pc ls st)) (pc + 3) sg') : zWP (zG Z D cl tys A ad gh wr H0 ws0 nu0 nL) (fun H locs pc ls st => W p l e R s m args below meth c H locs ce sl Q (F0 m pc ls st)) pc (env, cd, L, (3, n, k, n2, k2) :: st, fa, me) := by
  intro nu ls stc ws H locs hG
  obtain ⟨hH, hN, hL, hS, hF, hM⟩ := hG
  match stc, hS with
  | v1 :: stc, ⟨⟨q, hq, h1⟩, hS⟩ =>
    subst hq
    obtain ⟨e0, he0, g1, g2, g3⟩ := zty_ok ht hN.1 h1
    have hc := hH.2.2.2.1 e0 he0 q g1 g2
    rw [g3] at hc
    obtain ⟨fs, c1, c2, c3⟩ := hc
    have hl : j < fs.length := by rw [c2]; exact (List.getElem?_eq_some_iff.mp hj).1
    have hv : fs[j]? = some fs[j] := List.getElem?_eq_getElem hl
    obtain ⟨nu', h⟩ := zread_ok (sg := (env, cd, L, st, fa, me)) (stc' := stc) h0 ⟨hH, hN, hL, hS, hF, hM⟩ hS h1 (show zfv ws q j = some fs[j] by unfold zfv; rw [c1]; exact hv) (c3 j ft _ hj hv) hr
    obtain ⟨C, T, N, ty0, f1, f2, f3, f4, f5, f6⟩ := hf
    rcases f6 with f6 | ⟨host, f6⟩
    · exact va_get hx hb f3 (fun w hw => hw) hown hK hH.1 q c1 f1 j f2 f6 (fun x h => h) hv hd (kk nu' ls _ ws H locs h)
    · exact va_getN hx hb f3 (fun w hw => hw) hown hK hH.1 q c1 f1 j f2 f6 (fun x h => h) hv hd (kk nu' ls _ ws H locs h)
theorem zget_set {ws : va_W} {q : Nat} {x y : Nat × va_E} (h : ws[q]? = some x) : (ws.set q y)[q]? = some y := List.getElem?_set_self (List.getElem?_eq_some_iff.mp h).1
/-- behind a write: the world is typed still -/
theorem zW.upd {ws ws' : va_W} {q : Nat} {e0 : Nat × Nat × zCT} (hZ : zDj Z) (h : zW Z ad gh tys ws) (he : e0 ∈ Z.1) (h1 : e0.1 ≤ q) (h2 : q ≤ e0.2.1) (ho : ∀ q' : Nat, q' ≠ q → ws'[q']? = ws[q']?) (hq : zcell ad gh Z.2.1 tys ws' q e0.2.2) (h7 : e0.2.2.1 ≠ 7) : zW Z ad gh tys ws' := by
  intro e hem q' g1 g2
  by_cases hqq : q' = q
  · subst hqq
    rw [← hZ.1 e0 he e hem q' h1 h2 g1 g2]
    exact hq
  · have h3 := h e hem q' g1 g2
    have h4 := ho q' hqq
    have h5 : e.2.2.1 = 6 → ws'[q' + (e.2.2.2.2.2.headD (0, 0, 0)).1]? = ws[q' + (e.2.2.2.2.2.headD (0, 0, 0)).1]? := fun h6 => by
      obtain ⟨e', z1, z2, z3, z4⟩ := hZ.2 e hem h6 q' g1 g2
      refine ho _ (fun hx => h7 ?_)
      rw [hx] at z2 z3
      rw [hZ.1 e0 he e' z1 q h1 h2 z2 z3]
      exact z4
    generalize e.2.2 = ct at h3 h5
    obtain ⟨tg, ci, len, fts⟩ := ct
    match tg, h3 with
    | 0, ⟨fs, c1, c2⟩ => exact ⟨fs, by rw [h4]; exact c1, c2⟩
    | 1, ⟨cA, f, c1, c2⟩ => exact ⟨cA, f, by rw [h4]; exact c1, c2⟩
    | 2, ⟨cA, f, c1, c2⟩ => exact ⟨cA, f, by rw [h4]; exact c1, c2⟩
    | 3, ⟨cA, f, c1, c2⟩ => exact ⟨cA, f, by rw [h4]; exact c1, c2⟩
    | 4, ⟨cA, C, f, c1, c2⟩ => exact ⟨cA, C, f, by rw [h4]; exact c1, c2⟩
    | 5, ⟨cA, f, c1, c2⟩ => exact ⟨cA, f, by rw [h4]; exact c1, c2⟩
    | 6, ⟨cA, cB, f, g, c1, c2, c3, c4⟩ => exact ⟨cA, cB, f, g, by rw [h4]; exact c1, c2, by have h8 := h5 rfl; rw [h8]; exact c3, c4⟩
    | 7, ⟨cA, f, c1, c2⟩ => exact ⟨cA, f, by rw [h4]; exact c1, c2⟩
theorem zUn.upd {ws ws' : va_W} {q j : Nat} {v : Value} (h : zUn wr ws0 ws) (hu : zUpd ws ws' q j v) (hc : ∃ w ∈ wr, zcov w q j) : zUn wr ws0 ws' := by
  intro q' j' hn
  rw [← h q' j' hn]
  by_cases hq : q' = q
  · subst hq
    by_cases hj : j' = j
    · subst hj
      obtain ⟨w, hw, hc⟩ := hc
      exact absurd hc (hn w hw)
    · exact hu.2.1 j' hj
  · exact zfv_ne (hu.1 q' hq) j'
theorem zUpd.obj {ws : va_W} {q ci j : Nat} {fs : List Value} {v : Value} {a : Nat} (h : ws[q]? = some (a, .inr (ci, fs))) (hj : j < fs.length) : zUpd ws (ws.set q (a, .inr (ci, fs.set j v))) q j v := by
  refine ⟨fun q' hq => List.getElem?_set_ne (Ne.symm hq), fun j' hj' => ?_, ?_⟩
  · unfold zfv
    rw [zget_set h, h]
    exact List.getElem?_set_ne (Ne.symm hj')
  · unfold zfv
    rw [zget_set h]
    exact List.getElem?_set_self hj
theorem zUpd.int {ws : va_W} {q j len : Nat} {cA : ClassId} {f : Nat → Int32} {x : Int32} {a : Nat} (h : ws[q]? = some (a, .inl (cA, len, .inl f))) (hj : j < len) : zUpd ws (ws.set q (a, .inl (cA, len, .inl (upd f j x)))) q j (.int x) := by
  refine ⟨fun q' hq => List.getElem?_set_ne (Ne.symm hq), fun j' hj' => ?_, ?_⟩
  · unfold zfv
    rw [zget_set h, h]
    simp [upd, hj']
  · unfold zfv
    rw [zget_set h]
    simp [upd, hj]
theorem zUpd.lng {ws : va_W} {q j len : Nat} {cA : ClassId} {f : Nat → Int64} {x : Int64} {a : Nat} (h : ws[q]? = some (a, .inl (cA, len, .inr (.inl f)))) (hj : j < len) : zUpd ws (ws.set q (a, .inl (cA, len, .inr (.inl (vp_updL f j x))))) q j (.long x) := by
  refine ⟨fun q' hq => List.getElem?_set_ne (Ne.symm hq), fun j' hj' => ?_, ?_⟩
  · unfold zfv
    rw [zget_set h, h]
    simp [vp_updL, hj']
  · unfold zfv
    rw [zget_set h]
    simp [vp_updL, hj]
/-- putfield: v is what the abstract value stands for, and it fits the field -/
theorem zs_putV (hx : p.tables.exec = Jvm.exec) (hb : c.code = cc) (h0 : 0 < Z.2.2 ∧ gh 0 = 0) {own : String} (hown : s.vm.findClass own = some m.cls) (hK : va_K D cl tys s) (hZ : zDj Z) {idx ci j tc n n2 x : Nat} {k k2 : Int} {fts : List zFT} {ft : zFT} {av : zAV} (hd : decode cc pc = .ok (.putfield idx, 3)) (hf : zFldP cl s args own idx ci j tc)
    (ht : zty Z env (n, k) = some (0, ci, x, fts)) (hj : fts[j]? = some ft) (hw : zwt Z env cd (n, k) ft av = true) (hcv : zcovB wr env (n, k) j = true)
    (hfit : ∀ (nu : List Int) (v : Value) (ty : FieldType), zN Z.2.2 gh nu0 nu env cd → zm ad nu av v → (tc = 0 → ty = .int) → (tc = 1 → ty = .boolean) → (tc = 2 → ∃ n, ty = .object n) → narrow ty v = v ∧ fits ty v = true)
    (kk : zWP (zG Z D cl tys A ad gh wr H0 ws0 nu0 nL) (fun H locs pc ls st => W p l e R s m args below meth c H locs ce sl Q (F0 m pc ls st)) (pc + 3) (env, cd, L, st, (n, k, j, av) :: zfk env fa (n, k) j, me)) : zWP (zG Z D cl tys A ad gh wr H0 ws0 nu0 nL) (fun H locs pc ls st => W p l e R s m args below meth c H locs ce sl Q (F0 m pc ls st)) pc (env, cd, L, av :: (3, n, k, n2, k2) :: st, fa, me) := by
  intro nu ls stc ws H locs hG
  obtain ⟨hH, hN, hL, hS, hF, hM⟩ := hG
  match stc, hS with
  | v :: v1 :: stc, ⟨hv, ⟨q, hq, h1⟩, hS⟩ =>
    subst hq
    obtain ⟨e0, he0, g1, g2, g3⟩ := zty_ok ht hN.1 h1
    have hc := hH.2.2.2.1 e0 he0 q g1 g2
    rw [g3] at hc
    obtain ⟨fs, c1, c2, c3⟩ := hc
    have hl : j < fs.length := by rw [c2]; exact (List.getElem?_eq_some_iff.mp hj).1
    obtain ⟨C, T, N, ty0, f1, f2, f3, f4, f5, f6, f7, f8, f9, f10⟩ := hf
    obtain ⟨n1, n2'⟩ := hfit nu v (ty0 j) hN hv f8 f9 f10
    have hu := zUpd.obj (v := v) c1 hl
    have hft := zwt_ok (ad := ad) h0 hN h1 hv hw
    have hcell : zcell ad gh Z.2.1 tys (ws.set q (ad q, .inr (ci, fs.set j v))) q e0.2.2 := by
      rw [g3]
      refine ⟨fs.set j v, zget_set c1, by rw [List.length_set]; exact c2, fun j' ft' v' hj' hv' => ?_⟩
      by_cases hjj : j' = j
      · subst hjj
        rw [List.getElem?_set_self hl] at hv'
        cases hv'
        rw [hj] at hj'
        cases hj'
        exact hft
      · rw [List.getElem?_set_ne (Ne.symm hjj)] at hv'
        exact c3 j' ft' v' hj' hv'
    have fin : ∀ (H1 : Heap) (locs1 : List Loc), va_P D cl (ws.set q (ad q, .inr (ci, fs.set j v))) H1 → va_D A (ws.set q (ad q, .inr (ci, fs.set j v))) → va_S A H0 H1 locs1 → W p l e R s m args below meth c H1 locs1 ce sl Q (F0 m (pc + 3) ls stc) := fun H1 locs1 p1 p2 p3 =>
      kk nu ls stc _ H1 locs1 ⟨⟨p1, p2, p3, zW.upd hZ hH.2.2.2.1 he0 g1 g2 hu.1 hcell (by rw [g3]; simp), zUn.upd hH.2.2.2.2 hu (zcovB_ok hcv hN.1 h1)⟩, hN, hL, hS, zF.put (a := (n, k)) hF hN.1 h1 hu hv, hM⟩
    rcases f6 with f6 | ⟨host, f6⟩
    · exact va_put hx hb f3 (fun w hw => hw) ty0 f4 f5 hown hK hH.1 hH.2.1 hH.2.2.1 q c1 f1 j f2 f6 (fun x h => h) f7 (f4 j f2) n1 n2' hl hd fin
    · exact va_putN hx hb f3 (fun w hw => hw) ty0 f4 f5 hown hK hH.1 hH.2.1 hH.2.2.1 q c1 f1 j f2 f6 (fun x h => h) f7 (f4 j f2) n1 n2' hl hd fin
end ZH
