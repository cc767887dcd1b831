/-! MAKING: arrays, what stands in each place -/
section ZEX
variable {p : Program} {l : Launch} {e : Env} {R : Room} {s : State} {m : MethodId} {args : Array Value} {below : List Frame} {meth : Method} {c : Code} {Q : State → Prop} {cc : ByteArray} {pc ce sl nL : Nat} {D : va_G} {cl : List vw_C} {tys : List (ClassId × FieldType)} {A : Nat → Prop} {ad : Nat → Nat} {H0 H : Heap} {locs : List Loc} {ls : Array Slot} {rest : List Value} {ws0 ws : va_W} {q a ci : Nat} {na aa : Nat → Nat} {F : List zMV} {cs : List zMC}
def zArr (ws0 ws : va_W) (na : Nat → Nat) (k n : Nat) (P : Nat → Int → Prop) : Prop := ∃ (cA : ClassId) (f : Nat → Int32), ws[ws0.length + k]? = some (na k, .inl (cA, n, .inl f)) ∧ ∀ j : Nat, j < n → P j (f j).toInt
theorem zArr.congr {k n : Nat} {P P' : Nat → Int → Prop} (h : zArr ws0 ws na k n P) (hP : ∀ (j : Nat) (x : Int), j < n → P j x → P' j x) : zArr ws0 ws na k n P' := by
  obtain ⟨cA, f, h1, h2⟩ := h
  exact ⟨cA, f, h1, fun j hj => hP j _ hj (h2 j hj)⟩
theorem zArr.of (hM : zMW ws0 ws q a na aa tys F ci cs) {k t n u1 u2 : Nat} {lo hi : Int} {P : Nat → Int → Prop} (hk : cs[k]? = some (1, t, n, [(u1, lo), (u2, hi)])) (hP : ∀ (j : Nat) (x : Int), j < n → lo ≤ x → x ≤ hi → P j x) : zArr ws0 ws na k n P := by
  obtain ⟨y, g1, cA, f, rfl, g2, g3⟩ := hM.2.2.2.2 k _ hk
  exact ⟨cA, f, g1, fun j hj => hP j _ hj (g3 j hj).1 (g3 j hj).2⟩
theorem zMW.repl (h : zMW ws0 ws q a na aa tys F ci cs) {k t n : Nat} {bb : List zMV} {C : zMC} (hk : cs[k]? = some (1, t, n, bb)) {P : Nat → Int → Prop} (hA : zArr ws0 ws na k n P) (hC : ∀ (cA : ClassId) (f : Nat → Int32), tys[t]? = some (cA, .int) → (∀ j : Nat, j < n → P j (f j).toInt) → zcr a na aa cs.length tys C (.inl (cA, n, .inl f))) : zMW ws0 ws q a na aa tys F ci (cs.set k C) := by
  obtain ⟨h1, h2, h3, ⟨fs, h4, h5⟩, h6⟩ := h
  obtain ⟨y, g1, cA', f', rfl, g2, g3⟩ := h6 k _ hk
  obtain ⟨cA, f, f1, f2⟩ := hA
  rw [g1] at f1
  cases f1
  refine ⟨h1, by rw [List.length_set]; exact h2, h3, ⟨fs, h4, by rw [List.length_set]; exact h5⟩, fun k' C'' hk' => ?_⟩
  rw [List.length_set]
  by_cases e : k' = k
  · subst e
    rw [List.getElem?_set_self (List.getElem?_eq_some_iff.mp hk).1] at hk'
    cases hk'
    exact ⟨_, g1, hC _ _ g2 f2⟩
  · rw [List.getElem?_set_ne (Ne.symm e)] at hk'
    exact h6 k' C'' hk'
theorem zMW.same (h : zMW ws0 ws q a na aa tys F ci cs) {k t n : Nat} {bb : List zMV} (hk : cs[k]? = some (1, t, n, bb)) {v : Int} {u1 u2 : Nat} (hA : zArr ws0 ws na k n (fun _ x => x = v)) : zMW ws0 ws q a na aa tys F ci (cs.set k (1, t, n, [(u1, v), (u2, v)])) := by
  refine h.repl hk hA (fun cA f h1 h2 => ⟨cA, f, rfl, h1, fun j hj => ?_⟩)
  have h9 := h2 j hj
  exact ⟨Int.le_of_eq h9.symm, Int.le_of_eq h9⟩
theorem zMW.exact (h : zMW ws0 ws q a na aa tys F ci cs) {k t n : Nat} {bb : List zMV} (b : List zMV) (hk : cs[k]? = some (1, t, n, bb)) (hA : zArr ws0 ws na k n (fun j x => ∀ e : zMV, b[j]? = some e → x = e.2)) : zMW ws0 ws q a na aa tys F ci (cs.set k (7, t, n, b)) :=
  h.repl hk hA (fun cA f h1 h2 => ⟨cA, f, rfl, h1, fun j e hj he => h2 j hj e he⟩)
theorem zn_istE (hx : p.tables.exec = Jvm.exec) (hb : c.code = cc) (hK : va_K D cl tys s) (hP : va_P D cl ws H) (hD : va_D A ws) (hS : va_S A H0 H locs) (hM : zMW ws0 ws q a na aa tys F ci cs) {k t n : Nat} {lo hi v : Int} {u1 u2 : Nat} (hk : cs[k]? = some (1, t, n, [(u1, lo), (u2, hi)])) {i x : Int32} (hin : vp_in i n) (h1 : lo ≤ x.toInt) (h2 : x.toInt ≤ hi) (hv : x.toInt = v) (hd : decode cc pc = .ok (.iastore, 1))
    (kk : ∀ (H1 : Heap) (locs1 : List Loc) (ws1 : va_W), va_P D cl ws1 H1 → va_D A ws1 → va_S A H0 H1 locs1 → zMW ws0 ws1 q a na aa tys F ci cs → (∀ P : Nat → Int → Prop, zArr ws0 ws na k n P → zArr ws0 ws1 na k n (fun j y => if j = i.toInt.toNat then y = v else P j y)) → (∀ (k' n' : Nat) (P : Nat → Int → Prop), k' ≠ k → zArr ws0 ws na k' n' P → zArr ws0 ws1 na k' n' P) → W p l e R s m args below meth c H1 locs1 ce sl Q (F0 m (pc + 1) ls rest)) : W p l e R s m args below meth c H locs ce sl Q (F0 m pc ls (.int x :: .int i :: .ref (na k) :: rest)) := by
  obtain ⟨y, g1, cA, f, rfl, g2, g3⟩ := hM.2.2.2.2 k _ hk
  refine va_iast hx hb hK hP hD hS (ws0.length + k) t g1 g2 hin hd (fun H1 locs1 p1 p2 p3 => kk H1 locs1 _ p1 p2 p3 ?_ ?_ ?_)
  · have := hM.cell (List.getElem?_eq_some_iff.mp hk).1 (C := (1, t, n, [(u1, lo), (u2, hi)])) (x := .inl (cA, n, .inl (upd f i.toNatClampNeg x))) ⟨cA, _, rfl, g2, fun j hj => by
      by_cases ej : j = i.toNatClampNeg
      · subst ej
        simp only [upd, if_true]
        exact ⟨h1, h2⟩
      · simp only [upd, if_neg ej]
        exact g3 j hj⟩
    rwa [zset_self hk] at this
  · intro P hA
    obtain ⟨cA2, f2, q1, q2⟩ := hA
    rw [g1] at q1
    cases q1
    refine ⟨_, _, List.getElem?_set_self (List.getElem?_eq_some_iff.mp g1).1, fun j hj => ?_⟩
    have e9 : i.toNatClampNeg = i.toInt.toNat := rfl
    rw [e9]
    show if j = i.toInt.toNat then (upd f i.toInt.toNat x j).toInt = v else P j (upd f i.toInt.toNat x j).toInt
    by_cases ej : j = i.toInt.toNat
    · rw [if_pos ej]
      simp only [upd, if_pos ej]
      exact hv
    · rw [if_neg ej]
      simp only [upd, if_neg ej]
      exact q2 j hj
  · intro k' n' P hkk hA
    obtain ⟨cA2, f2, q1, q2⟩ := hA
    exact ⟨cA2, f2, by rw [List.getElem?_set_ne (by omega)]; exact q1, q2⟩
end ZEX
