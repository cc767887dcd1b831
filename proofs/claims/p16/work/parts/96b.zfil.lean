/-! MAKING: rows filled one by one -/
section ZFL
variable {p : Program} {l : Launch} {e : Env} {R : Room} {s : State} {m : MethodId} {args : Array Value} {below : List Frame} {meth : Method} {c : Code} {Q : State → Prop} {cc : ByteArray} {pc ce sl nL : Nat} {D : va_G} {cl : List vw_C} {tys : List (ClassId × FieldType)} {A : Nat → Prop} {ad : Nat → Nat} {H0 H : Heap} {locs : List Loc} {ls : Array Slot} {rest : List Value} {ws0 ws : va_W} {q a ci : Nat} {na aa : Nat → Nat} {F : List zMV} {cs : List zMC}
def zFil (ws0 ws : va_W) (na : Nat → Nat) (k n : Nat) (v c : Int) : Prop := ∃ (cA : ClassId) (f : Nat → Int32), ws[ws0.length + k]? = some (na k, .inl (cA, n, .inl f)) ∧ ∀ j : Nat, j < n → (j : Int) < c → (f j).toInt = v
theorem zFil.zero (hM : zMW ws0 ws q a na aa tys F ci cs) {k t n : Nat} {bb : List zMV} (hk : cs[k]? = some (1, t, n, bb)) {v c : Int} (hc : c = 0) : zFil ws0 ws na k n v c := by
  obtain ⟨y, g1, cA, f, rfl, g2, g3⟩ := hM.2.2.2.2 k _ hk
  exact ⟨cA, f, g1, fun j _ h => absurd h (by omega)⟩
theorem zMW.know (h : zMW ws0 ws q a na aa tys F ci cs) {k t n : Nat} {bb : List zMV} (hk : cs[k]? = some (1, t, n, bb)) {v c : Int} {u1 u2 : Nat} (hF : zFil ws0 ws na k n v c) (hc : (n : Int) ≤ c) : zMW ws0 ws q a na aa tys F ci (cs.set k (1, t, n, [(u1, v), (u2, v)])) := by
  obtain ⟨h1, h2, h3, ⟨fs, h4, h5⟩, h6⟩ := h
  obtain ⟨y, g1, cA', f', rfl, g2, g3⟩ := h6 k _ hk
  obtain ⟨cA, f, f1, f2⟩ := hF
  rw [g1] at f1
  cases f1
  refine ⟨h1, by rw [List.length_set]; exact h2, h3, ⟨fs, h4, by rw [List.length_set]; exact h5⟩, fun k' C'' hk' => ?_⟩
  rw [List.length_set]
  by_cases e : k' = k
  · subst e
    rw [List.getElem?_set_self (List.getElem?_eq_some_iff.mp hk).1] at hk'
    cases hk'
    refine ⟨_, g1, _, _, rfl, g2, fun j hj => ?_⟩
    have h9 := f2 j hj (by omega)
    exact ⟨Int.le_of_eq h9.symm, Int.le_of_eq h9⟩
  · rw [List.getElem?_set_ne (Ne.symm e)] at hk'
    exact h6 k' C'' hk'
theorem zn_istF (hx : p.tables.exec = Jvm.exec) (hb : c.code = cc) (hK : va_K D cl tys s) (hP : va_P D cl ws H) (hD : va_D A ws) (hS : va_S A H0 H locs) (hM : zMW ws0 ws q a na aa tys F ci cs) {k t n : Nat} {lo hi v : Int} {u1 u2 : Nat} (hk : cs[k]? = some (1, t, n, [(u1, lo), (u2, hi)])) {i x : Int32} (hin : vp_in i n) (h1 : lo ≤ x.toInt) (h2 : x.toInt ≤ hi) (hv : x.toInt = v) (hF : zFil ws0 ws na k n v i.toInt) (hd : decode cc pc = .ok (.iastore, 1))
    (kk : ∀ (H1 : Heap) (locs1 : List Loc) (ws1 : va_W), va_P D cl ws1 H1 → va_D A ws1 → va_S A H0 H1 locs1 → zMW ws0 ws1 q a na aa tys F ci cs → zFil ws0 ws1 na k n v (i.toInt + 1) → W p l e R s m args below meth c H1 locs1 ce sl Q (F0 m (pc + 1) ls rest)) : W p l e R s m args below meth c H locs ce sl Q (F0 m pc ls (.int x :: .int i :: .ref (na k) :: rest)) := by
  obtain ⟨y, g1, cA, f, rfl, g2, g3⟩ := hM.2.2.2.2 k _ hk
  refine va_iast hx hb hK hP hD hS (ws0.length + k) t g1 g2 hin hd (fun H1 locs1 p1 p2 p3 => kk H1 locs1 _ p1 p2 p3 ?_ ?_)
  · have := hM.cell (List.getElem?_eq_some_iff.mp hk).1 (C := (1, t, n, [(u1, lo), (u2, hi)])) (x := .inl (cA, n, .inl (upd f i.toNatClampNeg x))) ⟨cA, _, rfl, g2, fun j hj => by
      by_cases ej : j = i.toNatClampNeg
      · subst ej
        simp only [upd, if_true]
        exact ⟨h1, h2⟩
      · simp only [upd, if_neg ej]
        exact g3 j hj⟩
    rwa [zset_self hk] at this
  · obtain ⟨cA2, f2, q1, q2⟩ := hF
    rw [g1] at q1
    cases q1
    refine ⟨_, _, List.getElem?_set_self (List.getElem?_eq_some_iff.mp g1).1, fun j hj hc => ?_⟩
    have h9 := vp_in_iff.mp hin
    by_cases ej : j = i.toNatClampNeg
    · subst ej
      simp only [upd, if_true]
      exact hv
    · simp only [upd, if_neg ej]
      have e9 : i.toNatClampNeg = i.toInt.toNat := rfl
      rw [e9] at ej
      exact q2 j hj (by omega)
end ZFL
