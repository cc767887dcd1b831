/-! OPERATIONS ALIKE: text -/
theorem yjc_TF0 {g : yM} (hJ : yJnv g) : yTy zpZ g := by
  exact hJ.1.1
theorem yjc_TF1 {g : yM} (hJ : yJnv g) : g 2 2 ≤ 60 := by
  have h := hJ.2.1.2.1
  omega
theorem yjm_TF0 {g g1 : yM} {r1 : Int} (hJ : yJnv g)  (a0 : r1 = (if yTxF (yTs g) (g 2 2) = -1 then 1 else yw (-100 - yTxF (yTs g) (g 2 2)))) (a1 : ∃ m : yM, yTy zpZ m ∧ yXtf g m ∧ yTS g m (yTxF (yTs g) (g 2 2)) ∧ g1 = yset m 2 2 0) : yTy zpZ g1 := by
  obtain ⟨m, h1, h2, h4, h3⟩ := a1
  rw [h3]
  exact h1.sO (List.mem_of_getElem? (i := 2) rfl) rfl (by decide +kernel) ⟨by decide, by decide⟩
theorem yj_TF {g g1 g2 : yM} {r1 r2 : Int} (hJ : yJnv g)  (a0 : r1 = (if yTxF (yTs g) (g 2 2) = -1 then 1 else yw (-100 - yTxF (yTs g) (g 2 2)))) (a1 : ∃ m : yM, yTy zpZ m ∧ yXtf g m ∧ yTS g m (yTxF (yTs g) (g 2 2)) ∧ g1 = yset m 2 2 0) (b0 : r2 = (if yTxF (yTz g1) (g1 90 13) = -1 then 1 else yw (-100 - yTxF (yTz g1) (g1 90 13)))) (b1 : yTy zpZ g2) (b2 : g2 90 13 = 0) (b3 : yUn yTXs g1 g2) (b4 : (yTxF (yTz g1) (g1 90 13) = -1 → g2 90 15 = g1 90 13 ∧ ∀ j : Nat, (j : Int) < g1 90 13 → g2 99 j = g1 98 j) ∧ (yTxF (yTz g1) (g1 90 13) ≠ -1 → g2 90 15 = g1 90 15 ∧ ∀ j : Nat, g2 99 j = g1 99 j)) : yJnv g2 ∧ r1 = r2 := by
  obtain ⟨m, h1, h2, h4, h3⟩ := a1
  have u1 : yUn (yTFs ++ [(2, 2, 1, 2)]) g g1 := by
    rw [h3]
    exact yUn.st (yUn.sub h2.un (fun w hw => List.mem_append_left _ hw)) ⟨(2, 2, 1, 2), List.mem_append_right _ List.mem_cons_self, by decide, by decide, Or.inr rfl⟩
  have m1 : ∀ rs : zWr, ydj (yTFs ++ [(2, 2, 1, 2)]) rs = true → ydj yTXs rs = true → yEq rs g g2 := fun rs q1 q2 q j hr => (b3.eq q2 q j hr).trans (u1.eq q1 q j hr)
  obtain ⟨hVt, hVc, hVv, hVh, hVd⟩ := hJ.2
  have e1 : g1 2 2 = 0 := by
    rw [h3]
    exact yset_eq
  have e22 : g2 2 2 = 0 := by
    rw [(b3.eq (rs := [(2, 2, 1, 2)]) (by decide +kernel)).one (by decide)]
    exact e1
  have v1 := hVt.1
  have v3 := hVt.2.2
  have f13 : g1 90 13 = g 90 13 := (u1.eq (rs := [(90, 90, 1, 13)]) (by decide +kernel)).one (by decide)
  have f98 : ∀ j : Nat, g1 98 j = g 98 j := fun j => (u1.eq (rs := [(98, 98, 0, 0)]) (by decide +kernel)).all (List.mem_singleton.mpr rfl : ((98 : Int), (98 : Int), (0 : Nat), (0 : Nat)) ∈ [((98 : Int), (98 : Int), (0 : Nat), (0 : Nat))]) (by decide) (by decide) j
  have ef : yTz g1 = yTs g := funext fun p => by
    unfold yTz yTs
    rw [f13, f98, v1]
    by_cases c : 0 ≤ p ∧ p < g 2 2
    · rw [if_pos c, if_pos c]
      exact v3 _ (by omega)
    · rw [if_neg c, if_neg c]
  refine ⟨⟨⟨b1, hJ.1.2.mono (m1 _ (by decide +kernel) (by decide +kernel))⟩, ⟨by rw [b2, e22], by omega, fun k hk => by omega⟩, hVc.mono (m1 _ (by decide +kernel) (by decide +kernel)), hVv.mono (m1 _ (by decide +kernel) (by decide +kernel)), hVh.mono (m1 _ (by decide +kernel) (by decide +kernel)), hVd.mono (m1 _ (by decide +kernel) (by decide +kernel))⟩, ?_⟩
  rw [a0, b0, ef, f13, v1]
