/-! BOTH SIDES ALIKE: rule -/
theorem yam_rule0 {g g1 : yM} {c a w r1 : Int} (hI : yInv g) (a0 : (r1 = -1 ∧ ¬ (0 ≤ c ∧ c < 8 ∧ 0 ≤ a ∧ a < 10000 ∧ 0 ≤ w ∧ w < 100)) ∨ ((0 ≤ c ∧ c < 8 ∧ 0 ≤ a ∧ a < 10000 ∧ 0 ≤ w ∧ w < 100) ∧ ((r1 = -3 ∧ g 6 8 = 20) ∨ (r1 = g 6 8 ∧ g 6 8 < 20)))) (a1 : r1 < 0 → g1 = g) (a2 : 0 ≤ r1 → g1 = yset (yset (yset (yset (yset g 30 (Int.toNat (g 6 8)) c) 27 (Int.toNat (g 6 8)) (yb (fun x y => x / y) a 100)) 28 (Int.toNat (g 6 8)) (yb (fun x y => x - x / y * y) a 100)) 29 (Int.toNat (g 6 8)) w) 6 8 (g 6 8 + 1)) : 0 ≤ g1 90 38 ∧ g1 90 38 ≤ 20 := by
  obtain ⟨hT, ⟨i1, i2, i3⟩, -⟩ := hI
  by_cases h1 : r1 < 0
  · have e := a1 h1
    subst e
    omega
  · have e := a2 (by omega)
    subst e
    try simp only [yset_nc, ne_eq, Nat.reduceEqDiff, not_false_eq_true, yset_eq]
    omega
theorem yal_rule {g g1 g2 : yM} {c a w r1 r2 : Int} (hI : yInv g) (a0 : (r1 = -1 ∧ ¬ (0 ≤ c ∧ c < 8 ∧ 0 ≤ a ∧ a < 10000 ∧ 0 ≤ w ∧ w < 100)) ∨ ((0 ≤ c ∧ c < 8 ∧ 0 ≤ a ∧ a < 10000 ∧ 0 ≤ w ∧ w < 100) ∧ ((r1 = -3 ∧ g 6 8 = 20) ∨ (r1 = g 6 8 ∧ g 6 8 < 20)))) (a1 : r1 < 0 → g1 = g) (a2 : 0 ≤ r1 → g1 = yset (yset (yset (yset (yset g 30 (Int.toNat (g 6 8)) c) 27 (Int.toNat (g 6 8)) (yb (fun x y => x / y) a 100)) 28 (Int.toNat (g 6 8)) (yb (fun x y => x - x / y * y) a 100)) 29 (Int.toNat (g 6 8)) w) 6 8 (g 6 8 + 1)) (b0 : (r2 = -1 ∧ ¬ (0 ≤ c ∧ c < 8 ∧ 0 ≤ a ∧ a < 10000 ∧ 0 ≤ w ∧ w < 100)) ∨ ((0 ≤ c ∧ c < 8 ∧ 0 ≤ a ∧ a < 10000 ∧ 0 ≤ w ∧ w < 100) ∧ ((r2 = -3 ∧ g1 90 38 = 20) ∨ (r2 = g1 90 38 ∧ g1 90 38 < 20)))) (b1 : r2 < 0 → g2 = g1) (b2 : 0 ≤ r2 → g2 = yset (yset (yset (yset (yset g1 114 (Int.toNat (g1 90 38)) c) 115 (Int.toNat (g1 90 38)) (yb (fun x y => x / y) a 100)) 116 (Int.toNat (g1 90 38)) (yb (fun x y => x - x / y * y) a 100)) 117 (Int.toNat (g1 90 38)) w) 90 38 (g1 90 38 + 1)) : yInv g2 ∧ r1 = r2 := by
  obtain ⟨hT, ⟨i1, i2, i3⟩, iP, iC, iK, iD⟩ := id hI
  by_cases h1 : r1 < 0
  · have e := a1 h1
    subst e
    have d : r2 < 0 ∧ r2 = r1 := by omega
    have e := b1 d.1
    subst e
    exact ⟨hI, by omega⟩
  · have e := a2 (by omega)
    have hp : 0 ≤ c ∧ c < 8 ∧ 0 ≤ w ∧ w < 100 ∧ g 6 8 < 20 ∧ r1 = g 6 8 := by omega
    have e9 : g1 90 38 = g 6 8 := by
      subst e
      try simp only [yset_nc, ne_eq, Nat.reduceEqDiff, not_false_eq_true, yset_eq]
      exact i3
    have d : 0 ≤ r2 ∧ r2 = r1 := by omega
    have f := b2 d.1
    rw [e9] at f
    clear a0 a1 a2 b0 b1 b2 e9
    refine ⟨?_, by omega⟩
    subst e
    subst f
    have y1 := yb_rng (fun x y => x / y) a 100
    have y2 := yb_rng (fun x y => x - x / y * y) a 100
    refine ⟨?_, ⟨?_, ?_, ?_⟩, fun p' hp' => ?_, fun p' k hp' hk => ?_, fun r hr => ?_, ?_⟩
    · refine yTy.sO ?_ (List.mem_of_getElem? (i := 42) rfl) rfl (by decide +kernel) ⟨by omega, by omega⟩
      refine yTy.sA ?_ (List.mem_of_getElem? (i := 69) rfl) (by decide +kernel) ⟨by omega, by omega⟩
      refine yTy.sA ?_ (List.mem_of_getElem? (i := 68) rfl) (by decide +kernel) y2
      refine yTy.sA ?_ (List.mem_of_getElem? (i := 67) rfl) (by decide +kernel) y1
      refine yTy.sA ?_ (List.mem_of_getElem? (i := 66) rfl) (by decide +kernel) ⟨by omega, by omega⟩
      refine yTy.sO ?_ (List.mem_of_getElem? (i := 6) rfl) rfl (by decide +kernel) ⟨by omega, by omega⟩
      refine yTy.sA ?_ (List.mem_of_getElem? (i := 28) rfl) (by decide +kernel) ⟨by omega, by omega⟩
      refine yTy.sA ?_ (List.mem_of_getElem? (i := 27) rfl) (by decide +kernel) y2
      refine yTy.sA ?_ (List.mem_of_getElem? (i := 26) rfl) (by decide +kernel) y1
      refine yTy.sA ?_ (List.mem_of_getElem? (i := 29) rfl) (by decide +kernel) ⟨by omega, by omega⟩
      exact hT
    · try simp only [yset_nc, ne_eq, Nat.reduceEqDiff, not_false_eq_true, yset_eq]
      omega
    · try simp only [yset_nc, ne_eq, Nat.reduceEqDiff, not_false_eq_true, yset_eq]
      omega
    · try simp only [yset_nc, ne_eq, Nat.reduceEqDiff, not_false_eq_true, yset_eq]
    · have := iP p' hp'
      try simp only [yset_nc, ne_eq, Nat.reduceEqDiff, not_false_eq_true, yset_eq]
      omega
    · have := iC p' k hp' hk
      have n0 : ∀ x : Nat, x = 6 ∨ (27 ≤ x ∧ x ≤ 30) → ¬ (44 + p' = x) := fun x hx => by omega
      rw [yset_nc (by omega), yset_nc (by omega), yset_nc (by omega), yset_nc (by omega), yset_nc (by omega), yset_nc (by omega), yset_nc (by omega), yset_nc (by omega), yset_nc (by omega), yset_nc (by omega), yset_nc (by omega), yset_nc (by omega), yset_nc (by omega), yset_nc (by omega), yset_nc (by omega), yset_nc (by omega), yset_nc (by omega), yset_nc (by omega), yset_nc (by omega), yset_nc (by omega)]
      exact this
    · have := iK r hr
      by_cases e : r = Int.toNat (g 6 8)
      · subst e
        try simp only [yset_nc, ne_eq, Nat.reduceEqDiff, not_false_eq_true, yset_eq]
      · try simp only [yset_nj, e, yset_nc, ne_eq, Nat.reduceEqDiff, not_false_eq_true, yset_eq]
        exact this
    · try simp only [yset_nc, ne_eq, Nat.reduceEqDiff, not_false_eq_true, yset_eq]
      exact iD
