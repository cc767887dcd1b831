/-! BOTH SIDES ALIKE: row -/
theorem yal_row {g g1 g2 : yM} {p s n r1 r2 : Int} (hI : yInv g) (a0 : (r1 = -1 ∧ ¬ (0 ≤ p ∧ p < 6 ∧ 0 ≤ s ∧ s < 5 ∧ n ≤ 60)) ∨ ((0 ≤ p ∧ p < 6 ∧ 0 ≤ s ∧ s < 5 ∧ n ≤ 60) ∧ ((r1 = -14 ∧ n < 0) ∨ (r1 = 1 ∧ 0 ≤ n)))) (a1 : r1 ≠ 1 → g1 = g) (a2 : r1 = 1 → g1 = yzr (yset (yset g 40 (Int.toNat p) s) 42 (Int.toNat p) n) (44 + Int.toNat p) 0 60) (b0 : (r2 = -1 ∧ ¬ (0 ≤ p ∧ p < 6 ∧ 0 ≤ s ∧ s < 5 ∧ n ≤ 60)) ∨ ((0 ≤ p ∧ p < 6 ∧ 0 ≤ s ∧ s < 5 ∧ n ≤ 60) ∧ ((r2 = -14 ∧ n < 0) ∨ (r2 = 1 ∧ 0 ≤ n)))) (b1 : r2 ≠ 1 → g2 = g1) (b2 : r2 = 1 → g2 = yzr (yset (yset g1 121 (Int.toNat p) (20 + s)) 122 (Int.toNat p) n) 123 (Int.toNat (60 * p)) 60) : yInv g2 ∧ r1 = r2 := by
  by_cases h1 : r1 = 1
  · have c := a2 h1
    have d : r2 = 1 := by omega
    have e := b2 d
    have hp : 0 ≤ p ∧ p < 6 ∧ 0 ≤ s ∧ s < 5 ∧ 0 ≤ n ∧ n ≤ 60 := by omega
    obtain ⟨hT, ⟨i1, i2, i3⟩, iP, iC, iK, iD⟩ := hI
    clear a0 a1 a2 b0 b1 b2
    subst c
    subst e
    have n46 : ¬ 46 = Int.toNat p := by omega
    have n70 : ¬ 70 = Int.toNat p := by omega
    have n77 : ¬ 77 = Int.toNat p := by omega
    have n78 : ¬ 78 = Int.toNat p := by omega
    have n79 : ¬ 79 = Int.toNat p := by omega
    have m6 : ¬ 6 = 44 + Int.toNat p := by omega
    have m30 : ¬ 30 = 44 + Int.toNat p := by omega
    have m40 : ¬ 40 = 44 + Int.toNat p := by omega
    have m41 : ¬ 41 = 44 + Int.toNat p := by omega
    have m42 : ¬ 42 = 44 + Int.toNat p := by omega
    have m90 : ¬ 90 = 44 + Int.toNat p := by omega
    have m114 : ¬ 114 = 44 + Int.toNat p := by omega
    have m121 : ¬ 121 = 44 + Int.toNat p := by omega
    have m122 : ¬ 122 = 44 + Int.toNat p := by omega
    have m123 : ¬ 123 = 44 + Int.toNat p := by omega
    refine ⟨⟨?_, ⟨?_, ?_, ?_⟩, fun p' hp' => ?_, fun p' k hp' hk => ?_, fun r hr => ?_, ?_⟩, by omega⟩
    · refine yTy.lng 123 123 (by decide +kernel) (by decide) ?_ (fun a b hab => yzr_nc (by omega))
      refine yTy.sA ?_ (List.mem_of_getElem? (i := 74) rfl) (by decide +kernel) ⟨by omega, by omega⟩
      refine yTy.sA ?_ (List.mem_of_getElem? (i := 73) rfl) (by decide +kernel) ⟨by omega, by omega⟩
      refine yTy.lng 44 49 (by decide +kernel) (by decide) ?_ (fun a b hab => yzr_nc (by omega))
      refine yTy.sA ?_ (List.mem_of_getElem? (i := 38) rfl) (by decide +kernel) ⟨by omega, by omega⟩
      refine yTy.sA ?_ (List.mem_of_getElem? (i := 36) rfl) (by decide +kernel) ⟨by omega, by omega⟩
      exact hT  
    · try simp only [yset_nc, yzr_nc, ycpy_nc, yset_eq, ne_eq, Nat.reduceEqDiff, not_false_eq_true, n46, n70, n77, n78, n79, m6, m30, m40, m41, m42, m90, m114, m121, m122, m123]
      exact i1
    · try simp only [yset_nc, yzr_nc, ycpy_nc, yset_eq, ne_eq, Nat.reduceEqDiff, not_false_eq_true, n46, n70, n77, n78, n79, m6, m30, m40, m41, m42, m90, m114, m121, m122, m123]
      exact i2
    · try simp only [yset_nc, yzr_nc, ycpy_nc, yset_eq, ne_eq, Nat.reduceEqDiff, not_false_eq_true, n46, n70, n77, n78, n79, m6, m30, m40, m41, m42, m90, m114, m121, m122, m123]
      exact i3
    · have := iP p' hp'
      by_cases e : p' = Int.toNat p
      · subst e
        try simp only [yset_nc, yzr_nc, ycpy_nc, yset_eq, ne_eq, Nat.reduceEqDiff, not_false_eq_true, n46, n70, n77, n78, n79, m6, m30, m40, m41, m42, m90, m114, m121, m122, m123]
        exact ⟨Or.inr (Or.inr ⟨by omega, by omega, by omega, by first | rfl | trivial⟩), ⟨by omega, by omega⟩, ⟨by omega, by omega⟩⟩
      · try simp only [yset_nj, e, yset_nc, yzr_nc, ycpy_nc, yset_eq, ne_eq, Nat.reduceEqDiff, not_false_eq_true, n46, n70, n77, n78, n79, m6, m30, m40, m41, m42, m90, m114, m121, m122, m123]
        exact this
    · have := iC p' k hp' hk
      by_cases e : p' = Int.toNat p
      · subst e
        rw [yzr_in (by omega), yzr_nc (by omega), yset_nc (by omega), yset_nc (by omega), yzr_in (by omega)]
      · rw [yzr_out (by omega), yset_nc (by omega), yset_nc (by omega), yzr_nc (by omega), yset_nc (by omega), yset_nc (by omega), yzr_nc (by omega), yset_nc (by omega), yset_nc (by omega), yzr_nc (by omega), yset_nc (by omega), yset_nc (by omega)]
        exact this  
    · have := iK r hr
      try simp only [yset_nc, yzr_nc, ycpy_nc, yset_eq, ne_eq, Nat.reduceEqDiff, not_false_eq_true, n46, n70, n77, n78, n79, m6, m30, m40, m41, m42, m90, m114, m121, m122, m123]
      exact this
    · try simp only [yset_nc, yzr_nc, ycpy_nc, yset_eq, ne_eq, Nat.reduceEqDiff, not_false_eq_true, n46, n70, n77, n78, n79, m6, m30, m40, m41, m42, m90, m114, m121, m122, m123]
      exact iD
  · have c := a1 h1
    have d : r2 ≠ 1 := by omega
    have e := b1 d
    subst c
    subst e
    exact ⟨hI, by omega⟩

