/-! BOTH SIDES ALIKE: keep -/
theorem yam_keep0 {g g1 : yM} {p w r1 : Int} (hI : yInv g) (a0 : (r1 = -1 ∧ ¬ (0 ≤ p ∧ p < 6 ∧ (w = -1 ∨ (0 ≤ w ∧ w < g 6 8)))) ∨ (r1 = 1 ∧ 0 ≤ p ∧ p < 6 ∧ (w = -1 ∨ (0 ≤ w ∧ w < g 6 8)))) (a1 : r1 ≠ 1 → g1 = g) (a2 : r1 = 1 → w = -1 → g1 = yset g 40 (Int.toNat p) (-1)) (a3 : r1 = 1 → w ≠ -1 → g1 = yset (yset g 40 (Int.toNat p) (-2)) 41 (Int.toNat p) w) : 0 ≤ g1 90 38 ∧ g1 90 38 ≤ 20 := by
  obtain ⟨hT, ⟨i1, i2, i3⟩, -⟩ := hI
  by_cases h1 : r1 = 1
  · by_cases hw : w = -1
    · have c := a2 h1 hw
      subst c
      try simp only [yset_nc, ne_eq, Nat.reduceEqDiff, not_false_eq_true, yset_eq]
      omega
    · have c := a3 h1 hw
      subst c
      try simp only [yset_nc, ne_eq, Nat.reduceEqDiff, not_false_eq_true, yset_eq]
      omega
  · have c := a1 h1
    subst c
    omega
theorem yal_keep {g g1 g2 : yM} {p w r1 r2 : Int} (hI : yInv g) (a0 : (r1 = -1 ∧ ¬ (0 ≤ p ∧ p < 6 ∧ (w = -1 ∨ (0 ≤ w ∧ w < g 6 8)))) ∨ (r1 = 1 ∧ 0 ≤ p ∧ p < 6 ∧ (w = -1 ∨ (0 ≤ w ∧ w < g 6 8)))) (a1 : r1 ≠ 1 → g1 = g) (a2 : r1 = 1 → w = -1 → g1 = yset g 40 (Int.toNat p) (-1)) (a3 : r1 = 1 → w ≠ -1 → g1 = yset (yset g 40 (Int.toNat p) (-2)) 41 (Int.toNat p) w) (b0 : (r2 = -1 ∧ ¬ (0 ≤ p ∧ p < 6 ∧ (w = -1 ∨ (0 ≤ w ∧ w < g1 90 38)))) ∨ (r2 = 1 ∧ 0 ≤ p ∧ p < 6 ∧ (w = -1 ∨ (0 ≤ w ∧ w < g1 90 38)))) (b1 : r2 ≠ 1 → g2 = g1) (b2 : r2 = 1 → g2 = yset (yset g1 121 (Int.toNat p) w) 122 (Int.toNat p) 0) : yInv g2 ∧ r1 = r2 := by
  obtain ⟨hT, ⟨i1, i2, i3⟩, iP, iC, iK, iD⟩ := id hI
  by_cases h1 : r1 = 1
  · have hp : 0 ≤ p ∧ p < 6 ∧ (w = -1 ∨ (0 ≤ w ∧ w < g 6 8)) := by omega
    have n46 : ¬ 46 = Int.toNat p := by omega
    have n70 : ¬ 70 = Int.toNat p := by omega
    have n77 : ¬ 77 = Int.toNat p := by omega
    have n78 : ¬ 78 = Int.toNat p := by omega
    have n79 : ¬ 79 = Int.toNat p := by omega
    have m6 : ¬ 6 = 44 + Int.toNat p := by omega
    have m30 : ¬ 30 = 44 + Int.toNat p := by omega
    have m40 : ¬ 40 = 44 + Int.toNat p := by omega
    have m41 : ¬ 41 = 44 + Int.toNat p := by omega
    have m42 : ¬ 42 = 44 + Int.toNat p := by omega
    have m90 : ¬ 90 = 44 + Int.toNat p := by omega
    have m114 : ¬ 114 = 44 + Int.toNat p := by omega
    have m121 : ¬ 121 = 44 + Int.toNat p := by omega
    have m122 : ¬ 122 = 44 + Int.toNat p := by omega
    have m123 : ¬ 123 = 44 + Int.toNat p := by omega
    by_cases hw : w = -1
    · have c := a2 h1 hw
      have d : r2 = 1 := by
        have e9 : g1 90 38 = g 90 38 := by
          subst c
          try simp only [yset_nc, ne_eq, Nat.reduceEqDiff, not_false_eq_true, yset_eq]
        omega
      have e := b2 d
      clear a0 a1 a2 a3 b0 b1 b2
      subst c
      subst e
      refine ⟨⟨?_, ⟨?_, ?_, ?_⟩, fun p' hp' => ?_, fun p' k hp' hk => ?_, fun r hr => ?_, ?_⟩, by omega⟩
      · refine yTy.sA ?_ (List.mem_of_getElem? (i := 74) rfl) (by decide +kernel) ⟨by omega, by omega⟩
        refine yTy.sA ?_ (List.mem_of_getElem? (i := 73) rfl) (by decide +kernel) ⟨by omega, by omega⟩
        refine yTy.sA ?_ (List.mem_of_getElem? (i := 36) rfl) (by decide +kernel) ⟨by omega, by omega⟩
        exact hT
      · try simp only [yset_nc, yzr_nc, ycpy_nc, yset_eq, ne_eq, Nat.reduceEqDiff, not_false_eq_true, n46, n70, n77, n78, n79, m6, m30, m40, m41, m42, m90, m114, m121, m122, m123]
        exact i1
      · try simp only [yset_nc, yzr_nc, ycpy_nc, yset_eq, ne_eq, Nat.reduceEqDiff, not_false_eq_true, n46, n70, n77, n78, n79, m6, m30, m40, m41, m42, m90, m114, m121, m122, m123]
        exact i2
      · try simp only [yset_nc, yzr_nc, ycpy_nc, yset_eq, ne_eq, Nat.reduceEqDiff, not_false_eq_true, n46, n70, n77, n78, n79, m6, m30, m40, m41, m42, m90, m114, m121, m122, m123]
        exact i3
      · have := iP p' hp'
        by_cases e : p' = Int.toNat p
        · subst e
          try simp only [yset_nc, yzr_nc, ycpy_nc, yset_eq, ne_eq, Nat.reduceEqDiff, not_false_eq_true, n46, n70, n77, n78, n79, m6, m30, m40, m41, m42, m90, m114, m121, m122, m123]
          exact ⟨Or.inl ⟨by first | rfl | trivial, by omega⟩, this.2.1, ⟨by omega, by omega⟩⟩
        · try simp only [yset_nj, e, yset_nc, yzr_nc, ycpy_nc, yset_eq, ne_eq, Nat.reduceEqDiff, not_false_eq_true, n46, n70, n77, n78, n79, m6, m30, m40, m41, m42, m90, m114, m121, m122, m123]
          exact this
      · have := iC p' k hp' hk
        simp only [yset_ap]
        rw [if_neg (by omega), if_neg (by omega), if_neg (by omega), if_neg (by omega), if_neg (by omega), if_neg (by omega)]
        exact this
      · have := iK r hr
        try simp only [yset_nc, yzr_nc, ycpy_nc, yset_eq, ne_eq, Nat.reduceEqDiff, not_false_eq_true, n46, n70, n77, n78, n79, m6, m30, m40, m41, m42, m90, m114, m121, m122, m123]
        exact this
      · try simp only [yset_nc, yzr_nc, ycpy_nc, yset_eq, ne_eq, Nat.reduceEqDiff, not_false_eq_true, n46, n70, n77, n78, n79, m6, m30, m40, m41, m42, m90, m114, m121, m122, m123]
        exact iD
    · have c := a3 h1 hw
      have d : r2 = 1 := by
        have e9 : g1 90 38 = g 90 38 := by
          subst c
          try simp only [yset_nc, ne_eq, Nat.reduceEqDiff, not_false_eq_true, yset_eq]
        omega
      have e := b2 d
      clear a0 a1 a2 a3 b0 b1 b2
      subst c
      subst e
      refine ⟨⟨?_, ⟨?_, ?_, ?_⟩, fun p' hp' => ?_, fun p' k hp' hk => ?_, fun r hr => ?_, ?_⟩, by omega⟩
      · refine yTy.sA ?_ (List.mem_of_getElem? (i := 74) rfl) (by decide +kernel) ⟨by omega, by omega⟩
        refine yTy.sA ?_ (List.mem_of_getElem? (i := 73) rfl) (by decide +kernel) ⟨by omega, by omega⟩
        refine yTy.sA ?_ (List.mem_of_getElem? (i := 37) rfl) (by decide +kernel) ⟨by omega, by omega⟩
        refine yTy.sA ?_ (List.mem_of_getElem? (i := 36) rfl) (by decide +kernel) ⟨by omega, by omega⟩
        exact hT
      · try simp only [yset_nc, yzr_nc, ycpy_nc, yset_eq, ne_eq, Nat.reduceEqDiff, not_false_eq_true, n46, n70, n77, n78, n79, m6, m30, m40, m41, m42, m90, m114, m121, m122, m123]
        exact i1
      · try simp only [yset_nc, yzr_nc, ycpy_nc, yset_eq, ne_eq, Nat.reduceEqDiff, not_false_eq_true, n46, n70, n77, n78, n79, m6, m30, m40, m41, m42, m90, m114, m121, m122, m123]
        exact i2
      · try simp only [yset_nc, yzr_nc, ycpy_nc, yset_eq, ne_eq, Nat.reduceEqDiff, not_false_eq_true, n46, n70, n77, n78, n79, m6, m30, m40, m41, m42, m90, m114, m121, m122, m123]
        exact i3
      · have := iP p' hp'
        by_cases e : p' = Int.toNat p
        · subst e
          try simp only [yset_nc, yzr_nc, ycpy_nc, yset_eq, ne_eq, Nat.reduceEqDiff, not_false_eq_true, n46, n70, n77, n78, n79, m6, m30, m40, m41, m42, m90, m114, m121, m122, m123]
          exact ⟨Or.inr (Or.inl ⟨by first | rfl | trivial, by omega, by omega, by first | rfl | trivial⟩), this.2.1, ⟨by omega, by omega⟩⟩
        · try simp only [yset_nj, e, yset_nc, yzr_nc, ycpy_nc, yset_eq, ne_eq, Nat.reduceEqDiff, not_false_eq_true, n46, n70, n77, n78, n79, m6, m30, m40, m41, m42, m90, m114, m121, m122, m123]
          exact this
      · have := iC p' k hp' hk
        simp only [yset_ap]
        rw [if_neg (by omega), if_neg (by omega), if_neg (by omega), if_neg (by omega), if_neg (by omega), if_neg (by omega), if_neg (by omega), if_neg (by omega)]
        exact this
      · have := iK r hr
        try simp only [yset_nc, yzr_nc, ycpy_nc, yset_eq, ne_eq, Nat.reduceEqDiff, not_false_eq_true, n46, n70, n77, n78, n79, m6, m30, m40, m41, m42, m90, m114, m121, m122, m123]
        exact this
      · try simp only [yset_nc, yzr_nc, ycpy_nc, yset_eq, ne_eq, Nat.reduceEqDiff, not_false_eq_true, n46, n70, n77, n78, n79, m6, m30, m40, m41, m42, m90, m114, m121, m122, m123]
        exact iD
  · have c := a1 h1
    subst c
    have d : r2 ≠ 1 := by omega
    have e := b1 d
    subst e
    exact ⟨hI, by omega⟩

