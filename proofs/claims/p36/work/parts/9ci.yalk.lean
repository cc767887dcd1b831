/-! BOTH SIDES ALIKE -/
theorem yset_nc {g : yM} {q j : Nat} {v : Int} {a b : Nat} (h : a ≠ q) : yset g q j v a b = g a b := if_neg (fun z => h z.1)
theorem yzr_nc {g : yM} {q a n x b : Nat} (h : x ≠ q) : yzr g q a n x b = g x b := if_neg (fun z => h z.1)
theorem ycpy_nc {g : yM} {q u sp dp n a b : Nat} (h : a ≠ q) : ycpy g q u sp dp n a b = g a b := if_neg (fun z => h z.1)
theorem yset_nj {g : yM} {q j : Nat} {v : Int} {b : Nat} (h : b ≠ j) : yset g q j v q b = g q b := if_neg (fun z => h z.2)
theorem yzr_in {g : yM} {q a n b : Nat} (h : a ≤ b ∧ b < a + n) : yzr g q a n q b = 0 := if_pos ⟨rfl, h⟩
theorem yzr_out {g : yM} {q a n b : Nat} (h : ¬ (a ≤ b ∧ b < a + n)) : yzr g q a n q b = g q b := if_neg (fun z => h z.2)
theorem ycpy_in {g : yM} {q u sp dp n b : Nat} (h : dp ≤ b ∧ b < dp + n) : ycpy g q u sp dp n q b = g u (sp + (b - dp)) := if_pos ⟨rfl, h⟩
theorem ycpy_out {g : yM} {q u sp dp n b : Nat} (h : ¬ (dp ≤ b ∧ b < dp + n)) : ycpy g q u sp dp n q b = g q b := if_neg (fun z => h z.2)
theorem yzr_ap (g : yM) (q a n x b : Nat) : yzr g q a n x b = if x = q ∧ (a ≤ b ∧ b < a + n) then 0 else g x b := rfl
theorem yI32 (z : Int) : -2147483648 ≤ z → z ≤ 2147483647 → (-2147483648 ≤ z ∧ z ≤ 2147483647) := fun a b => ⟨a, b⟩
theorem yal_row {g g1 g2 : yM} {p s n r1 r2 : Int} (hI : yInv g) (a0 : (r1 = -1 ∧ ¬ (0 ≤ p ∧ p < 6 ∧ 0 ≤ s ∧ s < 5 ∧ n ≤ 60)) ∨ ((0 ≤ p ∧ p < 6 ∧ 0 ≤ s ∧ s < 5 ∧ n ≤ 60) ∧ ((r1 = -14 ∧ n < 0) ∨ (r1 = 1 ∧ 0 ≤ n)))) (a1 : r1 ≠ 1 → g1 = g) (a2 : r1 = 1 → g1 = yzr (yset (yset g 40 (Int.toNat p) s) 42 (Int.toNat p) n) (44 + Int.toNat p) 0 60) (b0 : (r2 = -1 ∧ ¬ (0 ≤ p ∧ p < 6 ∧ 0 ≤ s ∧ s < 5 ∧ n ≤ 60)) ∨ ((0 ≤ p ∧ p < 6 ∧ 0 ≤ s ∧ s < 5 ∧ n ≤ 60) ∧ ((r2 = -14 ∧ n < 0) ∨ (r2 = 1 ∧ 0 ≤ n)))) (b1 : r2 ≠ 1 → g2 = g1) (b2 : r2 = 1 → g2 = yzr (yset (yset g1 121 (Int.toNat p) (20 + s)) 122 (Int.toNat p) n) 123 (Int.toNat (60 * p)) 60) : yInv g2 ∧ r1 = r2 := by
  by_cases h1 : r1 = 1
  · have c := a2 h1
    have d : r2 = 1 := by omega
    have e := b2 d
    have hp : 0 ≤ p ∧ p < 6 ∧ 0 ≤ s ∧ s < 5 ∧ 0 ≤ n ∧ n ≤ 60 := by omega
    obtain ⟨hT, ⟨i1, i2, i3⟩, iP, iC, iK, iD⟩ := hI
    clear a0 a1 a2 b0 b1 b2
    subst c
    subst e
    have n46 : ¬ 46 = Int.toNat p := by omega
    have n70 : ¬ 70 = Int.toNat p := by omega
    have n77 : ¬ 77 = Int.toNat p := by omega
    have n78 : ¬ 78 = Int.toNat p := by omega
    have n79 : ¬ 79 = Int.toNat p := by omega
    have m6 : ¬ 6 = 44 + Int.toNat p := by omega
    have m30 : ¬ 30 = 44 + Int.toNat p := by omega
    have m40 : ¬ 40 = 44 + Int.toNat p := by omega
    have m41 : ¬ 41 = 44 + Int.toNat p := by omega
    have m42 : ¬ 42 = 44 + Int.toNat p := by omega
    have m90 : ¬ 90 = 44 + Int.toNat p := by omega
    have m114 : ¬ 114 = 44 + Int.toNat p := by omega
    have m121 : ¬ 121 = 44 + Int.toNat p := by omega
    have m122 : ¬ 122 = 44 + Int.toNat p := by omega
    have m123 : ¬ 123 = 44 + Int.toNat p := by omega
    refine ⟨⟨?_, ⟨?_, ?_, ?_⟩, fun p' hp' => ?_, fun p' k hp' hk => ?_, fun r hr => ?_, ?_⟩, by omega⟩
    · refine yTy.lng 123 123 (by decide +kernel) (by decide) ?_ (fun a b hab => yzr_nc (by omega))
      refine yTy.sA ?_ (List.mem_of_getElem? (i := 74) rfl) (by decide +kernel) ⟨by omega, by omega⟩
      refine yTy.sA ?_ (List.mem_of_getElem? (i := 73) rfl) (by decide +kernel) ⟨by omega, by omega⟩
      refine yTy.lng 44 49 (by decide +kernel) (by decide) ?_ (fun a b hab => yzr_nc (by omega))
      refine yTy.sA ?_ (List.mem_of_getElem? (i := 38) rfl) (by decide +kernel) ⟨by omega, by omega⟩
      refine yTy.sA ?_ (List.mem_of_getElem? (i := 36) rfl) (by decide +kernel) ⟨by omega, by omega⟩
      exact hT  
    · try simp only [yset_nc, yzr_nc, ycpy_nc, yset_eq, ne_eq, Nat.reduceEqDiff, not_false_eq_true, n46, n70, n77, n78, n79, m6, m30, m40, m41, m42, m90, m114, m121, m122, m123]
      exact i1
    · try simp only [yset_nc, yzr_nc, ycpy_nc, yset_eq, ne_eq, Nat.reduceEqDiff, not_false_eq_true, n46, n70, n77, n78, n79, m6, m30, m40, m41, m42, m90, m114, m121, m122, m123]
      exact i2
    · try simp only [yset_nc, yzr_nc, ycpy_nc, yset_eq, ne_eq, Nat.reduceEqDiff, not_false_eq_true, n46, n70, n77, n78, n79, m6, m30, m40, m41, m42, m90, m114, m121, m122, m123]
      exact i3
    · have := iP p' hp'
      by_cases e : p' = Int.toNat p
      · subst e
        try simp only [yset_nc, yzr_nc, ycpy_nc, yset_eq, ne_eq, Nat.reduceEqDiff, not_false_eq_true, n46, n70, n77, n78, n79, m6, m30, m40, m41, m42, m90, m114, m121, m122, m123]
        exact ⟨Or.inr (Or.inr ⟨by omega, by omega, by omega, rfl⟩), ⟨by omega, by omega⟩, ⟨by omega, by omega⟩⟩
      · try simp only [yset_nj, e, yset_nc, yzr_nc, ycpy_nc, yset_eq, ne_eq, Nat.reduceEqDiff, not_false_eq_true, n46, n70, n77, n78, n79, m6, m30, m40, m41, m42, m90, m114, m121, m122, m123]
        exact this
    · have := iC p' k hp' hk
      by_cases e : p' = Int.toNat p
      · subst e
        rw [yzr_in (by omega)]
        try simp only [yset_nc, yzr_nc, ycpy_nc, yset_eq, ne_eq, Nat.reduceEqDiff, not_false_eq_true, n46, n70, n77, n78, n79, m6, m30, m40, m41, m42, m90, m114, m121, m122, m123]
        rw [yzr_in (by omega)]
      · rw [yzr_out (by omega)]
        try simp only [yset_nj, e, yset_nc, yzr_nc, ycpy_nc, yset_eq, ne_eq, Nat.reduceEqDiff, not_false_eq_true, n46, n70, n77, n78, n79, m6, m30, m40, m41, m42, m90, m114, m121, m122, m123]
        exact this  
    · have := iK r hr
      try simp only [yset_nc, yzr_nc, ycpy_nc, yset_eq, ne_eq, Nat.reduceEqDiff, not_false_eq_true, n46, n70, n77, n78, n79, m6, m30, m40, m41, m42, m90, m114, m121, m122, m123]
      exact this
    · try simp only [yset_nc, yzr_nc, ycpy_nc, yset_eq, ne_eq, Nat.reduceEqDiff, not_false_eq_true, n46, n70, n77, n78, n79, m6, m30, m40, m41, m42, m90, m114, m121, m122, m123]
      exact iD
  · have c := a1 h1
    have d : r2 ≠ 1 := by omega
    have e := b1 d
    subst c
    subst e
    exact ⟨hI, by omega⟩
theorem yam_keep0 {g g1 : yM} {p w r1 : Int} (hI : yInv g) (a0 : (r1 = -1 ∧ ¬ (0 ≤ p ∧ p < 6 ∧ (w = -1 ∨ (0 ≤ w ∧ w < g 6 8)))) ∨ (r1 = 1 ∧ 0 ≤ p ∧ p < 6 ∧ (w = -1 ∨ (0 ≤ w ∧ w < g 6 8)))) (a1 : r1 ≠ 1 → g1 = g) (a2 : r1 = 1 → w = -1 → g1 = yset g 40 (Int.toNat p) (-1)) (a3 : r1 = 1 → w ≠ -1 → g1 = yset (yset g 40 (Int.toNat p) (-2)) 41 (Int.toNat p) w) : 0 ≤ g1 90 38 ∧ g1 90 38 ≤ 20 := by
  obtain ⟨hT, ⟨i1, i2, i3⟩, -⟩ := hI
  by_cases h1 : r1 = 1
  · by_cases hw : w = -1
    · have c := a2 h1 hw
      subst c
      try simp only [yset_nc, ne_eq, Nat.reduceEqDiff, not_false_eq_true, yset_eq]
      omega
    · have c := a3 h1 hw
      subst c
      try simp only [yset_nc, ne_eq, Nat.reduceEqDiff, not_false_eq_true, yset_eq]
      omega
  · have c := a1 h1
    subst c
    omega
theorem yal_keep {g g1 g2 : yM} {p w r1 r2 : Int} (hI : yInv g) (a0 : (r1 = -1 ∧ ¬ (0 ≤ p ∧ p < 6 ∧ (w = -1 ∨ (0 ≤ w ∧ w < g 6 8)))) ∨ (r1 = 1 ∧ 0 ≤ p ∧ p < 6 ∧ (w = -1 ∨ (0 ≤ w ∧ w < g 6 8)))) (a1 : r1 ≠ 1 → g1 = g) (a2 : r1 = 1 → w = -1 → g1 = yset g 40 (Int.toNat p) (-1)) (a3 : r1 = 1 → w ≠ -1 → g1 = yset (yset g 40 (Int.toNat p) (-2)) 41 (Int.toNat p) w) (b0 : (r2 = -1 ∧ ¬ (0 ≤ p ∧ p < 6 ∧ (w = -1 ∨ (0 ≤ w ∧ w < g1 90 38)))) ∨ (r2 = 1 ∧ 0 ≤ p ∧ p < 6 ∧ (w = -1 ∨ (0 ≤ w ∧ w < g1 90 38)))) (b1 : r2 ≠ 1 → g2 = g1) (b2 : r2 = 1 → g2 = yset (yset g1 121 (Int.toNat p) w) 122 (Int.toNat p) 0) : yInv g2 ∧ r1 = r2 := by
  obtain ⟨hT, ⟨i1, i2, i3⟩, iP, iC, iK, iD⟩ := id hI
  by_cases h1 : r1 = 1
  · have hp : 0 ≤ p ∧ p < 6 ∧ (w = -1 ∨ (0 ≤ w ∧ w < g 6 8)) := by omega
    have n46 : ¬ 46 = Int.toNat p := by omega
    have n70 : ¬ 70 = Int.toNat p := by omega
    have n77 : ¬ 77 = Int.toNat p := by omega
    have n78 : ¬ 78 = Int.toNat p := by omega
    have n79 : ¬ 79 = Int.toNat p := by omega
    have m6 : ¬ 6 = 44 + Int.toNat p := by omega
    have m30 : ¬ 30 = 44 + Int.toNat p := by omega
    have m40 : ¬ 40 = 44 + Int.toNat p := by omega
    have m41 : ¬ 41 = 44 + Int.toNat p := by omega
    have m42 : ¬ 42 = 44 + Int.toNat p := by omega
    have m90 : ¬ 90 = 44 + Int.toNat p := by omega
    have m114 : ¬ 114 = 44 + Int.toNat p := by omega
    have m121 : ¬ 121 = 44 + Int.toNat p := by omega
    have m122 : ¬ 122 = 44 + Int.toNat p := by omega
    have m123 : ¬ 123 = 44 + Int.toNat p := by omega
    by_cases hw : w = -1
    · have c := a2 h1 hw
      have d : r2 = 1 := by
        have e9 : g1 90 38 = g 90 38 := by
          subst c
          try simp only [yset_nc, ne_eq, Nat.reduceEqDiff, not_false_eq_true, yset_eq]
        omega
      have e := b2 d
      clear a0 a1 a2 a3 b0 b1 b2
      subst c
      subst e
      refine ⟨⟨?_, ⟨?_, ?_, ?_⟩, fun p' hp' => ?_, fun p' k hp' hk => ?_, fun r hr => ?_, ?_⟩, by omega⟩
      · refine yTy.sA ?_ (List.mem_of_getElem? (i := 74) rfl) (by decide +kernel) ⟨by omega, by omega⟩
        refine yTy.sA ?_ (List.mem_of_getElem? (i := 73) rfl) (by decide +kernel) ⟨by omega, by omega⟩
        refine yTy.sA ?_ (List.mem_of_getElem? (i := 36) rfl) (by decide +kernel) ⟨by omega, by omega⟩
        exact hT
      · try simp only [yset_nc, yzr_nc, ycpy_nc, yset_eq, ne_eq, Nat.reduceEqDiff, not_false_eq_true, n46, n70, n77, n78, n79, m6, m30, m40, m41, m42, m90, m114, m121, m122, m123]
        exact i1
      · try simp only [yset_nc, yzr_nc, ycpy_nc, yset_eq, ne_eq, Nat.reduceEqDiff, not_false_eq_true, n46, n70, n77, n78, n79, m6, m30, m40, m41, m42, m90, m114, m121, m122, m123]
        exact i2
      · try simp only [yset_nc, yzr_nc, ycpy_nc, yset_eq, ne_eq, Nat.reduceEqDiff, not_false_eq_true, n46, n70, n77, n78, n79, m6, m30, m40, m41, m42, m90, m114, m121, m122, m123]
        exact i3
      · have := iP p' hp'
        by_cases e : p' = Int.toNat p
        · subst e
          try simp only [yset_nc, yzr_nc, ycpy_nc, yset_eq, ne_eq, Nat.reduceEqDiff, not_false_eq_true, n46, n70, n77, n78, n79, m6, m30, m40, m41, m42, m90, m114, m121, m122, m123]
          exact ⟨Or.inl ⟨rfl, by omega⟩, this.2.1, ⟨by omega, by omega⟩⟩
        · try simp only [yset_nj, e, yset_nc, yzr_nc, ycpy_nc, yset_eq, ne_eq, Nat.reduceEqDiff, not_false_eq_true, n46, n70, n77, n78, n79, m6, m30, m40, m41, m42, m90, m114, m121, m122, m123]
          exact this
      · have := iC p' k hp' hk
        try simp only [yset_nc, yzr_nc, ycpy_nc, yset_eq, ne_eq, Nat.reduceEqDiff, not_false_eq_true, n46, n70, n77, n78, n79, m6, m30, m40, m41, m42, m90, m114, m121, m122, m123]
        exact this
      · have := iK r hr
        try simp only [yset_nc, yzr_nc, ycpy_nc, yset_eq, ne_eq, Nat.reduceEqDiff, not_false_eq_true, n46, n70, n77, n78, n79, m6, m30, m40, m41, m42, m90, m114, m121, m122, m123]
        exact this
      · try simp only [yset_nc, yzr_nc, ycpy_nc, yset_eq, ne_eq, Nat.reduceEqDiff, not_false_eq_true, n46, n70, n77, n78, n79, m6, m30, m40, m41, m42, m90, m114, m121, m122, m123]
        exact iD
    · have c := a3 h1 hw
      have d : r2 = 1 := by
        have e9 : g1 90 38 = g 90 38 := by
          subst c
          try simp only [yset_nc, ne_eq, Nat.reduceEqDiff, not_false_eq_true, yset_eq]
        omega
      have e := b2 d
      clear a0 a1 a2 a3 b0 b1 b2
      subst c
      subst e
      refine ⟨⟨?_, ⟨?_, ?_, ?_⟩, fun p' hp' => ?_, fun p' k hp' hk => ?_, fun r hr => ?_, ?_⟩, by omega⟩
      · refine yTy.sA ?_ (List.mem_of_getElem? (i := 74) rfl) (by decide +kernel) ⟨by omega, by omega⟩
        refine yTy.sA ?_ (List.mem_of_getElem? (i := 73) rfl) (by decide +kernel) ⟨by omega, by omega⟩
        refine yTy.sA ?_ (List.mem_of_getElem? (i := 37) rfl) (by decide +kernel) ⟨by omega, by omega⟩
        refine yTy.sA ?_ (List.mem_of_getElem? (i := 36) rfl) (by decide +kernel) ⟨by omega, by omega⟩
        exact hT
      · try simp only [yset_nc, yzr_nc, ycpy_nc, yset_eq, ne_eq, Nat.reduceEqDiff, not_false_eq_true, n46, n70, n77, n78, n79, m6, m30, m40, m41, m42, m90, m114, m121, m122, m123]
        exact i1
      · try simp only [yset_nc, yzr_nc, ycpy_nc, yset_eq, ne_eq, Nat.reduceEqDiff, not_false_eq_true, n46, n70, n77, n78, n79, m6, m30, m40, m41, m42, m90, m114, m121, m122, m123]
        exact i2
      · try simp only [yset_nc, yzr_nc, ycpy_nc, yset_eq, ne_eq, Nat.reduceEqDiff, not_false_eq_true, n46, n70, n77, n78, n79, m6, m30, m40, m41, m42, m90, m114, m121, m122, m123]
        exact i3
      · have := iP p' hp'
        by_cases e : p' = Int.toNat p
        · subst e
          try simp only [yset_nc, yzr_nc, ycpy_nc, yset_eq, ne_eq, Nat.reduceEqDiff, not_false_eq_true, n46, n70, n77, n78, n79, m6, m30, m40, m41, m42, m90, m114, m121, m122, m123]
          exact ⟨Or.inr (Or.inl ⟨rfl, by omega, by omega, rfl⟩), this.2.1, ⟨by omega, by omega⟩⟩
        · try simp only [yset_nj, e, yset_nc, yzr_nc, ycpy_nc, yset_eq, ne_eq, Nat.reduceEqDiff, not_false_eq_true, n46, n70, n77, n78, n79, m6, m30, m40, m41, m42, m90, m114, m121, m122, m123]
          exact this
      · have := iC p' k hp' hk
        try simp only [yset_nc, yzr_nc, ycpy_nc, yset_eq, ne_eq, Nat.reduceEqDiff, not_false_eq_true, n46, n70, n77, n78, n79, m6, m30, m40, m41, m42, m90, m114, m121, m122, m123]
        exact this
      · have := iK r hr
        try simp only [yset_nc, yzr_nc, ycpy_nc, yset_eq, ne_eq, Nat.reduceEqDiff, not_false_eq_true, n46, n70, n77, n78, n79, m6, m30, m40, m41, m42, m90, m114, m121, m122, m123]
        exact this
      · try simp only [yset_nc, yzr_nc, ycpy_nc, yset_eq, ne_eq, Nat.reduceEqDiff, not_false_eq_true, n46, n70, n77, n78, n79, m6, m30, m40, m41, m42, m90, m114, m121, m122, m123]
        exact iD
  · have c := a1 h1
    subst c
    have d : r2 ≠ 1 := by omega
    have e := b1 d
    subst e
    exact ⟨hI, by omega⟩
theorem yam_put0 {g g1 : yM} {p i v r1 : Int} (hI : yInv g) (a0 : ∃ r0 : Int, ((r0 = -1 ∧ ¬ (0 ≤ p ∧ p < 6)) ∨ ((0 ≤ p ∧ p < 6) ∧ ((r0 = -11 ∧ g 40 (Int.toNat p) = -1) ∨ (g 40 (Int.toNat p) ≠ -1 ∧ ((r0 = -12 ∧ g 40 (Int.toNat p) = -2) ∨ (g 40 (Int.toNat p) ≠ -2 ∧ ((r0 = -13 ∧ (i < 0 ∨ g 42 (Int.toNat p) ≤ i)) ∨ (r0 = 0 ∧ 0 ≤ i ∧ i < g 42 (Int.toNat p))))))))) ∧ (r0 = 0 → r1 = 1 ∧ g1 = yset g (44 + Int.toNat p) (Int.toNat i) (ynar (g 40 (Int.toNat p)) v)) ∧ (r0 ≠ 0 → r1 = r0 ∧ g1 = g)) : ∀ p : Int, 0 ≤ p → p < 6 → 0 ≤ g1 122 (Int.toNat p) ∧ g1 122 (Int.toNat p) ≤ 60 := by
  obtain ⟨hT, -, iP, -⟩ := hI
  obtain ⟨r0, c0, c1, c2⟩ := a0
  have e : ∀ x : Nat, g1 121 x = g 121 x ∧ g1 122 x = g 122 x := fun x => by
    by_cases h0 : r0 = 0
    · have c := (c1 h0).2
      have hp : 0 ≤ p ∧ p < 6 := by omega
      rw [c]
      exact ⟨yset_nc (by omega), yset_nc (by omega)⟩
    · have c := (c2 h0).2
      rw [c]
      exact ⟨rfl, rfl⟩
  intro p' h1 h2
  have h3 := iP p'.toNat (by omega)
  rw [(e p'.toNat).2]
  omega
theorem yam_put1 {g g1 : yM} {p i v r1 : Int} (hI : yInv g) (a0 : ∃ r0 : Int, ((r0 = -1 ∧ ¬ (0 ≤ p ∧ p < 6)) ∨ ((0 ≤ p ∧ p < 6) ∧ ((r0 = -11 ∧ g 40 (Int.toNat p) = -1) ∨ (g 40 (Int.toNat p) ≠ -1 ∧ ((r0 = -12 ∧ g 40 (Int.toNat p) = -2) ∨ (g 40 (Int.toNat p) ≠ -2 ∧ ((r0 = -13 ∧ (i < 0 ∨ g 42 (Int.toNat p) ≤ i)) ∨ (r0 = 0 ∧ 0 ≤ i ∧ i < g 42 (Int.toNat p))))))))) ∧ (r0 = 0 → r1 = 1 ∧ g1 = yset g (44 + Int.toNat p) (Int.toNat i) (ynar (g 40 (Int.toNat p)) v)) ∧ (r0 ≠ 0 → r1 = r0 ∧ g1 = g)) : ∀ p : Int, 0 ≤ p → p < 6 → -1 ≤ g1 121 (Int.toNat p) ∧ g1 121 (Int.toNat p) ≤ 24 := by
  obtain ⟨hT, -, iP, -⟩ := hI
  obtain ⟨r0, c0, c1, c2⟩ := a0
  have e : ∀ x : Nat, g1 121 x = g 121 x ∧ g1 122 x = g 122 x := fun x => by
    by_cases h0 : r0 = 0
    · have c := (c1 h0).2
      have hp : 0 ≤ p ∧ p < 6 := by omega
      rw [c]
      exact ⟨yset_nc (by omega), yset_nc (by omega)⟩
    · have c := (c2 h0).2
      rw [c]
      exact ⟨rfl, rfl⟩
  intro p' h1 h2
  have h3 := iP p'.toNat (by omega)
  rw [(e p'.toNat).1]
  omega
theorem yal_put {g g1 g2 : yM} {p i v r1 r2 : Int} (hI : yInv g) (a0 : ∃ r0 : Int, ((r0 = -1 ∧ ¬ (0 ≤ p ∧ p < 6)) ∨ ((0 ≤ p ∧ p < 6) ∧ ((r0 = -11 ∧ g 40 (Int.toNat p) = -1) ∨ (g 40 (Int.toNat p) ≠ -1 ∧ ((r0 = -12 ∧ g 40 (Int.toNat p) = -2) ∨ (g 40 (Int.toNat p) ≠ -2 ∧ ((r0 = -13 ∧ (i < 0 ∨ g 42 (Int.toNat p) ≤ i)) ∨ (r0 = 0 ∧ 0 ≤ i ∧ i < g 42 (Int.toNat p))))))))) ∧ (r0 = 0 → r1 = 1 ∧ g1 = yset g (44 + Int.toNat p) (Int.toNat i) (ynar (g 40 (Int.toNat p)) v)) ∧ (r0 ≠ 0 → r1 = r0 ∧ g1 = g)) (b0 : ∃ r0 : Int, ((r0 = -1 ∧ ¬ (0 ≤ p ∧ p < 6)) ∨ ((0 ≤ p ∧ p < 6) ∧ ((r0 = -11 ∧ g1 121 (Int.toNat p) < 0) ∨ (0 ≤ g1 121 (Int.toNat p) ∧ ((r0 = -12 ∧ g1 121 (Int.toNat p) < 20) ∨ (20 ≤ g1 121 (Int.toNat p) ∧ ((r0 = -13 ∧ (i < 0 ∨ g1 122 (Int.toNat p) ≤ i)) ∨ (r0 = 0 ∧ 0 ≤ i ∧ i < g1 122 (Int.toNat p))))))))) ∧ (r0 = 0 → r2 = 1 ∧ g2 = yset g1 123 (Int.toNat (60 * p + i)) (ynar (g1 121 (Int.toNat p) - 20) v)) ∧ (r0 ≠ 0 → r2 = r0 ∧ g2 = g1)) : yInv g2 ∧ r1 = r2 := by
  obtain ⟨hT, ⟨i1, i2, i3⟩, iP, iC, iK, iD⟩ := id hI
  obtain ⟨r0, c0, c1, c2⟩ := a0
  obtain ⟨s0, d0, d1, d2⟩ := b0
  have e : ∀ x : Nat, g1 121 x = g 121 x ∧ g1 122 x = g 122 x := fun x => by
    by_cases h0 : r0 = 0
    · have c := (c1 h0).2
      have hp : 0 ≤ p ∧ p < 6 := by omega
      rw [c]
      exact ⟨yset_nc (by omega), yset_nc (by omega)⟩
    · have c := (c2 h0).2
      rw [c]
      exact ⟨rfl, rfl⟩
  rw [(e _).1, (e _).2] at d0
  rw [(e _).1] at d1
  have es : s0 = r0 := by
    by_cases hp : 0 ≤ p ∧ p < 6
    · have h3 := iP p.toNat (by omega)
      omega
    · omega
  subst es
  by_cases h0 : s0 = 0
  · obtain ⟨f1, f2⟩ := c1 h0
    obtain ⟨f3, f4⟩ := d1 h0
    have hp : 0 ≤ p ∧ p < 6 := by omega
    have h3 := iP p.toNat (by omega)
    have hH : 0 ≤ g 40 (Int.toNat p) ∧ g 121 (Int.toNat p) = g 40 (Int.toNat p) + 20 ∧ 0 ≤ i ∧ i < 60 := by omega
    rw [show g 121 (Int.toNat p) - 20 = g 40 (Int.toNat p) by omega] at f4
    clear c0 c1 c2 d0 d1 d2
    have n46 : ¬ 46 = Int.toNat p := by omega
    have n70 : ¬ 70 = Int.toNat p := by omega
    have n77 : ¬ 77 = Int.toNat p := by omega
    have n78 : ¬ 78 = Int.toNat p := by omega
    have n79 : ¬ 79 = Int.toNat p := by omega
    have m6 : ¬ 6 = 44 + Int.toNat p := by omega
    have m30 : ¬ 30 = 44 + Int.toNat p := by omega
    have m40 : ¬ 40 = 44 + Int.toNat p := by omega
    have m41 : ¬ 41 = 44 + Int.toNat p := by omega
    have m42 : ¬ 42 = 44 + Int.toNat p := by omega
    have m90 : ¬ 90 = 44 + Int.toNat p := by omega
    have m114 : ¬ 114 = 44 + Int.toNat p := by omega
    have m121 : ¬ 121 = 44 + Int.toNat p := by omega
    have m122 : ¬ 122 = 44 + Int.toNat p := by omega
    have m123 : ¬ 123 = 44 + Int.toNat p := by omega
    refine ⟨?_, by omega⟩
    clear e h3
    subst f2
    subst f4
    refine ⟨?_, ⟨?_, ?_, ?_⟩, fun p' hp' => ?_, fun p' k hp' hk => ?_, fun r hr => ?_, ?_⟩
    · refine yTy.lng 123 123 (by decide +kernel) (by decide) ?_ (fun a b hab => yset_nc (by omega))
      refine yTy.lng 44 49 (by decide +kernel) (by decide) ?_ (fun a b hab => yset_nc (by omega))
      exact hT  
    · try simp only [yset_nc, yzr_nc, ycpy_nc, yset_eq, ne_eq, Nat.reduceEqDiff, not_false_eq_true, n46, n70, n77, n78, n79, m6, m30, m40, m41, m42, m90, m114, m121, m122, m123]
      exact i1
    · try simp only [yset_nc, yzr_nc, ycpy_nc, yset_eq, ne_eq, Nat.reduceEqDiff, not_false_eq_true, n46, n70, n77, n78, n79, m6, m30, m40, m41, m42, m90, m114, m121, m122, m123]
      exact i2
    · try simp only [yset_nc, yzr_nc, ycpy_nc, yset_eq, ne_eq, Nat.reduceEqDiff, not_false_eq_true, n46, n70, n77, n78, n79, m6, m30, m40, m41, m42, m90, m114, m121, m122, m123]
      exact i3
    · have := iP p' hp'
      try simp only [yset_nc, yzr_nc, ycpy_nc, yset_eq, ne_eq, Nat.reduceEqDiff, not_false_eq_true, n46, n70, n77, n78, n79, m6, m30, m40, m41, m42, m90, m114, m121, m122, m123]
      exact this
    · have := iC p' k hp' hk
      by_cases e : p' = Int.toNat p ∧ k = Int.toNat i
      · obtain ⟨e1, e2⟩ := e
        subst e1
        subst e2
        rw [show 60 * Int.toNat p + Int.toNat i = Int.toNat (60 * p + i) by omega, yset_eq, yset_nc (by omega), yset_eq]
      · rw [yset_nj (by omega), yset_nc (by omega), yset_ne (by omega)]
        exact this  
    · have := iK r hr
      try simp only [yset_nc, yzr_nc, ycpy_nc, yset_eq, ne_eq, Nat.reduceEqDiff, not_false_eq_true, n46, n70, n77, n78, n79, m6, m30, m40, m41, m42, m90, m114, m121, m122, m123]
      exact this
    · try simp only [yset_nc, yzr_nc, ycpy_nc, yset_eq, ne_eq, Nat.reduceEqDiff, not_false_eq_true, n46, n70, n77, n78, n79, m6, m30, m40, m41, m42, m90, m114, m121, m122, m123]
      exact iD
  · obtain ⟨f1, f2⟩ := c2 h0
    obtain ⟨f3, f4⟩ := d2 h0
    subst f2
    subst f4
    exact ⟨hI, by omega⟩
theorem yam_element0 {g : yM} {p i r1 : Int} (hI : yInv g) (a0 : ∃ r0 : Int, ((r0 = -1 ∧ ¬ (0 ≤ p ∧ p < 6)) ∨ ((0 ≤ p ∧ p < 6) ∧ ((r0 = -11 ∧ g 40 (Int.toNat p) = -1) ∨ (g 40 (Int.toNat p) ≠ -1 ∧ ((r0 = -12 ∧ g 40 (Int.toNat p) = -2) ∨ (g 40 (Int.toNat p) ≠ -2 ∧ ((r0 = -13 ∧ (i < 0 ∨ g 42 (Int.toNat p) ≤ i)) ∨ (r0 = 0 ∧ 0 ≤ i ∧ i < g 42 (Int.toNat p))))))))) ∧ (r0 = 0 → r1 = g (44 + Int.toNat p) (Int.toNat i)) ∧ (r0 ≠ 0 → r1 = -9223372036854775808)) : ∀ p : Int, 0 ≤ p → p < 6 → 0 ≤ g 122 (Int.toNat p) ∧ g 122 (Int.toNat p) ≤ 60 := by
  obtain ⟨hT, -, iP, -⟩ := hI
  intro p' h1 h2
  have h3 := iP p'.toNat (by omega)
  omega
theorem yal_element {g : yM} {p i r1 r2 : Int} (hI : yInv g) (a0 : ∃ r0 : Int, ((r0 = -1 ∧ ¬ (0 ≤ p ∧ p < 6)) ∨ ((0 ≤ p ∧ p < 6) ∧ ((r0 = -11 ∧ g 40 (Int.toNat p) = -1) ∨ (g 40 (Int.toNat p) ≠ -1 ∧ ((r0 = -12 ∧ g 40 (Int.toNat p) = -2) ∨ (g 40 (Int.toNat p) ≠ -2 ∧ ((r0 = -13 ∧ (i < 0 ∨ g 42 (Int.toNat p) ≤ i)) ∨ (r0 = 0 ∧ 0 ≤ i ∧ i < g 42 (Int.toNat p))))))))) ∧ (r0 = 0 → r1 = g (44 + Int.toNat p) (Int.toNat i)) ∧ (r0 ≠ 0 → r1 = -9223372036854775808)) (b0 : ∃ r0 : Int, ((r0 = -1 ∧ ¬ (0 ≤ p ∧ p < 6)) ∨ ((0 ≤ p ∧ p < 6) ∧ ((r0 = -11 ∧ g 121 (Int.toNat p) < 0) ∨ (0 ≤ g 121 (Int.toNat p) ∧ ((r0 = -12 ∧ g 121 (Int.toNat p) < 20) ∨ (20 ≤ g 121 (Int.toNat p) ∧ ((r0 = -13 ∧ (i < 0 ∨ g 122 (Int.toNat p) ≤ i)) ∨ (r0 = 0 ∧ 0 ≤ i ∧ i < g 122 (Int.toNat p))))))))) ∧ (r0 = 0 → r2 = g 123 (Int.toNat (60 * p + i))) ∧ (r0 ≠ 0 → r2 = -9223372036854775808)) : r1 = r2 := by
  obtain ⟨hT, ⟨i1, i2, i3⟩, iP, iC, iK, iD⟩ := id hI
  obtain ⟨r0, c0, c1, c2⟩ := a0
  obtain ⟨s0, d0, d1, d2⟩ := b0
  have es : s0 = r0 := by
    by_cases hp : 0 ≤ p ∧ p < 6
    · have h3 := iP p.toNat (by omega)
      omega
    · omega
  subst es
  by_cases h0 : s0 = 0
  · rw [c1 h0, d1 h0]
    have hp : 0 ≤ p ∧ p < 6 := by omega
    have h3 := iP p.toNat (by omega)
    have h4 := iC p.toNat i.toNat (by omega) (by omega)
    rw [show 60 * p.toNat + i.toNat = Int.toNat (60 * p + i) by omega] at h4
    exact h4.symm
  · rw [c2 h0, d2 h0]
theorem yam_shift0 {g g1 : yM} {p i q j n r1 : Int} (hI : yInv g) (a0 : ∃ r0 : Int, ((r0 = -1 ∧ ¬ (0 ≤ p ∧ p < 6 ∧ 0 ≤ q ∧ q < 6)) ∨ ((0 ≤ p ∧ p < 6 ∧ 0 ≤ q ∧ q < 6) ∧ ((r0 = -11 ∧ (g 40 (Int.toNat p) = -1 ∨ g 40 (Int.toNat q) = -1)) ∨ (g 40 (Int.toNat p) ≠ -1 ∧ g 40 (Int.toNat q) ≠ -1 ∧ ((r0 = -12 ∧ (g 40 (Int.toNat p) = -2 ∨ g 40 (Int.toNat p) ≠ g 40 (Int.toNat q))) ∨ (r0 = 0 ∧ g 40 (Int.toNat p) ≠ -2 ∧ g 40 (Int.toNat p) = g 40 (Int.toNat q))))))) ∧ (r0 ≠ 0 → r1 = r0 ∧ g1 = g) ∧ (r0 = 0 → ¬ (0 ≤ n ∧ 0 ≤ i ∧ 0 ≤ j ∧ i + n ≤ g 42 (Int.toNat p) ∧ j + n ≤ g 42 (Int.toNat q)) → r1 = -13 ∧ g1 = g) ∧ (r0 = 0 → (0 ≤ n ∧ 0 ≤ i ∧ 0 ≤ j ∧ i + n ≤ g 42 (Int.toNat p) ∧ j + n ≤ g 42 (Int.toNat q)) → r1 = n ∧ g1 = ycpy g (44 + Int.toNat q) (44 + Int.toNat p) (Int.toNat i) (Int.toNat j) (Int.toNat n))) : ∀ p : Int, 0 ≤ p → p < 6 → 0 ≤ g1 122 (Int.toNat p) ∧ g1 122 (Int.toNat p) ≤ 60 := by
  obtain ⟨hT, -, iP, -⟩ := hI
  obtain ⟨r0, c0, c1, c2, c3⟩ := a0
  have e : ∀ x : Nat, g1 122 x = g 122 x := fun x => by
    by_cases h0 : r0 = 0
    · by_cases hr : (0 ≤ n ∧ 0 ≤ i ∧ 0 ≤ j ∧ i + n ≤ g 42 (Int.toNat p) ∧ j + n ≤ g 42 (Int.toNat q))
      · have c := (c3 h0 hr).2
        have hp : 0 ≤ q ∧ q < 6 := by omega
        rw [c]
        exact ycpy_nc (by omega)
      · have c := (c2 h0 hr).2
        rw [c]
    · have c := (c1 h0).2
      rw [c]
  intro p' h1 h2
  have h3 := iP p'.toNat (by omega)
  rw [e p'.toNat]
  omega
theorem yal_shift {g g1 g2 : yM} {p i q j n r1 r2 : Int} (hI : yInv g) (a0 : ∃ r0 : Int, ((r0 = -1 ∧ ¬ (0 ≤ p ∧ p < 6 ∧ 0 ≤ q ∧ q < 6)) ∨ ((0 ≤ p ∧ p < 6 ∧ 0 ≤ q ∧ q < 6) ∧ ((r0 = -11 ∧ (g 40 (Int.toNat p) = -1 ∨ g 40 (Int.toNat q) = -1)) ∨ (g 40 (Int.toNat p) ≠ -1 ∧ g 40 (Int.toNat q) ≠ -1 ∧ ((r0 = -12 ∧ (g 40 (Int.toNat p) = -2 ∨ g 40 (Int.toNat p) ≠ g 40 (Int.toNat q))) ∨ (r0 = 0 ∧ g 40 (Int.toNat p) ≠ -2 ∧ g 40 (Int.toNat p) = g 40 (Int.toNat q))))))) ∧ (r0 ≠ 0 → r1 = r0 ∧ g1 = g) ∧ (r0 = 0 → ¬ (0 ≤ n ∧ 0 ≤ i ∧ 0 ≤ j ∧ i + n ≤ g 42 (Int.toNat p) ∧ j + n ≤ g 42 (Int.toNat q)) → r1 = -13 ∧ g1 = g) ∧ (r0 = 0 → (0 ≤ n ∧ 0 ≤ i ∧ 0 ≤ j ∧ i + n ≤ g 42 (Int.toNat p) ∧ j + n ≤ g 42 (Int.toNat q)) → r1 = n ∧ g1 = ycpy g (44 + Int.toNat q) (44 + Int.toNat p) (Int.toNat i) (Int.toNat j) (Int.toNat n))) (b0 : ∃ r0 : Int, ((r0 = -1 ∧ ¬ (0 ≤ p ∧ p < 6 ∧ 0 ≤ q ∧ q < 6)) ∨ ((0 ≤ p ∧ p < 6 ∧ 0 ≤ q ∧ q < 6) ∧ ((r0 = -11 ∧ (g1 121 (Int.toNat p) < 0 ∨ g1 121 (Int.toNat q) < 0)) ∨ (0 ≤ g1 121 (Int.toNat p) ∧ 0 ≤ g1 121 (Int.toNat q) ∧ ((r0 = -12 ∧ (g1 121 (Int.toNat p) < 20 ∨ g1 121 (Int.toNat p) ≠ g1 121 (Int.toNat q))) ∨ (20 ≤ g1 121 (Int.toNat p) ∧ g1 121 (Int.toNat p) = g1 121 (Int.toNat q) ∧ ((r0 = -13 ∧ ¬ (0 ≤ n ∧ 0 ≤ i ∧ 0 ≤ j ∧ i + n ≤ g1 122 (Int.toNat p) ∧ j + n ≤ g1 122 (Int.toNat q))) ∨ (r0 = 0 ∧ (0 ≤ n ∧ 0 ≤ i ∧ 0 ≤ j ∧ i + n ≤ g1 122 (Int.toNat p) ∧ j + n ≤ g1 122 (Int.toNat q)))))))))) ∧ (r0 ≠ 0 → r2 = r0 ∧ g2 = g1) ∧ (r0 = 0 → r2 = n ∧ g2 = ycpy (ycpy g1 124 123 (Int.toNat (60 * p + i)) 0 (Int.toNat n)) 123 124 0 (Int.toNat (60 * q + j)) (Int.toNat n))) : yInv g2 ∧ r1 = r2 := by
  obtain ⟨hT, ⟨i1, i2, i3⟩, iP, iC, iK, iD⟩ := id hI
  obtain ⟨r0, c0, c1, c2, c3⟩ := a0
  obtain ⟨s0, d0, d1, d2⟩ := b0
  by_cases hok : r0 = 0 ∧ (0 ≤ n ∧ 0 ≤ i ∧ 0 ≤ j ∧ i + n ≤ g 42 (Int.toNat p) ∧ j + n ≤ g 42 (Int.toNat q))
  · obtain ⟨f1, f2⟩ := c3 hok.1 hok.2
    have hp : 0 ≤ p ∧ p < 6 ∧ 0 ≤ q ∧ q < 6 := by omega
    have h3 := iP p.toNat (by omega)
    have h4 := iP q.toNat (by omega)
    have es : s0 = 0 := by
      have e : ∀ x : Nat, g1 121 x = g 121 x ∧ g1 122 x = g 122 x := fun x => by
        rw [f2]
        exact ⟨ycpy_nc (by omega), ycpy_nc (by omega)⟩
      rw [(e _).1, (e _).1, (e _).2, (e _).2] at d0
      omega
    obtain ⟨f3, f4⟩ := d2 es
    have hb : 0 ≤ n ∧ 0 ≤ i ∧ 0 ≤ j ∧ i + n ≤ 60 ∧ j + n ≤ 60 := by omega
    clear c0 c1 c2 c3 d0 d1 d2 h3 h4 hok
    have n46 : ¬ 46 = Int.toNat q := by omega
    have n70 : ¬ 70 = Int.toNat q := by omega
    have n77 : ¬ 77 = Int.toNat q := by omega
    have n78 : ¬ 78 = Int.toNat q := by omega
    have n79 : ¬ 79 = Int.toNat q := by omega
    have m6 : ¬ 6 = 44 + Int.toNat q := by omega
    have m30 : ¬ 30 = 44 + Int.toNat q := by omega
    have m40 : ¬ 40 = 44 + Int.toNat q := by omega
    have m41 : ¬ 41 = 44 + Int.toNat q := by omega
    have m42 : ¬ 42 = 44 + Int.toNat q := by omega
    have m90 : ¬ 90 = 44 + Int.toNat q := by omega
    have m114 : ¬ 114 = 44 + Int.toNat q := by omega
    have m121 : ¬ 121 = 44 + Int.toNat q := by omega
    have m122 : ¬ 122 = 44 + Int.toNat q := by omega
    have m123 : ¬ 123 = 44 + Int.toNat q := by omega
    refine ⟨?_, by omega⟩
    subst f2
    subst f4
    refine ⟨?_, ⟨?_, ?_, ?_⟩, fun p' hp' => ?_, fun p' k hp' hk => ?_, fun r hr => ?_, ?_⟩
    · refine yTy.lng 123 123 (by decide +kernel) (by decide) ?_ (fun a b hab => ycpy_nc (by omega))
      refine yTy.lng 124 124 (by decide +kernel) (by decide) ?_ (fun a b hab => ycpy_nc (by omega))
      refine yTy.lng 44 49 (by decide +kernel) (by decide) ?_ (fun a b hab => ycpy_nc (by omega))
      exact hT  
    · try simp only [yset_nc, yzr_nc, ycpy_nc, yset_eq, ne_eq, Nat.reduceEqDiff, not_false_eq_true, n46, n70, n77, n78, n79, m6, m30, m40, m41, m42, m90, m114, m121, m122, m123]
      exact i1
    · try simp only [yset_nc, yzr_nc, ycpy_nc, yset_eq, ne_eq, Nat.reduceEqDiff, not_false_eq_true, n46, n70, n77, n78, n79, m6, m30, m40, m41, m42, m90, m114, m121, m122, m123]
      exact i2
    · try simp only [yset_nc, yzr_nc, ycpy_nc, yset_eq, ne_eq, Nat.reduceEqDiff, not_false_eq_true, n46, n70, n77, n78, n79, m6, m30, m40, m41, m42, m90, m114, m121, m122, m123]
      exact i3
    · have := iP p' hp'
      try simp only [yset_nc, yzr_nc, ycpy_nc, yset_eq, ne_eq, Nat.reduceEqDiff, not_false_eq_true, n46, n70, n77, n78, n79, m6, m30, m40, m41, m42, m90, m114, m121, m122, m123]
      exact this
    · have h5 := iC p' k hp' hk
      by_cases e : p' = Int.toNat q ∧ Int.toNat j ≤ k ∧ k < Int.toNat j + Int.toNat n
      · obtain ⟨e1, e2⟩ := e
        subst e1
        have h6 := iC p.toNat (Int.toNat i + (k - Int.toNat j)) (by omega) (by omega)
        rw [ycpy_in (by omega), ycpy_in (by omega), ycpy_nc (by omega), ycpy_nc (by omega), ycpy_nc (by omega), ycpy_in (by omega)]
        rw [show Int.toNat (60 * p + i) + (0 + (60 * Int.toNat q + k - Int.toNat (60 * q + j)) - 0) = 60 * Int.toNat p + (Int.toNat i + (k - Int.toNat j)) by omega]
        exact h6
      · rw [ycpy_out (by omega), ycpy_nc (by omega), ycpy_nc (by omega), ycpy_nc (by omega), ycpy_nc (by omega)]
        by_cases e2 : p' = Int.toNat q
        · subst e2
          rw [ycpy_out (by omega)]
          exact h5
        · rw [ycpy_nc (by omega)]
          exact h5  
    · have := iK r hr
      try simp only [yset_nc, yzr_nc, ycpy_nc, yset_eq, ne_eq, Nat.reduceEqDiff, not_false_eq_true, n46, n70, n77, n78, n79, m6, m30, m40, m41, m42, m90, m114, m121, m122, m123]
      exact this
    · try simp only [yset_nc, yzr_nc, ycpy_nc, yset_eq, ne_eq, Nat.reduceEqDiff, not_false_eq_true, n46, n70, n77, n78, n79, m6, m30, m40, m41, m42, m90, m114, m121, m122, m123]
      exact iD
  · have f : g1 = g ∧ ((r0 ≠ 0 ∧ r1 = r0) ∨ (r0 = 0 ∧ r1 = -13)) := by
      by_cases h0 : r0 = 0
      · have c := c2 h0 (fun z => hok ⟨h0, z⟩)
        exact ⟨c.2, Or.inr ⟨h0, c.1⟩⟩
      · have c := c1 h0
        exact ⟨c.2, Or.inl ⟨h0, c.1⟩⟩
    obtain ⟨f1, f2⟩ := f
    subst f1
    have es : s0 ≠ 0 ∧ s0 = r1 := by
      by_cases hp : 0 ≤ p ∧ p < 6 ∧ 0 ≤ q ∧ q < 6
      · have h3 := iP p.toNat (by omega)
        have h4 := iP q.toNat (by omega)
        omega
      · omega
    obtain ⟨c4, c5⟩ := d1 es.1
    subst c5
    exact ⟨hI, by omega⟩
theorem yam_rule0 {g g1 : yM} {c a w r1 : Int} (hI : yInv g) (a0 : (r1 = -1 ∧ ¬ (0 ≤ c ∧ c < 8 ∧ 0 ≤ a ∧ a < 10000 ∧ 0 ≤ w ∧ w < 100)) ∨ ((0 ≤ c ∧ c < 8 ∧ 0 ≤ a ∧ a < 10000 ∧ 0 ≤ w ∧ w < 100) ∧ ((r1 = -3 ∧ g 6 8 = 20) ∨ (r1 = g 6 8 ∧ g 6 8 < 20)))) (a1 : r1 < 0 → g1 = g) (a2 : 0 ≤ r1 → g1 = yset (yset (yset (yset (yset g 30 (Int.toNat (g 6 8)) c) 27 (Int.toNat (g 6 8)) (yb (fun x y => x / y) a 100)) 28 (Int.toNat (g 6 8)) (yb (fun x y => x - x / y * y) a 100)) 29 (Int.toNat (g 6 8)) w) 6 8 (g 6 8 + 1)) : 0 ≤ g1 90 38 ∧ g1 90 38 ≤ 20 := by
  obtain ⟨hT, ⟨i1, i2, i3⟩, -⟩ := hI
  by_cases h1 : r1 < 0
  · have e := a1 h1
    subst e
    omega
  · have e := a2 (by omega)
    subst e
    try simp only [yset_nc, ne_eq, Nat.reduceEqDiff, not_false_eq_true, yset_eq]
    omega
theorem yal_rule {g g1 g2 : yM} {c a w r1 r2 : Int} (hI : yInv g) (a0 : (r1 = -1 ∧ ¬ (0 ≤ c ∧ c < 8 ∧ 0 ≤ a ∧ a < 10000 ∧ 0 ≤ w ∧ w < 100)) ∨ ((0 ≤ c ∧ c < 8 ∧ 0 ≤ a ∧ a < 10000 ∧ 0 ≤ w ∧ w < 100) ∧ ((r1 = -3 ∧ g 6 8 = 20) ∨ (r1 = g 6 8 ∧ g 6 8 < 20)))) (a1 : r1 < 0 → g1 = g) (a2 : 0 ≤ r1 → g1 = yset (yset (yset (yset (yset g 30 (Int.toNat (g 6 8)) c) 27 (Int.toNat (g 6 8)) (yb (fun x y => x / y) a 100)) 28 (Int.toNat (g 6 8)) (yb (fun x y => x - x / y * y) a 100)) 29 (Int.toNat (g 6 8)) w) 6 8 (g 6 8 + 1)) (b0 : (r2 = -1 ∧ ¬ (0 ≤ c ∧ c < 8 ∧ 0 ≤ a ∧ a < 10000 ∧ 0 ≤ w ∧ w < 100)) ∨ ((0 ≤ c ∧ c < 8 ∧ 0 ≤ a ∧ a < 10000 ∧ 0 ≤ w ∧ w < 100) ∧ ((r2 = -3 ∧ g1 90 38 = 20) ∨ (r2 = g1 90 38 ∧ g1 90 38 < 20)))) (b1 : r2 < 0 → g2 = g1) (b2 : 0 ≤ r2 → g2 = yset (yset (yset (yset (yset g1 114 (Int.toNat (g1 90 38)) c) 115 (Int.toNat (g1 90 38)) (yb (fun x y => x / y) a 100)) 116 (Int.toNat (g1 90 38)) (yb (fun x y => x - x / y * y) a 100)) 117 (Int.toNat (g1 90 38)) w) 90 38 (g1 90 38 + 1)) : yInv g2 ∧ r1 = r2 := by
  obtain ⟨hT, ⟨i1, i2, i3⟩, iP, iC, iK, iD⟩ := id hI
  by_cases h1 : r1 < 0
  · have e := a1 h1
    subst e
    have d : r2 < 0 ∧ r2 = r1 := by omega
    have e := b1 d.1
    subst e
    exact ⟨hI, by omega⟩
  · have e := a2 (by omega)
    have hp : 0 ≤ c ∧ c < 8 ∧ 0 ≤ w ∧ w < 100 ∧ g 6 8 < 20 ∧ r1 = g 6 8 := by omega
    have e9 : g1 90 38 = g 6 8 := by
      subst e
      try simp only [yset_nc, ne_eq, Nat.reduceEqDiff, not_false_eq_true, yset_eq]
      exact i3
    have d : 0 ≤ r2 ∧ r2 = r1 := by omega
    have f := b2 d.1
    rw [e9] at f
    clear a0 a1 a2 b0 b1 b2 e9
    refine ⟨?_, by omega⟩
    subst e
    subst f
    have y1 := yb_rng (fun x y => x / y) a 100
    have y2 := yb_rng (fun x y => x - x / y * y) a 100
    refine ⟨?_, ⟨?_, ?_, ?_⟩, fun p' hp' => ?_, fun p' k hp' hk => ?_, fun r hr => ?_, ?_⟩
    · refine yTy.sO ?_ (List.mem_of_getElem? (i := 42) rfl) rfl (by decide +kernel) ⟨by omega, by omega⟩
      refine yTy.sA ?_ (List.mem_of_getElem? (i := 69) rfl) (by decide +kernel) ⟨by omega, by omega⟩
      refine yTy.sA ?_ (List.mem_of_getElem? (i := 68) rfl) (by decide +kernel) y2
      refine yTy.sA ?_ (List.mem_of_getElem? (i := 67) rfl) (by decide +kernel) y1
      refine yTy.sA ?_ (List.mem_of_getElem? (i := 66) rfl) (by decide +kernel) ⟨by omega, by omega⟩
      refine yTy.sO ?_ (List.mem_of_getElem? (i := 6) rfl) rfl (by decide +kernel) ⟨by omega, by omega⟩
      refine yTy.sA ?_ (List.mem_of_getElem? (i := 28) rfl) (by decide +kernel) ⟨by omega, by omega⟩
      refine yTy.sA ?_ (List.mem_of_getElem? (i := 27) rfl) (by decide +kernel) y2
      refine yTy.sA ?_ (List.mem_of_getElem? (i := 26) rfl) (by decide +kernel) y1
      refine yTy.sA ?_ (List.mem_of_getElem? (i := 29) rfl) (by decide +kernel) ⟨by omega, by omega⟩
      exact hT
    · try simp only [yset_nc, ne_eq, Nat.reduceEqDiff, not_false_eq_true, yset_eq]
      omega
    · try simp only [yset_nc, ne_eq, Nat.reduceEqDiff, not_false_eq_true, yset_eq]
      omega
    · try simp only [yset_nc, ne_eq, Nat.reduceEqDiff, not_false_eq_true, yset_eq]
    · have := iP p' hp'
      try simp only [yset_nc, ne_eq, Nat.reduceEqDiff, not_false_eq_true, yset_eq]
      omega
    · have := iC p' k hp' hk
      have n0 : ∀ x : Nat, x = 6 ∨ (27 ≤ x ∧ x ≤ 30) → ¬ (44 + p' = x) := fun x hx => by omega
      rw [yset_nc (by omega), yset_nc (by omega), yset_nc (by omega), yset_nc (by omega), yset_nc (by omega), yset_nc (by omega), yset_nc (by omega), yset_nc (by omega), yset_nc (by omega), yset_nc (by omega), yset_nc (by omega), yset_nc (by omega), yset_nc (by omega), yset_nc (by omega), yset_nc (by omega), yset_nc (by omega), yset_nc (by omega), yset_nc (by omega), yset_nc (by omega), yset_nc (by omega)]
      exact this
    · have := iK r hr
      by_cases e : r = Int.toNat (g 6 8)
      · subst e
        try simp only [yset_nc, ne_eq, Nat.reduceEqDiff, not_false_eq_true, yset_eq]
      · try simp only [yset_nj, e, yset_nc, ne_eq, Nat.reduceEqDiff, not_false_eq_true, yset_eq]
        exact this
    · try simp only [yset_nc, ne_eq, Nat.reduceEqDiff, not_false_eq_true, yset_eq]
      exact iD
