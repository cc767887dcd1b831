/-! BOTH SIDES ALIKE: put -/
theorem yam_put0 {g g1 : yM} {p i v r1 : Int} (hI : yInv g) (a0 : ∃ r0 : Int, ((r0 = -1 ∧ ¬ (0 ≤ p ∧ p < 6)) ∨ ((0 ≤ p ∧ p < 6) ∧ ((r0 = -11 ∧ g 40 (Int.toNat p) = -1) ∨ (g 40 (Int.toNat p) ≠ -1 ∧ ((r0 = -12 ∧ g 40 (Int.toNat p) = -2) ∨ (g 40 (Int.toNat p) ≠ -2 ∧ ((r0 = -13 ∧ (i < 0 ∨ g 42 (Int.toNat p) ≤ i)) ∨ (r0 = 0 ∧ 0 ≤ i ∧ i < g 42 (Int.toNat p))))))))) ∧ (r0 = 0 → r1 = 1 ∧ g1 = yset g (44 + Int.toNat p) (Int.toNat i) (ynar (g 40 (Int.toNat p)) v)) ∧ (r0 ≠ 0 → r1 = r0 ∧ g1 = g)) : ∀ p : Int, 0 ≤ p → p < 6 → 0 ≤ g1 122 (Int.toNat p) ∧ g1 122 (Int.toNat p) ≤ 60 := by
  obtain ⟨hT, ⟨i1, i2, i3⟩, iP, -⟩ := hI
  obtain ⟨r0, c0, c1, c2⟩ := a0
  have e : ∀ x : Nat, g1 121 x = g 121 x ∧ g1 122 x = g 122 x := fun x => by
    by_cases h0 : r0 = 0
    · have c := (c1 h0).2
      have hp : 0 ≤ p ∧ p < 6 := by omega
      rw [c]
      exact ⟨yset_nc (by omega), yset_nc (by omega)⟩
    · have c := (c2 h0).2
      rw [c]
      exact ⟨rfl, rfl⟩
  intro p' h1 h2
  have h3 := iP p'.toNat (by omega)
  rw [(e p'.toNat).2]
  omega
theorem yam_put1 {g g1 : yM} {p i v r1 : Int} (hI : yInv g) (a0 : ∃ r0 : Int, ((r0 = -1 ∧ ¬ (0 ≤ p ∧ p < 6)) ∨ ((0 ≤ p ∧ p < 6) ∧ ((r0 = -11 ∧ g 40 (Int.toNat p) = -1) ∨ (g 40 (Int.toNat p) ≠ -1 ∧ ((r0 = -12 ∧ g 40 (Int.toNat p) = -2) ∨ (g 40 (Int.toNat p) ≠ -2 ∧ ((r0 = -13 ∧ (i < 0 ∨ g 42 (Int.toNat p) ≤ i)) ∨ (r0 = 0 ∧ 0 ≤ i ∧ i < g 42 (Int.toNat p))))))))) ∧ (r0 = 0 → r1 = 1 ∧ g1 = yset g (44 + Int.toNat p) (Int.toNat i) (ynar (g 40 (Int.toNat p)) v)) ∧ (r0 ≠ 0 → r1 = r0 ∧ g1 = g)) : ∀ p : Int, 0 ≤ p → p < 6 → -1 ≤ g1 121 (Int.toNat p) ∧ g1 121 (Int.toNat p) ≤ 24 := by
  obtain ⟨hT, ⟨i1, i2, i3⟩, iP, -⟩ := hI
  obtain ⟨r0, c0, c1, c2⟩ := a0
  have e : ∀ x : Nat, g1 121 x = g 121 x ∧ g1 122 x = g 122 x := fun x => by
    by_cases h0 : r0 = 0
    · have c := (c1 h0).2
      have hp : 0 ≤ p ∧ p < 6 := by omega
      rw [c]
      exact ⟨yset_nc (by omega), yset_nc (by omega)⟩
    · have c := (c2 h0).2
      rw [c]
      exact ⟨rfl, rfl⟩
  intro p' h1 h2
  have h3 := iP p'.toNat (by omega)
  rw [(e p'.toNat).1]
  omega
theorem yal_put {g g1 g2 : yM} {p i v r1 r2 : Int} (hI : yInv g) (a0 : ∃ r0 : Int, ((r0 = -1 ∧ ¬ (0 ≤ p ∧ p < 6)) ∨ ((0 ≤ p ∧ p < 6) ∧ ((r0 = -11 ∧ g 40 (Int.toNat p) = -1) ∨ (g 40 (Int.toNat p) ≠ -1 ∧ ((r0 = -12 ∧ g 40 (Int.toNat p) = -2) ∨ (g 40 (Int.toNat p) ≠ -2 ∧ ((r0 = -13 ∧ (i < 0 ∨ g 42 (Int.toNat p) ≤ i)) ∨ (r0 = 0 ∧ 0 ≤ i ∧ i < g 42 (Int.toNat p))))))))) ∧ (r0 = 0 → r1 = 1 ∧ g1 = yset g (44 + Int.toNat p) (Int.toNat i) (ynar (g 40 (Int.toNat p)) v)) ∧ (r0 ≠ 0 → r1 = r0 ∧ g1 = g)) (b0 : ∃ r0 : Int, ((r0 = -1 ∧ ¬ (0 ≤ p ∧ p < 6)) ∨ ((0 ≤ p ∧ p < 6) ∧ ((r0 = -11 ∧ g1 121 (Int.toNat p) < 0) ∨ (0 ≤ g1 121 (Int.toNat p) ∧ ((r0 = -12 ∧ g1 121 (Int.toNat p) < 20) ∨ (20 ≤ g1 121 (Int.toNat p) ∧ ((r0 = -13 ∧ (i < 0 ∨ g1 122 (Int.toNat p) ≤ i)) ∨ (r0 = 0 ∧ 0 ≤ i ∧ i < g1 122 (Int.toNat p))))))))) ∧ (r0 = 0 → r2 = 1 ∧ g2 = yset g1 123 (Int.toNat (60 * p + i)) (ynar (g1 121 (Int.toNat p) - 20) v)) ∧ (r0 ≠ 0 → r2 = r0 ∧ g2 = g1)) : yInv g2 ∧ r1 = r2 := by
  obtain ⟨hT, ⟨i1, i2, i3⟩, iP, iC, iK, iD⟩ := id hI
  obtain ⟨r0, c0, c1, c2⟩ := a0
  obtain ⟨s0, d0, d1, d2⟩ := b0
  have e : ∀ x : Nat, g1 121 x = g 121 x ∧ g1 122 x = g 122 x := fun x => by
    by_cases h0 : r0 = 0
    · have c := (c1 h0).2
      have hp : 0 ≤ p ∧ p < 6 := by omega
      rw [c]
      exact ⟨yset_nc (by omega), yset_nc (by omega)⟩
    · have c := (c2 h0).2
      rw [c]
      exact ⟨rfl, rfl⟩
  rw [(e _).1, (e _).2] at d0
  rw [(e _).1] at d1
  have es : s0 = r0 := by
    by_cases hp : 0 ≤ p ∧ p < 6
    · have h3 := iP p.toNat (by omega)
      omega
    · omega
  subst es
  by_cases h0 : s0 = 0
  · obtain ⟨f1, f2⟩ := c1 h0
    obtain ⟨f3, f4⟩ := d1 h0
    have hp : 0 ≤ p ∧ p < 6 := by omega
    have h3 := iP p.toNat (by omega)
    have hH : 0 ≤ g 40 (Int.toNat p) ∧ g 121 (Int.toNat p) = g 40 (Int.toNat p) + 20 ∧ 0 ≤ i ∧ i < 60 := by omega
    rw [show g 121 (Int.toNat p) - 20 = g 40 (Int.toNat p) by omega] at f4
    clear c0 c1 c2 d0 d1 d2
    have n46 : ¬ 46 = Int.toNat p := by omega
    have n70 : ¬ 70 = Int.toNat p := by omega
    have n77 : ¬ 77 = Int.toNat p := by omega
    have n78 : ¬ 78 = Int.toNat p := by omega
    have n79 : ¬ 79 = Int.toNat p := by omega
    have m6 : ¬ 6 = 44 + Int.toNat p := by omega
    have m30 : ¬ 30 = 44 + Int.toNat p := by omega
    have m40 : ¬ 40 = 44 + Int.toNat p := by omega
    have m41 : ¬ 41 = 44 + Int.toNat p := by omega
    have m42 : ¬ 42 = 44 + Int.toNat p := by omega
    have m90 : ¬ 90 = 44 + Int.toNat p := by omega
    have m114 : ¬ 114 = 44 + Int.toNat p := by omega
    have m121 : ¬ 121 = 44 + Int.toNat p := by omega
    have m122 : ¬ 122 = 44 + Int.toNat p := by omega
    have m123 : ¬ 123 = 44 + Int.toNat p := by omega
    refine ⟨?_, by omega⟩
    clear e h3
    subst f2
    subst f4
    refine ⟨?_, ⟨?_, ?_, ?_⟩, fun p' hp' => ?_, fun p' k hp' hk => ?_, fun r hr => ?_, ?_⟩
    · refine yTy.lng 123 123 (by decide +kernel) (by decide) ?_ (fun a b hab => yset_nc (by omega))
      refine yTy.lng 44 49 (by decide +kernel) (by decide) ?_ (fun a b hab => yset_nc (by omega))
      exact hT  
    · try simp only [yset_nc, yzr_nc, ycpy_nc, yset_eq, ne_eq, Nat.reduceEqDiff, not_false_eq_true, n46, n70, n77, n78, n79, m6, m30, m40, m41, m42, m90, m114, m121, m122, m123]
      exact i1
    · try simp only [yset_nc, yzr_nc, ycpy_nc, yset_eq, ne_eq, Nat.reduceEqDiff, not_false_eq_true, n46, n70, n77, n78, n79, m6, m30, m40, m41, m42, m90, m114, m121, m122, m123]
      exact i2
    · try simp only [yset_nc, yzr_nc, ycpy_nc, yset_eq, ne_eq, Nat.reduceEqDiff, not_false_eq_true, n46, n70, n77, n78, n79, m6, m30, m40, m41, m42, m90, m114, m121, m122, m123]
      exact i3
    · have := iP p' hp'
      try simp only [yset_nc, yzr_nc, ycpy_nc, yset_eq, ne_eq, Nat.reduceEqDiff, not_false_eq_true, n46, n70, n77, n78, n79, m6, m30, m40, m41, m42, m90, m114, m121, m122, m123]
      exact this
    · have := iC p' k hp' hk
      by_cases e : p' = Int.toNat p ∧ k = Int.toNat i
      · obtain ⟨e1, e2⟩ := e
        subst e1
        subst e2
        rw [show 60 * Int.toNat p + Int.toNat i = Int.toNat (60 * p + i) by omega, yset_eq, yset_nc (by omega), yset_eq]
      · rw [yset_nj (by omega), yset_nc (by omega), yset_nc (by omega), yset_ne (by omega)]
        exact this  
    · have := iK r hr
      try simp only [yset_nc, yzr_nc, ycpy_nc, yset_eq, ne_eq, Nat.reduceEqDiff, not_false_eq_true, n46, n70, n77, n78, n79, m6, m30, m40, m41, m42, m90, m114, m121, m122, m123]
      exact this
    · try simp only [yset_nc, yzr_nc, ycpy_nc, yset_eq, ne_eq, Nat.reduceEqDiff, not_false_eq_true, n46, n70, n77, n78, n79, m6, m30, m40, m41, m42, m90, m114, m121, m122, m123]
      exact iD
  · obtain ⟨f1, f2⟩ := c2 h0
    obtain ⟨f3, f4⟩ := d2 h0
    subst f2
    subst f4
    exact ⟨hI, by omega⟩

