/-! BOTH SIDES ALIKE: shift -/
theorem yam_shift0 {g g1 : yM} {p i q j n r1 : Int} (hI : yInv g) (a0 : ∃ r0 : Int, ((r0 = -1 ∧ ¬ (0 ≤ p ∧ p < 6 ∧ 0 ≤ q ∧ q < 6)) ∨ ((0 ≤ p ∧ p < 6 ∧ 0 ≤ q ∧ q < 6) ∧ ((r0 = -11 ∧ (g 40 (Int.toNat p) = -1 ∨ g 40 (Int.toNat q) = -1)) ∨ (g 40 (Int.toNat p) ≠ -1 ∧ g 40 (Int.toNat q) ≠ -1 ∧ ((r0 = -12 ∧ (g 40 (Int.toNat p) = -2 ∨ g 40 (Int.toNat p) ≠ g 40 (Int.toNat q))) ∨ (r0 = 0 ∧ g 40 (Int.toNat p) ≠ -2 ∧ g 40 (Int.toNat p) = g 40 (Int.toNat q))))))) ∧ (r0 ≠ 0 → r1 = r0 ∧ g1 = g) ∧ (r0 = 0 → ¬ (0 ≤ n ∧ 0 ≤ i ∧ 0 ≤ j ∧ i + n ≤ g 42 (Int.toNat p) ∧ j + n ≤ g 42 (Int.toNat q)) → r1 = -13 ∧ g1 = g) ∧ (r0 = 0 → (0 ≤ n ∧ 0 ≤ i ∧ 0 ≤ j ∧ i + n ≤ g 42 (Int.toNat p) ∧ j + n ≤ g 42 (Int.toNat q)) → r1 = n ∧ g1 = ycpy g (44 + Int.toNat q) (44 + Int.toNat p) (Int.toNat i) (Int.toNat j) (Int.toNat n))) : ∀ p : Int, 0 ≤ p → p < 6 → 0 ≤ g1 122 (Int.toNat p) ∧ g1 122 (Int.toNat p) ≤ 60 := by
  obtain ⟨hT, -, iP, -⟩ := hI
  obtain ⟨r0, c0, c1, c2, c3⟩ := a0
  have e : ∀ x : Nat, g1 122 x = g 122 x := fun x => by
    by_cases h0 : r0 = 0
    · by_cases hr : (0 ≤ n ∧ 0 ≤ i ∧ 0 ≤ j ∧ i + n ≤ g 42 (Int.toNat p) ∧ j + n ≤ g 42 (Int.toNat q))
      · have c := (c3 h0 hr).2
        have hp : 0 ≤ q ∧ q < 6 := by omega
        rw [c]
        exact ycpy_nc (by omega)
      · have c := (c2 h0 hr).2
        rw [c]
    · have c := (c1 h0).2
      rw [c]
  intro p' h1 h2
  have h3 := iP p'.toNat (by omega)
  rw [e p'.toNat]
  omega
theorem yal_shift {g g1 g2 : yM} {p i q j n r1 r2 : Int} (hI : yInv g) (a0 : ∃ r0 : Int, ((r0 = -1 ∧ ¬ (0 ≤ p ∧ p < 6 ∧ 0 ≤ q ∧ q < 6)) ∨ ((0 ≤ p ∧ p < 6 ∧ 0 ≤ q ∧ q < 6) ∧ ((r0 = -11 ∧ (g 40 (Int.toNat p) = -1 ∨ g 40 (Int.toNat q) = -1)) ∨ (g 40 (Int.toNat p) ≠ -1 ∧ g 40 (Int.toNat q) ≠ -1 ∧ ((r0 = -12 ∧ (g 40 (Int.toNat p) = -2 ∨ g 40 (Int.toNat p) ≠ g 40 (Int.toNat q))) ∨ (r0 = 0 ∧ g 40 (Int.toNat p) ≠ -2 ∧ g 40 (Int.toNat p) = g 40 (Int.toNat q))))))) ∧ (r0 ≠ 0 → r1 = r0 ∧ g1 = g) ∧ (r0 = 0 → ¬ (0 ≤ n ∧ 0 ≤ i ∧ 0 ≤ j ∧ i + n ≤ g 42 (Int.toNat p) ∧ j + n ≤ g 42 (Int.toNat q)) → r1 = -13 ∧ g1 = g) ∧ (r0 = 0 → (0 ≤ n ∧ 0 ≤ i ∧ 0 ≤ j ∧ i + n ≤ g 42 (Int.toNat p) ∧ j + n ≤ g 42 (Int.toNat q)) → r1 = n ∧ g1 = ycpy g (44 + Int.toNat q) (44 + Int.toNat p) (Int.toNat i) (Int.toNat j) (Int.toNat n))) (b0 : ∃ r0 : Int, ((r0 = -1 ∧ ¬ (0 ≤ p ∧ p < 6 ∧ 0 ≤ q ∧ q < 6)) ∨ ((0 ≤ p ∧ p < 6 ∧ 0 ≤ q ∧ q < 6) ∧ ((r0 = -11 ∧ (g1 121 (Int.toNat p) < 0 ∨ g1 121 (Int.toNat q) < 0)) ∨ (0 ≤ g1 121 (Int.toNat p) ∧ 0 ≤ g1 121 (Int.toNat q) ∧ ((r0 = -12 ∧ (g1 121 (Int.toNat p) < 20 ∨ g1 121 (Int.toNat p) ≠ g1 121 (Int.toNat q))) ∨ (20 ≤ g1 121 (Int.toNat p) ∧ g1 121 (Int.toNat p) = g1 121 (Int.toNat q) ∧ ((r0 = -13 ∧ ¬ (0 ≤ n ∧ 0 ≤ i ∧ 0 ≤ j ∧ i + n ≤ g1 122 (Int.toNat p) ∧ j + n ≤ g1 122 (Int.toNat q))) ∨ (r0 = 0 ∧ (0 ≤ n ∧ 0 ≤ i ∧ 0 ≤ j ∧ i + n ≤ g1 122 (Int.toNat p) ∧ j + n ≤ g1 122 (Int.toNat q)))))))))) ∧ (r0 ≠ 0 → r2 = r0 ∧ g2 = g1) ∧ (r0 = 0 → r2 = n ∧ g2 = ycpy (ycpy g1 124 123 (Int.toNat (60 * p + i)) 0 (Int.toNat n)) 123 124 0 (Int.toNat (60 * q + j)) (Int.toNat n))) : yInv g2 ∧ r1 = r2 := by
  obtain ⟨hT, ⟨i1, i2, i3⟩, iP, iC, iK, iD⟩ := id hI
  obtain ⟨r0, c0, c1, c2, c3⟩ := a0
  obtain ⟨s0, d0, d1, d2⟩ := b0
  by_cases hok : r0 = 0 ∧ (0 ≤ n ∧ 0 ≤ i ∧ 0 ≤ j ∧ i + n ≤ g 42 (Int.toNat p) ∧ j + n ≤ g 42 (Int.toNat q))
  · obtain ⟨f1, f2⟩ := c3 hok.1 hok.2
    have hp : 0 ≤ p ∧ p < 6 ∧ 0 ≤ q ∧ q < 6 := by omega
    have h3 := iP p.toNat (by omega)
    have h4 := iP q.toNat (by omega)
    have es : s0 = 0 := by
      have e : ∀ x : Nat, g1 121 x = g 121 x ∧ g1 122 x = g 122 x := fun x => by
        rw [f2]
        exact ⟨ycpy_nc (by omega), ycpy_nc (by omega)⟩
      rw [(e _).1, (e _).1, (e _).2, (e _).2] at d0
      omega
    obtain ⟨f3, f4⟩ := d2 es
    have hb : 0 ≤ n ∧ 0 ≤ i ∧ 0 ≤ j ∧ i + n ≤ 60 ∧ j + n ≤ 60 := by omega
    clear c0 c1 c2 c3 d0 d1 d2 h3 h4 hok
    have n46 : ¬ 46 = Int.toNat q := by omega
    have n70 : ¬ 70 = Int.toNat q := by omega
    have n77 : ¬ 77 = Int.toNat q := by omega
    have n78 : ¬ 78 = Int.toNat q := by omega
    have n79 : ¬ 79 = Int.toNat q := by omega
    have m6 : ¬ 6 = 44 + Int.toNat q := by omega
    have m30 : ¬ 30 = 44 + Int.toNat q := by omega
    have m40 : ¬ 40 = 44 + Int.toNat q := by omega
    have m41 : ¬ 41 = 44 + Int.toNat q := by omega
    have m42 : ¬ 42 = 44 + Int.toNat q := by omega
    have m90 : ¬ 90 = 44 + Int.toNat q := by omega
    have m114 : ¬ 114 = 44 + Int.toNat q := by omega
    have m121 : ¬ 121 = 44 + Int.toNat q := by omega
    have m122 : ¬ 122 = 44 + Int.toNat q := by omega
    have m123 : ¬ 123 = 44 + Int.toNat q := by omega
    refine ⟨?_, by omega⟩
    subst f2
    subst f4
    refine ⟨?_, ⟨?_, ?_, ?_⟩, fun p' hp' => ?_, fun p' k hp' hk => ?_, fun r hr => ?_, ?_⟩
    · refine yTy.lng 123 123 (by decide +kernel) (by decide) ?_ (fun a b hab => ycpy_nc (by omega))
      refine yTy.lng 124 124 (by decide +kernel) (by decide) ?_ (fun a b hab => ycpy_nc (by omega))
      refine yTy.lng 44 49 (by decide +kernel) (by decide) ?_ (fun a b hab => ycpy_nc (by omega))
      exact hT  
    · try simp only [yset_nc, yzr_nc, ycpy_nc, yset_eq, ne_eq, Nat.reduceEqDiff, not_false_eq_true, n46, n70, n77, n78, n79, m6, m30, m40, m41, m42, m90, m114, m121, m122, m123]
      exact i1
    · try simp only [yset_nc, yzr_nc, ycpy_nc, yset_eq, ne_eq, Nat.reduceEqDiff, not_false_eq_true, n46, n70, n77, n78, n79, m6, m30, m40, m41, m42, m90, m114, m121, m122, m123]
      exact i2
    · try simp only [yset_nc, yzr_nc, ycpy_nc, yset_eq, ne_eq, Nat.reduceEqDiff, not_false_eq_true, n46, n70, n77, n78, n79, m6, m30, m40, m41, m42, m90, m114, m121, m122, m123]
      exact i3
    · have := iP p' hp'
      try simp only [yset_nc, yzr_nc, ycpy_nc, yset_eq, ne_eq, Nat.reduceEqDiff, not_false_eq_true, n46, n70, n77, n78, n79, m6, m30, m40, m41, m42, m90, m114, m121, m122, m123]
      exact this
    · have h5 := iC p' k hp' hk
      by_cases e : p' = Int.toNat q ∧ Int.toNat j ≤ k ∧ k < Int.toNat j + Int.toNat n
      · obtain ⟨e1, e2⟩ := e
        subst e1
        have h6 := iC p.toNat (Int.toNat i + (k - Int.toNat j)) (by omega) (by omega)
        rw [ycpy_in (by omega), ycpy_in (by omega), ycpy_nc (by omega), ycpy_nc (by omega), ycpy_nc (by omega), ycpy_in (by omega)]
        rw [show Int.toNat (60 * p + i) + (0 + (60 * Int.toNat q + k - Int.toNat (60 * q + j)) - 0) = 60 * Int.toNat p + (Int.toNat i + (k - Int.toNat j)) by omega]
        exact h6
      · rw [ycpy_out (by omega), ycpy_nc (by omega), ycpy_nc (by omega), ycpy_nc (by omega), ycpy_nc (by omega)]
        by_cases e2 : p' = Int.toNat q
        · subst e2
          rw [ycpy_out (by omega)]
          exact h5
        · rw [ycpy_nc (by omega)]
          exact h5  
    · have := iK r hr
      try simp only [yset_nc, yzr_nc, ycpy_nc, yset_eq, ne_eq, Nat.reduceEqDiff, not_false_eq_true, n46, n70, n77, n78, n79, m6, m30, m40, m41, m42, m90, m114, m121, m122, m123]
      exact this
    · try simp only [yset_nc, yzr_nc, ycpy_nc, yset_eq, ne_eq, Nat.reduceEqDiff, not_false_eq_true, n46, n70, n77, n78, n79, m6, m30, m40, m41, m42, m90, m114, m121, m122, m123]
      exact iD
  · have f : g1 = g ∧ ((r0 ≠ 0 ∧ r1 = r0) ∨ (r0 = 0 ∧ r1 = -13)) := by
      by_cases h0 : r0 = 0
      · have c := c2 h0 (fun z => hok ⟨h0, z⟩)
        exact ⟨c.2, Or.inr ⟨h0, c.1⟩⟩
      · have c := c1 h0
        exact ⟨c.2, Or.inl ⟨h0, c.1⟩⟩
    obtain ⟨f1, f2⟩ := f
    subst f1
    have es : s0 ≠ 0 ∧ s0 = r1 := by
      by_cases hp : 0 ≤ p ∧ p < 6 ∧ 0 ≤ q ∧ q < 6
      · have h3 := (iP p.toNat (by omega)).1
        have h4 := (iP q.toNat (by omega)).1
        clear iP iC iK iD hT hI c1 c2 c3 d1 d2
        rcases h3 with h3 | h3 | h3 <;> rcases h4 with h4 | h4 | h4 <;> rcases f2 with f2 | f2 <;> omega
      · omega
    obtain ⟨c4, c5⟩ := d1 es.1
    subst c5
    exact ⟨hI, by omega⟩

