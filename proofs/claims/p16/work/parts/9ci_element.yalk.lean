/-! BOTH SIDES ALIKE: element -/
theorem yam_element0 {g : yM} {p i r1 : Int} (hI : yInv g) (a0 : ∃ r0 : Int, ((r0 = -1 ∧ ¬ (0 ≤ p ∧ p < 6)) ∨ ((0 ≤ p ∧ p < 6) ∧ ((r0 = -11 ∧ g 40 (Int.toNat p) = -1) ∨ (g 40 (Int.toNat p) ≠ -1 ∧ ((r0 = -12 ∧ g 40 (Int.toNat p) = -2) ∨ (g 40 (Int.toNat p) ≠ -2 ∧ ((r0 = -13 ∧ (i < 0 ∨ g 42 (Int.toNat p) ≤ i)) ∨ (r0 = 0 ∧ 0 ≤ i ∧ i < g 42 (Int.toNat p))))))))) ∧ (r0 = 0 → r1 = g (44 + Int.toNat p) (Int.toNat i)) ∧ (r0 ≠ 0 → r1 = -9223372036854775808)) : ∀ p : Int, 0 ≤ p → p < 6 → 0 ≤ g 122 (Int.toNat p) ∧ g 122 (Int.toNat p) ≤ 60 := by
  obtain ⟨hT, -, iP, -⟩ := hI
  intro p' h1 h2
  have h3 := iP p'.toNat (by omega)
  omega
theorem yal_element {g : yM} {p i r1 r2 : Int} (hI : yInv g) (a0 : ∃ r0 : Int, ((r0 = -1 ∧ ¬ (0 ≤ p ∧ p < 6)) ∨ ((0 ≤ p ∧ p < 6) ∧ ((r0 = -11 ∧ g 40 (Int.toNat p) = -1) ∨ (g 40 (Int.toNat p) ≠ -1 ∧ ((r0 = -12 ∧ g 40 (Int.toNat p) = -2) ∨ (g 40 (Int.toNat p) ≠ -2 ∧ ((r0 = -13 ∧ (i < 0 ∨ g 42 (Int.toNat p) ≤ i)) ∨ (r0 = 0 ∧ 0 ≤ i ∧ i < g 42 (Int.toNat p))))))))) ∧ (r0 = 0 → r1 = g (44 + Int.toNat p) (Int.toNat i)) ∧ (r0 ≠ 0 → r1 = -9223372036854775808)) (b0 : ∃ r0 : Int, ((r0 = -1 ∧ ¬ (0 ≤ p ∧ p < 6)) ∨ ((0 ≤ p ∧ p < 6) ∧ ((r0 = -11 ∧ g 121 (Int.toNat p) < 0) ∨ (0 ≤ g 121 (Int.toNat p) ∧ ((r0 = -12 ∧ g 121 (Int.toNat p) < 20) ∨ (20 ≤ g 121 (Int.toNat p) ∧ ((r0 = -13 ∧ (i < 0 ∨ g 122 (Int.toNat p) ≤ i)) ∨ (r0 = 0 ∧ 0 ≤ i ∧ i < g 122 (Int.toNat p))))))))) ∧ (r0 = 0 → r2 = g 123 (Int.toNat (60 * p + i))) ∧ (r0 ≠ 0 → r2 = -9223372036854775808)) : r1 = r2 := by
  obtain ⟨hT, ⟨i1, i2, i3⟩, iP, iC, iK, iD⟩ := id hI
  obtain ⟨r0, c0, c1, c2⟩ := a0
  obtain ⟨s0, d0, d1, d2⟩ := b0
  have es : s0 = r0 := by
    by_cases hp : 0 ≤ p ∧ p < 6
    · have h3 := iP p.toNat (by omega)
      omega
    · omega
  subst es
  by_cases h0 : s0 = 0
  · rw [c1 h0, d1 h0]
    have hp : 0 ≤ p ∧ p < 6 := by omega
    have h3 := iP p.toNat (by omega)
    have h4 := iC p.toNat i.toNat (by omega) (by omega)
    rw [show 60 * p.toNat + i.toNat = Int.toNat (60 * p + i) by omega] at h4
    exact h4.symm
  · rw [c2 h0, d2 h0]

