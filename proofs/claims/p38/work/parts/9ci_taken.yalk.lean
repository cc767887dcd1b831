/-! BOTH SIDES ALIKE: taken -/
theorem yam_taken0 {g : yM} {p a r1 : Int} (hI : yInv g) (a0 : (r1 = -1 ∧ ¬ (0 ≤ p ∧ p < 6 ∧ 0 ≤ a ∧ a < 8)) ∨ ((0 ≤ p ∧ p < 6 ∧ 0 ≤ a ∧ a < 8) ∧ ((r1 = -11 ∧ g 40 (Int.toNat p) = -1) ∨ (g 40 (Int.toNat p) ≠ -1 ∧ ((r1 = -12 ∧ ¬ ((g 40 (Int.toNat p) = -2 ∧ 0 ≤ g 41 (Int.toNat p) ∧ g 41 (Int.toNat p) < g 6 8) ∧ yund (g 30 (Int.toNat (g 41 (Int.toNat p)))) a)) ∨ (r1 = g 30 (Int.toNat (g 41 (Int.toNat p))) ∧ (g 40 (Int.toNat p) = -2 ∧ 0 ≤ g 41 (Int.toNat p) ∧ g 41 (Int.toNat p) < g 6 8) ∧ yund (g 30 (Int.toNat (g 41 (Int.toNat p)))) a)))))) : ∀ q : Nat, q < 20 → 0 ≤ g 114 q ∧ g 114 q < 8 := by
  intro q hq
  have := yTy.fA (j := q) hI.1 (List.mem_of_getElem? (i := 66) rfl) hq
  omega
theorem yal_taken {g : yM} {p a r1 r2 : Int} (hI : yInv g) (a0 : (r1 = -1 ∧ ¬ (0 ≤ p ∧ p < 6 ∧ 0 ≤ a ∧ a < 8)) ∨ ((0 ≤ p ∧ p < 6 ∧ 0 ≤ a ∧ a < 8) ∧ ((r1 = -11 ∧ g 40 (Int.toNat p) = -1) ∨ (g 40 (Int.toNat p) ≠ -1 ∧ ((r1 = -12 ∧ ¬ ((g 40 (Int.toNat p) = -2 ∧ 0 ≤ g 41 (Int.toNat p) ∧ g 41 (Int.toNat p) < g 6 8) ∧ yund (g 30 (Int.toNat (g 41 (Int.toNat p)))) a)) ∨ (r1 = g 30 (Int.toNat (g 41 (Int.toNat p))) ∧ (g 40 (Int.toNat p) = -2 ∧ 0 ≤ g 41 (Int.toNat p) ∧ g 41 (Int.toNat p) < g 6 8) ∧ yund (g 30 (Int.toNat (g 41 (Int.toNat p)))) a)))))) (b0 : (r2 = -1 ∧ ¬ (0 ≤ p ∧ p < 6 ∧ 0 ≤ a ∧ a < 8)) ∨ ((0 ≤ p ∧ p < 6 ∧ 0 ≤ a ∧ a < 8) ∧ ((r2 = -11 ∧ g 121 (Int.toNat p) < 0) ∨ (0 ≤ g 121 (Int.toNat p) ∧ ((r2 = -12 ∧ (20 ≤ g 121 (Int.toNat p) ∨ ¬ yund (g 114 (Int.toNat (g 121 (Int.toNat p)))) a)) ∨ (r2 = g 114 (Int.toNat (g 121 (Int.toNat p))) ∧ g 121 (Int.toNat p) < 20 ∧ yund (g 114 (Int.toNat (g 121 (Int.toNat p)))) a)))))) : r1 = r2 := by
  obtain ⟨hT, ⟨i1, i2, i3⟩, iP, iC, iK, iD⟩ := id hI
  generalize hU : (yund (g 30 (Int.toNat (g 41 (Int.toNat p)))) a) = U at a0
  generalize hV : (yund (g 114 (Int.toNat (g 121 (Int.toNat p)))) a) = V at b0
  by_cases hp : 0 ≤ p ∧ p < 6
  · rcases (iP (Int.toNat p) (by omega)).1 with h3 | h3 | h3
    · clear hU hV
      rcases a0 with ⟨x1, x2⟩ | ⟨x2, ⟨x1, x3⟩ | ⟨x3, -⟩⟩ <;> rcases b0 with ⟨y1, y2⟩ | ⟨y2, ⟨y1, y3⟩ | ⟨y3, -⟩⟩ <;> omega
    · obtain ⟨h4, h5, h6, h7⟩ := h3
      have h8 := iK (Int.toNat (g 121 (Int.toNat p))) (by omega)
      rw [h8] at b0 hV
      rw [h7] at a0 hU
      rw [hU] at hV
      clear hU
      subst hV
      rcases a0 with ⟨x1, x2⟩ | ⟨x2, ⟨x1, x3⟩ | ⟨x3, ⟨x1, x4⟩ | ⟨x1, x4, u⟩⟩⟩
      · rcases b0 with ⟨y1, y2⟩ | ⟨y2, y3⟩
        · omega
        · exact absurd y2 x2
      · omega
      · rcases b0 with ⟨y1, y2⟩ | ⟨y2, ⟨y1, y3⟩ | ⟨y3, ⟨y1, y4⟩ | ⟨y1, y4, v⟩⟩⟩
        · exact absurd x2 y2
        · omega
        · omega
        · exact absurd ⟨⟨by omega, by omega, by omega⟩, v⟩ x4
      · rcases b0 with ⟨y1, y2⟩ | ⟨y2, ⟨y1, y3⟩ | ⟨y3, ⟨y1, y4⟩ | ⟨y1, y4, v⟩⟩⟩
        · exact absurd x2 y2
        · omega
        · rcases y4 with y4 | y4
          · omega
          · exact absurd u y4
        · omega
    · clear hU hV
      rcases a0 with ⟨x1, x2⟩ | ⟨x2, ⟨x1, x3⟩ | ⟨x3, ⟨x1, -⟩ | ⟨x1, x4, -⟩⟩⟩ <;> rcases b0 with ⟨y1, y2⟩ | ⟨y2, ⟨y1, y3⟩ | ⟨y3, ⟨y1, -⟩ | ⟨y1, y4, -⟩⟩⟩ <;> omega
  · clear hU hV
    rcases a0 with ⟨x1, x2⟩ | ⟨x2, -⟩ <;> rcases b0 with ⟨y1, y2⟩ | ⟨y2, -⟩ <;> omega
