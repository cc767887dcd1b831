/-! BOTH SIDES ALIKE -/
theorem yset_nc {g : yM} {q j : Nat} {v : Int} {a b : Nat} (h : a ≠ q) : yset g q j v a b = g a b := if_neg (fun z => h z.1)
theorem yzr_nc {g : yM} {q a n x b : Nat} (h : x ≠ q) : yzr g q a n x b = g x b := if_neg (fun z => h z.1)
theorem ycpy_nc {g : yM} {q u sp dp n a b : Nat} (h : a ≠ q) : ycpy g q u sp dp n a b = g a b := if_neg (fun z => h z.1)
theorem yset_nj {g : yM} {q j : Nat} {v : Int} {b : Nat} (h : b ≠ j) : yset g q j v q b = g q b := if_neg (fun z => h z.2)
theorem yzr_in {g : yM} {q a n b : Nat} (h : a ≤ b ∧ b < a + n) : yzr g q a n q b = 0 := if_pos ⟨rfl, h⟩
theorem yzr_out {g : yM} {q a n b : Nat} (h : ¬ (a ≤ b ∧ b < a + n)) : yzr g q a n q b = g q b := if_neg (fun z => h z.2)
theorem ycpy_in {g : yM} {q u sp dp n b : Nat} (h : dp ≤ b ∧ b < dp + n) : ycpy g q u sp dp n q b = g u (sp + (b - dp)) := if_pos ⟨rfl, h⟩
theorem ycpy_out {g : yM} {q u sp dp n b : Nat} (h : ¬ (dp ≤ b ∧ b < dp + n)) : ycpy g q u sp dp n q b = g q b := if_neg (fun z => h z.2)
theorem yzr_ap (g : yM) (q a n x b : Nat) : yzr g q a n x b = if x = q ∧ (a ≤ b ∧ b < a + n) then 0 else g x b := rfl
theorem yI32 (z : Int) : -2147483648 ≤ z → z ≤ 2147483647 → (-2147483648 ≤ z ∧ z ≤ 2147483647) := fun a b => ⟨a, b⟩
theorem yac_element0 {g : yM} (hI : yInv g) : ∀ p : Int, 0 ≤ p → p < 6 → 0 ≤ g 42 (Int.toNat p) ∧ g 42 (Int.toNat p) ≤ 60 := by
  obtain ⟨hT, ⟨i1, i2, i3⟩, iP, -⟩ := hI
  intro p' h1 h2
  have h3 := (iP p'.toNat (by omega)).2.1
  exact h3
theorem yac_put0 {g : yM} (hI : yInv g) : ∀ p : Int, 0 ≤ p → p < 6 → 0 ≤ g 42 (Int.toNat p) ∧ g 42 (Int.toNat p) ≤ 60 := by
  obtain ⟨hT, ⟨i1, i2, i3⟩, iP, -⟩ := hI
  intro p' h1 h2
  have h3 := (iP p'.toNat (by omega)).2.1
  exact h3
theorem yac_shift0 {g : yM} (hI : yInv g) : ∀ p : Int, 0 ≤ p → p < 6 → 0 ≤ g 42 (Int.toNat p) ∧ g 42 (Int.toNat p) ≤ 60 := by
  obtain ⟨hT, ⟨i1, i2, i3⟩, iP, -⟩ := hI
  intro p' h1 h2
  have h3 := (iP p'.toNat (by omega)).2.1
  exact h3
theorem yac_rule0 {g : yM} (hI : yInv g) : 0 ≤ g 6 8 ∧ g 6 8 ≤ 20 := ⟨hI.2.1.1, hI.2.1.2.1⟩

