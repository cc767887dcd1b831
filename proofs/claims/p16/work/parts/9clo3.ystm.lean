/-! THE ONES AHEAD, THE REFERENCE -/
/-- the one ahead of the i-th among the first n, out of the reference's rows -/
def yMg (g : yM) (i : Nat) : Nat → Int
  | 0 => -1
  | n + 1 => if (g 101 n = g 101 i ∧ g 103 n = g 103 i ∧ (g 102 n < g 102 i ∨ (g 102 n = g 102 i ∧ n < i))) ∧ (yMg g i n < 0 ∨ (g 101 (Int.toNat (yMg g i n)) = g 101 n ∧ g 103 (Int.toNat (yMg g i n)) = g 103 n ∧ (g 102 (Int.toNat (yMg g i n)) < g 102 n ∨ (g 102 (Int.toNat (yMg g i n)) = g 102 n ∧ yMg g i n < n)))) then (n : Int) else yMg g i n
theorem yMg_1 {g : yM} {i n : Nat} (h : (g 101 n = g 101 i ∧ g 103 n = g 103 i ∧ (g 102 n < g 102 i ∨ (g 102 n = g 102 i ∧ n < i))) ∧ (yMg g i n < 0 ∨ (g 101 (Int.toNat (yMg g i n)) = g 101 n ∧ g 103 (Int.toNat (yMg g i n)) = g 103 n ∧ (g 102 (Int.toNat (yMg g i n)) < g 102 n ∨ (g 102 (Int.toNat (yMg g i n)) = g 102 n ∧ yMg g i n < n))))) : yMg g i (n + 1) = n := if_pos h
theorem yMg_0 {g : yM} {i n : Nat} (h : ¬ ((g 101 n = g 101 i ∧ g 103 n = g 103 i ∧ (g 102 n < g 102 i ∨ (g 102 n = g 102 i ∧ n < i))) ∧ (yMg g i n < 0 ∨ (g 101 (Int.toNat (yMg g i n)) = g 101 n ∧ g 103 (Int.toNat (yMg g i n)) = g 103 n ∧ (g 102 (Int.toNat (yMg g i n)) < g 102 n ∨ (g 102 (Int.toNat (yMg g i n)) = g 102 n ∧ yMg g i n < n)))))) : yMg g i (n + 1) = yMg g i n := if_neg h
theorem yMg_b {g : yM} {i : Nat} : ∀ n : Nat, (0 ≤ yMg g i n ∧ yMg g i n < n) ∨ yMg g i n = -1
  | 0 => Or.inr rfl
  | n + 1 => by
    have ih := @yMg_b g i n
    by_cases h : (g 101 n = g 101 i ∧ g 103 n = g 103 i ∧ (g 102 n < g 102 i ∨ (g 102 n = g 102 i ∧ n < i))) ∧ (yMg g i n < 0 ∨ (g 101 (Int.toNat (yMg g i n)) = g 101 n ∧ g 103 (Int.toNat (yMg g i n)) = g 103 n ∧ (g 102 (Int.toNat (yMg g i n)) < g 102 n ∨ (g 102 (Int.toNat (yMg g i n)) = g 102 n ∧ yMg g i n < n))))
    · rw [yMg_1 h]; omega
    · rw [yMg_0 h]; omega
theorem yAg_d {g : yM} {i : Nat} : ∀ n : Nat, yAg g i n ≠ -1 → g (50 + Int.toNat (yAg g i n)) 0 = g (50 + i) 0 ∧ g (50 + Int.toNat (yAg g i n)) 3 = g (50 + i) 3
  | 0, h => absurd rfl h
  | n + 1, h => by
    have ih := @yAg_d g i n
    by_cases c : (g (50 + n) 0 = g (50 + i) 0 ∧ g (50 + n) 3 = g (50 + i) 3 ∧ (g (50 + n) 2 < g (50 + i) 2 ∨ (g (50 + n) 2 = g (50 + i) 2 ∧ n < i))) ∧ (yAg g i n = -1 ∨ (g (50 + Int.toNat (yAg g i n)) 2 < g (50 + n) 2 ∨ (g (50 + Int.toNat (yAg g i n)) 2 = g (50 + n) 2 ∧ yAg g i n < n)))
    · rw [yAg_1 c, Int.toNat_natCast]
      exact ⟨c.1.1, c.1.2.1⟩
    · rw [yAg_0 c] at h ⊢
      exact ih h
/-- both find the same one -/
theorem yAg_al {g : yM} {z : Nat} (h : ∀ n : Nat, n < z → g 101 n = g (50 + n) 0 ∧ g 102 n = g (50 + n) 2 ∧ g 103 n = g (50 + n) 3) {i : Nat} (hi : i < z) : ∀ n : Nat, n ≤ z → yMg g i n = yAg g i n
  | 0, _ => rfl
  | n + 1, hn => by
    have ih := yAg_al h hi n (by omega)
    obtain ⟨a1, a2, a3⟩ := h i hi
    obtain ⟨b1, b2, b3⟩ := h n (by omega)
    have hb := @yAg_b g i n
    have hd := @yAg_d g i n
    by_cases e : yAg g i n = -1
    · by_cases c : (g (50 + n) 0 = g (50 + i) 0 ∧ g (50 + n) 3 = g (50 + i) 3 ∧ (g (50 + n) 2 < g (50 + i) 2 ∨ (g (50 + n) 2 = g (50 + i) 2 ∧ n < i)))
      · rw [yAg_1 ⟨c, Or.inl e⟩, yMg_1 ⟨by omega, Or.inl (by omega)⟩]
      · rw [yAg_0 (fun z => c z.1), yMg_0 (fun z => c (by have := z.1; omega)), ih]
    · obtain ⟨d1, d2⟩ := hd e
      obtain ⟨c1, c2, c3⟩ := h (Int.toNat (yAg g i n)) (by omega)
      by_cases c : (g (50 + n) 0 = g (50 + i) 0 ∧ g (50 + n) 3 = g (50 + i) 3 ∧ (g (50 + n) 2 < g (50 + i) 2 ∨ (g (50 + n) 2 = g (50 + i) 2 ∧ n < i))) ∧ (yAg g i n = -1 ∨ (g (50 + Int.toNat (yAg g i n)) 2 < g (50 + n) 2 ∨ (g (50 + Int.toNat (yAg g i n)) 2 = g (50 + n) 2 ∧ yAg g i n < n)))
      · rw [yAg_1 c, yMg_1 (by rw [ih]; omega)]
      · rw [yAg_0 c, yMg_0 (by rw [ih]; omega), ih]
def yP_GA : yPT := fun as g K => ∃ (a b : Int), as = [(3, 90), (1, a), (1, b)] ∧ (0 ≤ a ∧ a < 40) ∧ (0 ≤ b ∧ b < 40) ∧ (∀ (r : Int), ((r = 1 ∧ (g 101 (Int.toNat a) = g 101 (Int.toNat b) ∧ g 103 (Int.toNat a) = g 103 (Int.toNat b) ∧ (g 102 (Int.toNat a) < g 102 (Int.toNat b) ∨ (g 102 (Int.toNat a) = g 102 (Int.toNat b) ∧ a < b)))) ∨ (r = 0 ∧ ¬ (g 101 (Int.toNat a) = g 101 (Int.toNat b) ∧ g 103 (Int.toNat a) = g 103 (Int.toNat b) ∧ (g 102 (Int.toNat a) < g 102 (Int.toNat b) ∨ (g 102 (Int.toNat a) = g 102 (Int.toNat b) ∧ a < b))))) → K [(1, r)] g)
def yC_GA : yC := (160, (1, 40), yP_GA)
set_option maxRecDepth 8000 in
theorem yv_GA {K : List yV → yM → Prop} {Y : yNx} {g : yM} {a b : Int} (hY : yCl zpD160 (zpZ, zpRS, zpP12, zpMT, [], (1, 40), 2) K Y) (hr_a : -2147483648 ≤ a ∧ a ≤ 2147483647) (hr_b : -2147483648 ≤ b ∧ b ≤ 2147483647) (hp0 : 0 ≤ a ∧ a < 40) (hp1 : 0 ≤ b ∧ b < 40) (hK : ∀ (r : Int), ((r = 1 ∧ (g 101 (Int.toNat a) = g 101 (Int.toNat b) ∧ g 103 (Int.toNat a) = g 103 (Int.toNat b) ∧ (g 102 (Int.toNat a) < g 102 (Int.toNat b) ∨ (g 102 (Int.toNat a) = g 102 (Int.toNat b) ∧ a < b)))) ∨ (r = 0 ∧ ¬ (g 101 (Int.toNat a) = g 101 (Int.toNat b) ∧ g 103 (Int.toNat a) = g 103 (Int.toNat b) ∧ (g 102 (Int.toNat a) < g 102 (Int.toNat b) ∨ (g 102 (Int.toNat a) = g 102 (Int.toNat b) ∧ a < b))))) → K [(1, r)] g) : Y 0 [(3, 90), (1, a), (1, b)] [] g := by
  refine yrun_ok (sp := fun pc => false) hY 42 0 _ [] g ?_
  show (((0 : Int) ≤ a ∧ a < ((40 : Nat) : Int)) ∧ (((0 : Int) ≤ b ∧ b < ((40 : Nat) : Int)) ∧ (((g 101 (Int.toNat a)) ≠ (g 101 (Int.toNat b)) → (((0 : Int) ≤ 0 ∧ 0 ≤ (1 : Int)) ∧ (K [(1, 0)] g))) ∧ (¬ ((g 101 (Int.toNat a)) ≠ (g 101 (Int.toNat b))) → (((0 : Int) ≤ a ∧ a < ((40 : Nat) : Int)) ∧ (((0 : Int) ≤ b ∧ b < ((40 : Nat) : Int)) ∧ (((g 103 (Int.toNat a)) ≠ (g 103 (Int.toNat b)) → (((0 : Int) ≤ 0 ∧ 0 ≤ (1 : Int)) ∧ (K [(1, 0)] g))) ∧ (¬ ((g 103 (Int.toNat a)) ≠ (g 103 (Int.toNat b))) → (((0 : Int) ≤ a ∧ a < ((40 : Nat) : Int)) ∧ (((0 : Int) ≤ b ∧ b < ((40 : Nat) : Int)) ∧ (((g 102 (Int.toNat a)) < (g 102 (Int.toNat b)) → (((0 : Int) ≤ 1 ∧ 1 ≤ (1 : Int)) ∧ (K [(1, 1)] g))) ∧ (¬ ((g 102 (Int.toNat a)) < (g 102 (Int.toNat b))) → (((0 : Int) ≤ a ∧ a < ((40 : Nat) : Int)) ∧ (((0 : Int) ≤ b ∧ b < ((40 : Nat) : Int)) ∧ (((g 102 (Int.toNat a)) ≠ (g 102 (Int.toNat b)) → (((0 : Int) ≤ 0 ∧ 0 ≤ (1 : Int)) ∧ (K [(1, 0)] g))) ∧ (¬ ((g 102 (Int.toNat a)) ≠ (g 102 (Int.toNat b))) → ((b ≤ a → (((0 : Int) ≤ 0 ∧ 0 ≤ (1 : Int)) ∧ (K [(1, 0)] g))) ∧ (¬ (b ≤ a) → (((0 : Int) ≤ 1 ∧ 1 ≤ (1 : Int)) ∧ (K [(1, 1)] g))))))))))))))))))))
  refine ⟨(by omega), ?_⟩
  refine ⟨(by omega), ?_⟩
  refine ⟨fun h1 => ?_, fun h1 => ?_⟩
  · refine ⟨(by omega), ?_⟩
    exact hK _ (by first | omega | exact fun _ => rfl | exact fun h => absurd h (by omega) | exact rfl | exact fun _ _ => rfl | exact fun h _ => absurd h (by omega) | exact fun _ h => absurd h (by omega))
  · refine ⟨(by omega), ?_⟩
    refine ⟨(by omega), ?_⟩
    refine ⟨fun h2 => ?_, fun h2 => ?_⟩
    · refine ⟨(by omega), ?_⟩
      exact hK _ (by first | omega | exact fun _ => rfl | exact fun h => absurd h (by omega) | exact rfl | exact fun _ _ => rfl | exact fun h _ => absurd h (by omega) | exact fun _ h => absurd h (by omega))
    · refine ⟨(by omega), ?_⟩
      refine ⟨(by omega), ?_⟩
      refine ⟨fun h3 => ?_, fun h3 => ?_⟩
      · refine ⟨(by omega), ?_⟩
        exact hK _ (by first | omega | exact fun _ => rfl | exact fun h => absurd h (by omega) | exact rfl | exact fun _ _ => rfl | exact fun h _ => absurd h (by omega) | exact fun _ h => absurd h (by omega))
      · refine ⟨(by omega), ?_⟩
        refine ⟨(by omega), ?_⟩
        refine ⟨fun h4 => ?_, fun h4 => ?_⟩
        · refine ⟨(by omega), ?_⟩
          exact hK _ (by first | omega | exact fun _ => rfl | exact fun h => absurd h (by omega) | exact rfl | exact fun _ _ => rfl | exact fun h _ => absurd h (by omega) | exact fun _ h => absurd h (by omega))
        · refine ⟨fun h5 => ?_, fun h5 => ?_⟩
          · refine ⟨(by omega), ?_⟩
            exact hK _ (by first | omega | exact fun _ => rfl | exact fun h => absurd h (by omega) | exact rfl | exact fun _ _ => rfl | exact fun h _ => absurd h (by omega) | exact fun _ h => absurd h (by omega))
          · refine ⟨(by omega), ?_⟩
            exact hK _ (by first | omega | exact fun _ => rfl | exact fun h => absurd h (by omega) | exact rfl | exact fun _ _ => rfl | exact fun h _ => absurd h (by omega) | exact fun _ h => absurd h (by omega))
theorem yM_GA {l : Launch} {Ts : List Cond} {cl : List vw_C} {RO : zRO} (H : zHyp Ts cl RO) : yMet l Ts cl zpZ RO zpMT yC_GA := ymet_of2 H.1 H.2.1 zpDj H.2.2.1 yRb H.p12 ymets_nil (zrc2 rfl) (plainFor_of_name zpy12) zpDk160 (fun as g K Y h hA hY => by
  obtain ⟨a, b, rfl, hp0, hp1, hK⟩ := h
  exact yv_GA hY (yAr1 hA (by simp)) (yAr1 hA (by simp)) hp0 hp1 hK)
def yP_AHO : yPT := fun as g K => ∃ (w : Int), as = [(3, 90), (1, w)] ∧ (0 ≤ w ∧ w < 40) ∧ (0 ≤ g 90 22 ∧ g 90 22 ≤ 40) ∧ (∀ (r : Int), (r = yMg g (Int.toNat w) (Int.toNat (g 90 22))) → K [(1, r)] g)
def yC_AHO : yC := (134, (2, 62), yP_AHO)
set_option maxRecDepth 8000 in
theorem yl_AHO {K : List yV → yM → Prop} {Y : yNx} {g : yM} {w : Int} (hY : yCl zpD134 (zpZ, zpRS, zpP12, zpMT, [yC_GA], (2, 62), 1) K Y) (hw : 0 ≤ w ∧ w < 40) (hs : 0 ≤ g 90 22 ∧ g 90 22 ≤ 40) (hK : K [(1, yMg g (Int.toNat w) (Int.toNat (g 90 22)))] g) : ∀ (d : Nat) (i : Int), i + d = g 90 22 → 0 ≤ i → Y 4 [(3, 90), (1, w), (1, yMg g (Int.toNat w) (Int.toNat i)), (1, i)] [] g := by
  intro d
  induction d with
  | zero =>
    intro i hd h0
    refine yrun_ok (sp := fun pc => Nat.beq pc 4) hY 21 4 _ [] g ?_
    show (((g 90 22) ≤ i → (K [(1, yMg g (Int.toNat w) (Int.toNat i))] g)) ∧ (¬ ((g 90 22) ≤ i) → (∃ (a2 b3 : Int), [(3, 90), (1, i), (1, w)] = [(3, 90), (1, a2), (1, b3)] ∧ (0 ≤ a2 ∧ a2 < 40) ∧ (0 ≤ b3 ∧ b3 < 40) ∧ (∀ (r4 : Int), ((r4 = 1 ∧ (g 101 (Int.toNat a2) = g 101 (Int.toNat b3) ∧ g 103 (Int.toNat a2) = g 103 (Int.toNat b3) ∧ (g 102 (Int.toNat a2) < g 102 (Int.toNat b3) ∨ (g 102 (Int.toNat a2) = g 102 (Int.toNat b3) ∧ a2 < b3)))) ∨ (r4 = 0 ∧ ¬ (g 101 (Int.toNat a2) = g 101 (Int.toNat b3) ∧ g 103 (Int.toNat a2) = g 103 (Int.toNat b3) ∧ (g 102 (Int.toNat a2) < g 102 (Int.toNat b3) ∨ (g 102 (Int.toNat a2) = g 102 (Int.toNat b3) ∧ a2 < b3))))) → ((r4 = 0 → (Y 4 [(3, 90), (1, w), (1, yMg g (Int.toNat w) (Int.toNat i)), (1, (yw (i + 1)))] [] g)) ∧ (¬ (r4 = 0) → ((yMg g (Int.toNat w) (Int.toNat i) < 0 → (Y 4 [(3, 90), (1, w), (1, i), (1, (yw (i + 1)))] [] g)) ∧ (¬ (yMg g (Int.toNat w) (Int.toNat i) < 0) → (∃ (a8 b9 : Int), [(3, 90), (1, yMg g (Int.toNat w) (Int.toNat i)), (1, i)] = [(3, 90), (1, a8), (1, b9)] ∧ (0 ≤ a8 ∧ a8 < 40) ∧ (0 ≤ b9 ∧ b9 < 40) ∧ (∀ (r10 : Int), ((r10 = 1 ∧ (g 101 (Int.toNat a8) = g 101 (Int.toNat b9) ∧ g 103 (Int.toNat a8) = g 103 (Int.toNat b9) ∧ (g 102 (Int.toNat a8) < g 102 (Int.toNat b9) ∨ (g 102 (Int.toNat a8) = g 102 (Int.toNat b9) ∧ a8 < b9)))) ∨ (r10 = 0 ∧ ¬ (g 101 (Int.toNat a8) = g 101 (Int.toNat b9) ∧ g 103 (Int.toNat a8) = g 103 (Int.toNat b9) ∧ (g 102 (Int.toNat a8) < g 102 (Int.toNat b9) ∨ (g 102 (Int.toNat a8) = g 102 (Int.toNat b9) ∧ a8 < b9))))) → ((r10 = 0 → (Y 4 [(3, 90), (1, w), (1, yMg g (Int.toNat w) (Int.toNat i)), (1, (yw (i + 1)))] [] g)) ∧ (¬ (r10 = 0) → (Y 4 [(3, 90), (1, w), (1, i), (1, (yw (i + 1)))] [] g)))))))))))))
    refine ⟨fun h1 => ?_, fun h1 => ?_⟩
    · rw [show i = g 90 22 by omega]
      exact hK
    · refine ⟨_, _, rfl, (by have hb := @yMg_b g (Int.toNat w) (Int.toNat i); omega), (by have hb := @yMg_b g (Int.toNat w) (Int.toNat i); omega), ?_⟩
      intro r4 p50
      refine ⟨fun h6 => ?_, fun h6 => ?_⟩
      · omega
      · refine ⟨fun h7 => ?_, fun h7 => ?_⟩
        · omega
        · refine ⟨_, _, rfl, (by have hb := @yMg_b g (Int.toNat w) (Int.toNat i); omega), (by have hb := @yMg_b g (Int.toNat w) (Int.toNat i); omega), ?_⟩
          intro r10 p110
          refine ⟨fun h12 => ?_, fun h12 => ?_⟩
          · omega
          · omega
  | succ d ih =>
    intro i hd h0
    refine yrun_ok (sp := fun pc => Nat.beq pc 4) hY 21 4 _ [] g ?_
    show (((g 90 22) ≤ i → (K [(1, yMg g (Int.toNat w) (Int.toNat i))] g)) ∧ (¬ ((g 90 22) ≤ i) → (∃ (a2 b3 : Int), [(3, 90), (1, i), (1, w)] = [(3, 90), (1, a2), (1, b3)] ∧ (0 ≤ a2 ∧ a2 < 40) ∧ (0 ≤ b3 ∧ b3 < 40) ∧ (∀ (r4 : Int), ((r4 = 1 ∧ (g 101 (Int.toNat a2) = g 101 (Int.toNat b3) ∧ g 103 (Int.toNat a2) = g 103 (Int.toNat b3) ∧ (g 102 (Int.toNat a2) < g 102 (Int.toNat b3) ∨ (g 102 (Int.toNat a2) = g 102 (Int.toNat b3) ∧ a2 < b3)))) ∨ (r4 = 0 ∧ ¬ (g 101 (Int.toNat a2) = g 101 (Int.toNat b3) ∧ g 103 (Int.toNat a2) = g 103 (Int.toNat b3) ∧ (g 102 (Int.toNat a2) < g 102 (Int.toNat b3) ∨ (g 102 (Int.toNat a2) = g 102 (Int.toNat b3) ∧ a2 < b3))))) → ((r4 = 0 → (Y 4 [(3, 90), (1, w), (1, yMg g (Int.toNat w) (Int.toNat i)), (1, (yw (i + 1)))] [] g)) ∧ (¬ (r4 = 0) → ((yMg g (Int.toNat w) (Int.toNat i) < 0 → (Y 4 [(3, 90), (1, w), (1, i), (1, (yw (i + 1)))] [] g)) ∧ (¬ (yMg g (Int.toNat w) (Int.toNat i) < 0) → (∃ (a8 b9 : Int), [(3, 90), (1, yMg g (Int.toNat w) (Int.toNat i)), (1, i)] = [(3, 90), (1, a8), (1, b9)] ∧ (0 ≤ a8 ∧ a8 < 40) ∧ (0 ≤ b9 ∧ b9 < 40) ∧ (∀ (r10 : Int), ((r10 = 1 ∧ (g 101 (Int.toNat a8) = g 101 (Int.toNat b9) ∧ g 103 (Int.toNat a8) = g 103 (Int.toNat b9) ∧ (g 102 (Int.toNat a8) < g 102 (Int.toNat b9) ∨ (g 102 (Int.toNat a8) = g 102 (Int.toNat b9) ∧ a8 < b9)))) ∨ (r10 = 0 ∧ ¬ (g 101 (Int.toNat a8) = g 101 (Int.toNat b9) ∧ g 103 (Int.toNat a8) = g 103 (Int.toNat b9) ∧ (g 102 (Int.toNat a8) < g 102 (Int.toNat b9) ∨ (g 102 (Int.toNat a8) = g 102 (Int.toNat b9) ∧ a8 < b9))))) → ((r10 = 0 → (Y 4 [(3, 90), (1, w), (1, yMg g (Int.toNat w) (Int.toNat i)), (1, (yw (i + 1)))] [] g)) ∧ (¬ (r10 = 0) → (Y 4 [(3, 90), (1, w), (1, i), (1, (yw (i + 1)))] [] g)))))))))))))
    refine ⟨fun h1 => ?_, fun h1 => ?_⟩
    · omega
    · refine ⟨_, _, rfl, (by have hb := @yMg_b g (Int.toNat w) (Int.toNat i); omega), (by have hb := @yMg_b g (Int.toNat w) (Int.toNat i); omega), ?_⟩
      intro r4 p50
      refine ⟨fun h6 => ?_, fun h6 => ?_⟩
      · have hb := @yMg_b g (Int.toNat w) (Int.toNat i)
        have yi : yw (i + 1) = i + 1 := yw_s (i + 1) (by omega) (by omega)
        have e : yMg g (Int.toNat w) (Int.toNat (i + 1)) = yMg g (Int.toNat w) (Int.toNat i) := by
          rw [show Int.toNat (i + 1) = Int.toNat i + 1 by omega]
          exact yMg_0 (by omega)
        have h9 := ih (i + 1) (by omega) (by omega)
        rw [e] at h9
        rw [yi]
        exact h9
      · refine ⟨fun h7 => ?_, fun h7 => ?_⟩
        · have hb := @yMg_b g (Int.toNat w) (Int.toNat i)
          have yi : yw (i + 1) = i + 1 := yw_s (i + 1) (by omega) (by omega)
          have e : yMg g (Int.toNat w) (Int.toNat (i + 1)) = i := by
            rw [show Int.toNat (i + 1) = Int.toNat i + 1 by omega]
            exact (yMg_1 (by omega)).trans (by omega)
          have h9 := ih (i + 1) (by omega) (by omega)
          rw [e] at h9
          rw [yi]
          exact h9
        · refine ⟨_, _, rfl, (by have hb := @yMg_b g (Int.toNat w) (Int.toNat i); omega), (by have hb := @yMg_b g (Int.toNat w) (Int.toNat i); omega), ?_⟩
          intro r10 p110
          refine ⟨fun h12 => ?_, fun h12 => ?_⟩
          · have hb := @yMg_b g (Int.toNat w) (Int.toNat i)
            have yi : yw (i + 1) = i + 1 := yw_s (i + 1) (by omega) (by omega)
            have e : yMg g (Int.toNat w) (Int.toNat (i + 1)) = yMg g (Int.toNat w) (Int.toNat i) := by
              rw [show Int.toNat (i + 1) = Int.toNat i + 1 by omega]
              exact yMg_0 (by omega)
            have h9 := ih (i + 1) (by omega) (by omega)
            rw [e] at h9
            rw [yi]
            exact h9
          · have hb := @yMg_b g (Int.toNat w) (Int.toNat i)
            have yi : yw (i + 1) = i + 1 := yw_s (i + 1) (by omega) (by omega)
            have e : yMg g (Int.toNat w) (Int.toNat (i + 1)) = i := by
              rw [show Int.toNat (i + 1) = Int.toNat i + 1 by omega]
              exact (yMg_1 (by omega)).trans (by omega)
            have h9 := ih (i + 1) (by omega) (by omega)
            rw [e] at h9
            rw [yi]
            exact h9
set_option maxRecDepth 8000 in
theorem yv_AHO {K : List yV → yM → Prop} {Y : yNx} {g : yM} {w : Int} (hY : yCl zpD134 (zpZ, zpRS, zpP12, zpMT, [yC_GA], (2, 62), 1) K Y) (hr_w : -2147483648 ≤ w ∧ w ≤ 2147483647) (hp0 : 0 ≤ w ∧ w < 40) (hp1 : 0 ≤ g 90 22 ∧ g 90 22 ≤ 40) (hK : ∀ (r : Int), (r = yMg g (Int.toNat w) (Int.toNat (g 90 22))) → K [(1, r)] g) : Y 0 [(3, 90), (1, w), (0, 0), (0, 0)] [] g := by
  refine yrun_ok (sp := fun pc => Nat.beq pc 4) hY 5 0 _ [] g ?_
  show (Y 4 [(3, 90), (1, w), (1, (-1)), (1, 0)] [] g)
  exact yl_AHO hY hp0 hp1 (hK _ rfl) (Int.toNat (g 90 22)) 0 (by omega) (by decide)
theorem yM_AHO {l : Launch} {Ts : List Cond} {cl : List vw_C} {RO : zRO} (H : zHyp Ts cl RO) : yMet l Ts cl zpZ RO zpMT yC_AHO := ymet_of2 H.1 H.2.1 zpDj H.2.2.1 yRb H.p12 (ymets_cons (yM_GA H) ymets_nil) (zrc1 rfl) (plainFor_of_name zpy12) zpDk134 (fun as g K Y h hA hY => by
  obtain ⟨w, rfl, hp0, hp1, hK⟩ := h
  exact yv_AHO hY (yAr1 hA (by simp)) hp0 hp1 hK)
def yMl (g : yM) (c : Nat) : Int := yw (g 102 c - g 91 (Int.toNat (yw (40 + g 104 c))))
def yMe (g : yM) (c : Nat) (a : Int) : Int := ymx (if 0 ≤ a then ymx (ymx (yw (g 91 c - g 91 52)) (yw (g 102 c - g 91 (Int.toNat (yw (46 + g 104 c)))))) (g 102 (Int.toNat a)) else ymx (yw (g 91 c - g 91 52)) (yw (g 102 c - g 91 (Int.toNat (yw (46 + g 104 c)))))) 0
theorem yMe_0 (g : yM) (c : Nat) (a : Int) : 0 ≤ yMe g c a := by
  have key : ∀ z : Int, 0 ≤ ymx z 0 := fun z => by
    unfold ymx
    split <;> omega
  exact key _
/-- is someone away at a minute -/
def yaM (g : yM) (d t : Int) : Nat → Int
  | 0 => 0
  | n + 1 => if g 95 n = d ∧ g 96 n ≤ t ∧ t ≤ g 97 n then 1 else yaM g d t n
theorem yaM_1 {g : yM} {d t : Int} {n : Nat} (h : g 95 n = d ∧ g 96 n ≤ t ∧ t ≤ g 97 n) : yaM g d t (n + 1) = 1 := if_pos h
theorem yaM_0 {g : yM} {d t : Int} {n : Nat} (h : ¬ (g 95 n = d ∧ g 96 n ≤ t ∧ t ≤ g 97 n)) : yaM g d t (n + 1) = yaM g d t n := if_neg h
theorem yaM_b {g : yM} {d t : Int} : ∀ n : Nat, yaM g d t n = 0 ∨ yaM g d t n = 1
  | 0 => Or.inl rfl
  | n + 1 => by
    by_cases h : g 95 n = d ∧ g 96 n ≤ t ∧ t ≤ g 97 n
    · exact Or.inr (yaM_1 h)
    · rw [yaM_0 h]; exact yaM_b n
theorem yaM_up {g : yM} {d t : Int} {k : Nat} (h : yaM g d t k = 1) : ∀ n : Nat, k ≤ n → yaM g d t n = 1
  | 0, hn => by
    have : k = 0 := by omega
    subst this
    exact h
  | n + 1, hn => by
    by_cases e : k = n + 1
    · subst e
      exact h
    · have ih := yaM_up h n (by omega)
      by_cases c : g 95 n = d ∧ g 96 n ≤ t ∧ t ≤ g 97 n
      · exact yaM_1 c
      · rw [yaM_0 c]; exact ih
/-- the first start behind the minutes that are gone through -/
def yQm (g : yM) (d e : Int) : Nat → Int
  | 0 => e
  | k + 1 => if yaM g d (e + k) (Int.toNat (g 90 6)) = 1 then e + k + 1 else yQm g d e k
theorem yQm_1 {g : yM} {d e : Int} {k : Nat} (h : yaM g d (e + k) (Int.toNat (g 90 6)) = 1) : yQm g d e (k + 1) = e + k + 1 := if_pos h
theorem yQm_0 {g : yM} {d e : Int} {k : Nat} (h : ¬ (yaM g d (e + k) (Int.toNat (g 90 6)) = 1)) : yQm g d e (k + 1) = yQm g d e k := if_neg h
def yQr (g : yM) (c : Nat) : Int := yQm g (g 103 c) (yMe g c (yMg g c (Int.toNat (g 90 22)))) (Int.toNat (g 102 c - yMe g c (yMg g c (Int.toNat (g 90 22)))))
def yMf (g : yM) (c : Nat) : Int := if yMl g c < yQr g c then -2 else yQr g c
def yP_LTO : yPT := fun as g K => ∃ (w : Int), as = [(3, 90), (1, w)] ∧ (0 ≤ w ∧ w < 40) ∧ (0 ≤ g 104 (Int.toNat w) ∧ g 104 (Int.toNat w) ≤ 5) ∧ (∀ (r : Int), (r = yMl g (Int.toNat w)) → K [(1, r)] g)
def yC_LTO : yC := (175, (1, 40), yP_LTO)
set_option maxRecDepth 8000 in
theorem yv_LTO {K : List yV → yM → Prop} {Y : yNx} {g : yM} {w : Int} (hY : yCl zpD175 (zpZ, zpRS, zpP12, zpMT, [], (1, 40), 1) K Y) (hr_w : -2147483648 ≤ w ∧ w ≤ 2147483647) (hp0 : 0 ≤ w ∧ w < 40) (hp1 : 0 ≤ g 104 (Int.toNat w) ∧ g 104 (Int.toNat w) ≤ 5) (hK : ∀ (r : Int), (r = yMl g (Int.toNat w)) → K [(1, r)] g) : Y 0 [(3, 90), (1, w)] [] g := by
  refine yrun_ok (sp := fun pc => false) hY 15 0 _ [] g ?_
  show (((0 : Int) ≤ w ∧ w < ((40 : Nat) : Int)) ∧ (((0 : Int) ≤ w ∧ w < ((40 : Nat) : Int)) ∧ (((0 : Int) ≤ (yw (40 + (g 104 (Int.toNat w)))) ∧ (yw (40 + (g 104 (Int.toNat w)))) < ((53 : Nat) : Int)) ∧ (K [(1, (yw ((g 102 (Int.toNat w)) - (g 91 (Int.toNat (yw (40 + (g 104 (Int.toNat w)))))))))] g))))
  refine ⟨(by have y4 : yw (40 + g 104 (Int.toNat w)) = 40 + g 104 (Int.toNat w) := yw_s (40 + g 104 (Int.toNat w)) (by omega) (by omega); omega), ?_⟩
  refine ⟨(by have y4 : yw (40 + g 104 (Int.toNat w)) = 40 + g 104 (Int.toNat w) := yw_s (40 + g 104 (Int.toNat w)) (by omega) (by omega); omega), ?_⟩
  refine ⟨(by have y4 : yw (40 + g 104 (Int.toNat w)) = 40 + g 104 (Int.toNat w) := yw_s (40 + g 104 (Int.toNat w)) (by omega) (by omega); omega), ?_⟩
  exact hK _ rfl
theorem yM_LTO {l : Launch} {Ts : List Cond} {cl : List vw_C} {RO : zRO} (H : zHyp Ts cl RO) : yMet l Ts cl zpZ RO zpMT yC_LTO := ymet_of2 H.1 H.2.1 zpDj H.2.2.1 yRb H.p12 ymets_nil (zrc1 rfl) (plainFor_of_name zpy12) zpDk175 (fun as g K Y h hA hY => by
  obtain ⟨w, rfl, hp0, hp1, hK⟩ := h
  exact yv_LTO hY (yAr1 hA (by simp)) hp0 hp1 hK)
def yP_IAW : yPT := fun as g K => ∃ (d t : Int), as = [(3, 90), (1, d), (1, t)] ∧ (0 ≤ g 90 6 ∧ g 90 6 ≤ 12) ∧ (∀ (r : Int), (r = yaM g d t (Int.toNat (g 90 6))) → K [(1, r)] g)
def yC_IAW : yC := (163, (2, 65), yP_IAW)
set_option maxRecDepth 8000 in
theorem yl_IAW {K : List yV → yM → Prop} {Y : yNx} {g : yM} {d t : Int} (hY : yCl zpD163 (zpZ, zpRS, zpP12, zpMT, [yC_WM], (2, 65), 2) K Y) (hs : 0 ≤ g 90 6 ∧ g 90 6 ≤ 12) (hK : K [(1, yaM g d t (Int.toNat (g 90 6)))] g) : ∀ (n : Nat) (i : Int), i + n = g 90 6 → 0 ≤ i → yaM g d t (Int.toNat i) = 0 → Y 2 [(3, 90), (1, d), (1, t), (1, i)] [] g := by
  intro n
  induction n with
  | zero =>
    intro i hd h0 hz
    refine yrun_ok (sp := fun pc => Nat.beq pc 2) hY 27 2 _ [] g ?_
    show (((g 90 6) ≤ i → (((0 : Int) ≤ 0 ∧ 0 ≤ (1 : Int)) ∧ (K [(1, 0)] g))) ∧ (¬ ((g 90 6) ≤ i) → (((0 : Int) ≤ i ∧ i < ((12 : Nat) : Int)) ∧ (((g 95 (Int.toNat i)) ≠ d → (Y 2 [(3, 90), (1, d), (1, t), (1, (yw (i + 1)))] [] g)) ∧ (¬ ((g 95 (Int.toNat i)) ≠ d) → (((0 : Int) ≤ i ∧ i < ((12 : Nat) : Int)) ∧ (((0 : Int) ≤ i ∧ i < ((12 : Nat) : Int)) ∧ (∃ (v3 a4 b5 : Int), [(2, t), (2, (g 96 (Int.toNat i))), (2, (g 97 (Int.toNat i)))] = [(2, v3), (2, a4), (2, b5)] ∧ (∀ (r6 : Int), ((r6 = 1 ∧ a4 ≤ v3 ∧ v3 ≤ b5) ∨ (r6 = 0 ∧ (v3 < a4 ∨ b5 < v3))) → ((r6 = 0 → (Y 2 [(3, 90), (1, d), (1, t), (1, (yw (i + 1)))] [] g)) ∧ (¬ (r6 = 0) → (((0 : Int) ≤ 1 ∧ 1 ≤ (1 : Int)) ∧ (K [(1, 1)] g)))))))))))))
    refine ⟨fun h1 => ?_, fun h1 => ?_⟩
    · refine ⟨(by omega), ?_⟩
      obtain rfl : i = g 90 6 := by omega
      rw [hz] at hK
      exact hK
    · refine ⟨(by omega), ?_⟩
      refine ⟨fun h2 => ?_, fun h2 => ?_⟩
      · omega
      · refine ⟨(by omega), ?_⟩
        refine ⟨(by omega), ?_⟩
        refine ⟨_, _, _, rfl, ?_⟩
        intro r6 p70
        refine ⟨fun h8 => ?_, fun h8 => ?_⟩
        · omega
        · refine ⟨(by omega), ?_⟩
          omega
  | succ n ih =>
    intro i hd h0 hz
    refine yrun_ok (sp := fun pc => Nat.beq pc 2) hY 27 2 _ [] g ?_
    show (((g 90 6) ≤ i → (((0 : Int) ≤ 0 ∧ 0 ≤ (1 : Int)) ∧ (K [(1, 0)] g))) ∧ (¬ ((g 90 6) ≤ i) → (((0 : Int) ≤ i ∧ i < ((12 : Nat) : Int)) ∧ (((g 95 (Int.toNat i)) ≠ d → (Y 2 [(3, 90), (1, d), (1, t), (1, (yw (i + 1)))] [] g)) ∧ (¬ ((g 95 (Int.toNat i)) ≠ d) → (((0 : Int) ≤ i ∧ i < ((12 : Nat) : Int)) ∧ (((0 : Int) ≤ i ∧ i < ((12 : Nat) : Int)) ∧ (∃ (v3 a4 b5 : Int), [(2, t), (2, (g 96 (Int.toNat i))), (2, (g 97 (Int.toNat i)))] = [(2, v3), (2, a4), (2, b5)] ∧ (∀ (r6 : Int), ((r6 = 1 ∧ a4 ≤ v3 ∧ v3 ≤ b5) ∨ (r6 = 0 ∧ (v3 < a4 ∨ b5 < v3))) → ((r6 = 0 → (Y 2 [(3, 90), (1, d), (1, t), (1, (yw (i + 1)))] [] g)) ∧ (¬ (r6 = 0) → (((0 : Int) ≤ 1 ∧ 1 ≤ (1 : Int)) ∧ (K [(1, 1)] g)))))))))))))
    refine ⟨fun h1 => ?_, fun h1 => ?_⟩
    · refine ⟨(by omega), ?_⟩
      omega
    · refine ⟨(by omega), ?_⟩
      refine ⟨fun h2 => ?_, fun h2 => ?_⟩
      · have yi : yw (i + 1) = i + 1 := yw_s (i + 1) (by omega) (by omega)
        rw [yi]
        refine ih (i + 1) (by omega) (by omega) ?_
        rw [show Int.toNat (i + 1) = Int.toNat i + 1 by omega, yaM_0 (by omega)]
        exact hz
      · refine ⟨(by omega), ?_⟩
        refine ⟨(by omega), ?_⟩
        refine ⟨_, _, _, rfl, ?_⟩
        intro r6 p70
        refine ⟨fun h8 => ?_, fun h8 => ?_⟩
        · have yi : yw (i + 1) = i + 1 := yw_s (i + 1) (by omega) (by omega)
          rw [yi]
          refine ih (i + 1) (by omega) (by omega) ?_
          rw [show Int.toNat (i + 1) = Int.toNat i + 1 by omega, yaM_0 (by omega)]
          exact hz
        · refine ⟨(by omega), ?_⟩
          have e : yaM g d t (Int.toNat i + 1) = 1 := yaM_1 (by omega)
          rw [yaM_up e (Int.toNat (g 90 6)) (by omega)] at hK
          exact hK
set_option maxRecDepth 8000 in
theorem yv_IAW {K : List yV → yM → Prop} {Y : yNx} {g : yM} {d t : Int} (hY : yCl zpD163 (zpZ, zpRS, zpP12, zpMT, [yC_WM], (2, 65), 2) K Y) (hr_d : -2147483648 ≤ d ∧ d ≤ 2147483647) (hr_t : -2147483648 ≤ t ∧ t ≤ 2147483647) (hp0 : 0 ≤ g 90 6 ∧ g 90 6 ≤ 12) (hK : ∀ (r : Int), (r = yaM g d t (Int.toNat (g 90 6))) → K [(1, r)] g) : Y 0 [(3, 90), (1, d), (1, t), (0, 0)] [] g := by
  refine yrun_ok (sp := fun pc => Nat.beq pc 2) hY 3 0 _ [] g ?_
  show (Y 2 [(3, 90), (1, d), (1, t), (1, 0)] [] g)
  exact yl_IAW hY hp0 (hK _ rfl) (Int.toNat (g 90 6)) 0 (by omega) (by decide) rfl
theorem yM_IAW {l : Launch} {Ts : List Cond} {cl : List vw_C} {RO : zRO} (H : zHyp Ts cl RO) : yMet l Ts cl zpZ RO zpMT yC_IAW := ymet_of2 H.1 H.2.1 zpDj H.2.2.1 yRb H.p12 (ymets_cons (yM_WM H) ymets_nil) (zrc2 rfl) (plainFor_of_name zpy12) zpDk163 (fun as g K Y h hA hY => by
  obtain ⟨d, t, rfl, hp0, hK⟩ := h
  exact yv_IAW hY (yAr1 hA (by simp)) (yAr1 hA (by simp)) hp0 hK)
def yP_ELO : yPT := fun as g K => ∃ (w : Int), as = [(3, 90), (1, w)] ∧ (0 ≤ w ∧ w < 40) ∧ (0 ≤ g 90 22 ∧ g 90 22 ≤ 40) ∧ (0 ≤ g 90 6 ∧ g 90 6 ≤ 12) ∧ (0 ≤ g 104 (Int.toNat w) ∧ g 104 (Int.toNat w) ≤ 5) ∧ (g 102 (Int.toNat w) ≤ 719) ∧ (∀ (r : Int), (r = yMf g (Int.toNat w)) → K [(1, r)] g)
def yC_ELO : yC := (153, (3, 88), yP_ELO)
set_option maxRecDepth 8000 in
theorem yl_ELO {K : List yV → yM → Prop} {Y : yNx} {g : yM} {w e : Int} (hY : yCl zpD153 (zpZ, zpRS, zpP12, zpMT, [yC_AHO, yC_IAW, yC_LTO], (3, 88), 1) K Y) (hw : 0 ≤ w ∧ w < 40) (hs : 0 ≤ g 90 6 ∧ g 90 6 ≤ 12) (hm : 0 ≤ g 104 (Int.toNat w) ∧ g 104 (Int.toNat w) ≤ 5) (ho : g 102 (Int.toNat w) ≤ 719) (he : 0 ≤ e) (hK : K [(1, if yMl g (Int.toNat w) < yQm g (g 103 (Int.toNat w)) e (Int.toNat (g 102 (Int.toNat w) - e)) then -2 else yQm g (g 103 (Int.toNat w)) e (Int.toNat (g 102 (Int.toNat w) - e)))] g) {y3 y4 : Int} : ∀ (n k : Nat), k + n = (Int.toNat (g 102 (Int.toNat w) - e)) → Y 96 [(3, 90), (1, w), (1, yQm g (g 103 (Int.toNat w)) e k), (1, y3), (1, y4), (1, (e + (k : Int)))] [] g := by
  intro n
  induction n with
  | zero =>
    intro k hd
    refine yrun_ok (sp := fun pc => Nat.beq pc 96) hY 22 96 _ [] g ?_
    show (((0 : Int) ≤ w ∧ w < ((40 : Nat) : Int)) ∧ (((g 102 (Int.toNat w)) ≤ (e + (k : Int)) → (∃ (w2 : Int), [(3, 90), (1, w)] = [(3, 90), (1, w2)] ∧ (0 ≤ w2 ∧ w2 < 40) ∧ (0 ≤ g 104 (Int.toNat w2) ∧ g 104 (Int.toNat w2) ≤ 5) ∧ (∀ (r3 : Int), (r3 = yMl g (Int.toNat w2)) → ((yQm g (g 103 (Int.toNat w)) e k ≤ r3 → (K [(1, yQm g (g 103 (Int.toNat w)) e k)] g)) ∧ (¬ (yQm g (g 103 (Int.toNat w)) e k ≤ r3) → (K [(1, (-2))] g)))))) ∧ (¬ ((g 102 (Int.toNat w)) ≤ (e + (k : Int))) → (((0 : Int) ≤ w ∧ w < ((40 : Nat) : Int)) ∧ (∃ (d6 t7 : Int), [(3, 90), (1, (g 103 (Int.toNat w))), (1, (e + (k : Int)))] = [(3, 90), (1, d6), (1, t7)] ∧ (0 ≤ g 90 6 ∧ g 90 6 ≤ 12) ∧ (∀ (r8 : Int), (r8 = yaM g d6 t7 (Int.toNat (g 90 6))) → ((r8 = 0 → (Y 96 [(3, 90), (1, w), (1, yQm g (g 103 (Int.toNat w)) e k), (1, y3), (1, y4), (1, (yw ((e + (k : Int)) + 1)))] [] g)) ∧ (¬ (r8 = 0) → (Y 96 [(3, 90), (1, w), (1, (yw ((e + (k : Int)) + 1))), (1, y3), (1, y4), (1, (yw ((e + (k : Int)) + 1)))] [] g)))))))))
    refine ⟨(by omega), ?_⟩
    refine ⟨fun h1 => ?_, fun h1 => ?_⟩
    · refine ⟨_, rfl, (by omega), (by omega), ?_⟩
      intro r3 p40
      refine ⟨fun h5 => ?_, fun h5 => ?_⟩
      · obtain rfl : k = (Int.toNat (g 102 (Int.toNat w) - e)) := by omega
        rw [if_neg (by omega)] at hK
        exact hK
      · obtain rfl : k = (Int.toNat (g 102 (Int.toNat w) - e)) := by omega
        rw [if_pos (by omega)] at hK
        exact hK
    · refine ⟨(by omega), ?_⟩
      refine ⟨_, _, rfl, (by omega), ?_⟩
      intro r8 p90
      refine ⟨fun h10 => ?_, fun h10 => ?_⟩
      · omega
      · omega
  | succ n ih =>
    intro k hd
    refine yrun_ok (sp := fun pc => Nat.beq pc 96) hY 22 96 _ [] g ?_
    show (((0 : Int) ≤ w ∧ w < ((40 : Nat) : Int)) ∧ (((g 102 (Int.toNat w)) ≤ (e + (k : Int)) → (∃ (w2 : Int), [(3, 90), (1, w)] = [(3, 90), (1, w2)] ∧ (0 ≤ w2 ∧ w2 < 40) ∧ (0 ≤ g 104 (Int.toNat w2) ∧ g 104 (Int.toNat w2) ≤ 5) ∧ (∀ (r3 : Int), (r3 = yMl g (Int.toNat w2)) → ((yQm g (g 103 (Int.toNat w)) e k ≤ r3 → (K [(1, yQm g (g 103 (Int.toNat w)) e k)] g)) ∧ (¬ (yQm g (g 103 (Int.toNat w)) e k ≤ r3) → (K [(1, (-2))] g)))))) ∧ (¬ ((g 102 (Int.toNat w)) ≤ (e + (k : Int))) → (((0 : Int) ≤ w ∧ w < ((40 : Nat) : Int)) ∧ (∃ (d6 t7 : Int), [(3, 90), (1, (g 103 (Int.toNat w))), (1, (e + (k : Int)))] = [(3, 90), (1, d6), (1, t7)] ∧ (0 ≤ g 90 6 ∧ g 90 6 ≤ 12) ∧ (∀ (r8 : Int), (r8 = yaM g d6 t7 (Int.toNat (g 90 6))) → ((r8 = 0 → (Y 96 [(3, 90), (1, w), (1, yQm g (g 103 (Int.toNat w)) e k), (1, y3), (1, y4), (1, (yw ((e + (k : Int)) + 1)))] [] g)) ∧ (¬ (r8 = 0) → (Y 96 [(3, 90), (1, w), (1, (yw ((e + (k : Int)) + 1))), (1, y3), (1, y4), (1, (yw ((e + (k : Int)) + 1)))] [] g)))))))))
    refine ⟨(by omega), ?_⟩
    refine ⟨fun h1 => ?_, fun h1 => ?_⟩
    · refine ⟨_, rfl, (by omega), (by omega), ?_⟩
      intro r3 p40
      refine ⟨fun h5 => ?_, fun h5 => ?_⟩
      · omega
      · omega
    · refine ⟨(by omega), ?_⟩
      refine ⟨_, _, rfl, (by omega), ?_⟩
      intro r8 p90
      refine ⟨fun h10 => ?_, fun h10 => ?_⟩
      · have yk : yw (e + (k : Int) + 1) = e + (k : Int) + 1 := yw_s (e + (k : Int) + 1) (by omega) (by omega)
        have e1 : yQm g (g 103 (Int.toNat w)) e (k + 1) = yQm g (g 103 (Int.toNat w)) e k := by
          exact yQm_0 (by have hb := @yaM_b g (g 103 (Int.toNat w)) (e + (k : Int)) (Int.toNat (g 90 6)); omega)
        have h9 := ih (k + 1) (by omega)
        rw [e1] at h9
        rw [show ((k + 1 : Nat) : Int) = (k : Int) + 1 by omega, ← Int.add_assoc] at h9
        simp only [yk]
        exact h9
      · have yk : yw (e + (k : Int) + 1) = e + (k : Int) + 1 := yw_s (e + (k : Int) + 1) (by omega) (by omega)
        have e1 : yQm g (g 103 (Int.toNat w)) e (k + 1) = e + (k : Int) + 1 := by
          exact yQm_1 (by have hb := @yaM_b g (g 103 (Int.toNat w)) (e + (k : Int)) (Int.toNat (g 90 6)); omega)
        have h9 := ih (k + 1) (by omega)
        rw [e1] at h9
        rw [show ((k + 1 : Nat) : Int) = (k : Int) + 1 by omega, ← Int.add_assoc] at h9
        simp only [yk]
        exact h9
set_option maxRecDepth 8000 in
theorem yv_ELO {K : List yV → yM → Prop} {Y : yNx} {g : yM} {w : Int} (hY : yCl zpD153 (zpZ, zpRS, zpP12, zpMT, [yC_AHO, yC_IAW, yC_LTO], (3, 88), 1) K Y) (hr_w : -2147483648 ≤ w ∧ w ≤ 2147483647) (hp0 : 0 ≤ w ∧ w < 40) (hp1 : 0 ≤ g 90 22 ∧ g 90 22 ≤ 40) (hp2 : 0 ≤ g 90 6 ∧ g 90 6 ≤ 12) (hp3 : 0 ≤ g 104 (Int.toNat w) ∧ g 104 (Int.toNat w) ≤ 5) (hp4 : g 102 (Int.toNat w) ≤ 719) (hK : ∀ (r : Int), (r = yMf g (Int.toNat w)) → K [(1, r)] g) : Y 0 [(3, 90), (1, w), (0, 0), (0, 0), (0, 0), (0, 0)] [] g := by
  refine yrun_ok (sp := fun pc => Nat.beq pc 96) hY 57 0 _ [] g ?_
  show (((0 : Int) ≤ w ∧ w < ((53 : Nat) : Int)) ∧ (((0 : Int) ≤ 52 ∧ 52 < ((53 : Nat) : Int)) ∧ (((0 : Int) ≤ w ∧ w < ((40 : Nat) : Int)) ∧ (((0 : Int) ≤ w ∧ w < ((40 : Nat) : Int)) ∧ (((0 : Int) ≤ (yw (46 + (g 104 (Int.toNat w)))) ∧ (yw (46 + (g 104 (Int.toNat w)))) < ((53 : Nat) : Int)) ∧ (((yw ((g 102 (Int.toNat w)) - (g 91 (Int.toNat (yw (46 + (g 104 (Int.toNat w)))))))) ≤ (yw ((g 91 (Int.toNat w)) - (g 91 52))) → (∃ (w2 : Int), [(3, 90), (1, w)] = [(3, 90), (1, w2)] ∧ (0 ≤ w2 ∧ w2 < 40) ∧ (0 ≤ g 90 22 ∧ g 90 22 ≤ 40) ∧ (∀ (r3 : Int), (r3 = yMg g (Int.toNat w2) (Int.toNat (g 90 22))) → ((r3 < 0 → ((0 ≤ (yw ((g 91 (Int.toNat w)) - (g 91 52))) → (Y 96 [(3, 90), (1, w), (1, (yw ((g 91 (Int.toNat w)) - (g 91 52)))), (1, (yw ((g 102 (Int.toNat w)) - (g 91 (Int.toNat (yw (46 + (g 104 (Int.toNat w))))))))), (1, r3), (1, (yw ((g 91 (Int.toNat w)) - (g 91 52))))] [] g)) ∧ (¬ (0 ≤ (yw ((g 91 (Int.toNat w)) - (g 91 52)))) → (Y 96 [(3, 90), (1, w), (1, 0), (1, (yw ((g 102 (Int.toNat w)) - (g 91 (Int.toNat (yw (46 + (g 104 (Int.toNat w))))))))), (1, r3), (1, 0)] [] g)))) ∧ (¬ (r3 < 0) → (((0 : Int) ≤ r3 ∧ r3 < ((40 : Nat) : Int)) ∧ (((g 102 (Int.toNat r3)) ≤ (yw ((g 91 (Int.toNat w)) - (g 91 52))) → ((0 ≤ (yw ((g 91 (Int.toNat w)) - (g 91 52))) → (Y 96 [(3, 90), (1, w), (1, (yw ((g 91 (Int.toNat w)) - (g 91 52)))), (1, (yw ((g 102 (Int.toNat w)) - (g 91 (Int.toNat (yw (46 + (g 104 (Int.toNat w))))))))), (1, r3), (1, (yw ((g 91 (Int.toNat w)) - (g 91 52))))] [] g)) ∧ (¬ (0 ≤ (yw ((g 91 (Int.toNat w)) - (g 91 52)))) → (Y 96 [(3, 90), (1, w), (1, 0), (1, (yw ((g 102 (Int.toNat w)) - (g 91 (Int.toNat (yw (46 + (g 104 (Int.toNat w))))))))), (1, r3), (1, 0)] [] g)))) ∧ (¬ ((g 102 (Int.toNat r3)) ≤ (yw ((g 91 (Int.toNat w)) - (g 91 52)))) → (((0 : Int) ≤ r3 ∧ r3 < ((40 : Nat) : Int)) ∧ ((0 ≤ (g 102 (Int.toNat r3)) → (Y 96 [(3, 90), (1, w), (1, (g 102 (Int.toNat r3))), (1, (yw ((g 102 (Int.toNat w)) - (g 91 (Int.toNat (yw (46 + (g 104 (Int.toNat w))))))))), (1, r3), (1, (g 102 (Int.toNat r3)))] [] g)) ∧ (¬ (0 ≤ (g 102 (Int.toNat r3))) → (Y 96 [(3, 90), (1, w), (1, 0), (1, (yw ((g 102 (Int.toNat w)) - (g 91 (Int.toNat (yw (46 + (g 104 (Int.toNat w))))))))), (1, r3), (1, 0)] [] g)))))))))))) ∧ (¬ ((yw ((g 102 (Int.toNat w)) - (g 91 (Int.toNat (yw (46 + (g 104 (Int.toNat w)))))))) ≤ (yw ((g 91 (Int.toNat w)) - (g 91 52)))) → (∃ (w10 : Int), [(3, 90), (1, w)] = [(3, 90), (1, w10)] ∧ (0 ≤ w10 ∧ w10 < 40) ∧ (0 ≤ g 90 22 ∧ g 90 22 ≤ 40) ∧ (∀ (r11 : Int), (r11 = yMg g (Int.toNat w10) (Int.toNat (g 90 22))) → ((r11 < 0 → ((0 ≤ (yw ((g 102 (Int.toNat w)) - (g 91 (Int.toNat (yw (46 + (g 104 (Int.toNat w)))))))) → (Y 96 [(3, 90), (1, w), (1, (yw ((g 102 (Int.toNat w)) - (g 91 (Int.toNat (yw (46 + (g 104 (Int.toNat w))))))))), (1, (yw ((g 102 (Int.toNat w)) - (g 91 (Int.toNat (yw (46 + (g 104 (Int.toNat w))))))))), (1, r11), (1, (yw ((g 102 (Int.toNat w)) - (g 91 (Int.toNat (yw (46 + (g 104 (Int.toNat w)))))))))] [] g)) ∧ (¬ (0 ≤ (yw ((g 102 (Int.toNat w)) - (g 91 (Int.toNat (yw (46 + (g 104 (Int.toNat w))))))))) → (Y 96 [(3, 90), (1, w), (1, 0), (1, (yw ((g 102 (Int.toNat w)) - (g 91 (Int.toNat (yw (46 + (g 104 (Int.toNat w))))))))), (1, r11), (1, 0)] [] g)))) ∧ (¬ (r11 < 0) → (((0 : Int) ≤ r11 ∧ r11 < ((40 : Nat) : Int)) ∧ (((g 102 (Int.toNat r11)) ≤ (yw ((g 102 (Int.toNat w)) - (g 91 (Int.toNat (yw (46 + (g 104 (Int.toNat w)))))))) → ((0 ≤ (yw ((g 102 (Int.toNat w)) - (g 91 (Int.toNat (yw (46 + (g 104 (Int.toNat w)))))))) → (Y 96 [(3, 90), (1, w), (1, (yw ((g 102 (Int.toNat w)) - (g 91 (Int.toNat (yw (46 + (g 104 (Int.toNat w))))))))), (1, (yw ((g 102 (Int.toNat w)) - (g 91 (Int.toNat (yw (46 + (g 104 (Int.toNat w))))))))), (1, r11), (1, (yw ((g 102 (Int.toNat w)) - (g 91 (Int.toNat (yw (46 + (g 104 (Int.toNat w)))))))))] [] g)) ∧ (¬ (0 ≤ (yw ((g 102 (Int.toNat w)) - (g 91 (Int.toNat (yw (46 + (g 104 (Int.toNat w))))))))) → (Y 96 [(3, 90), (1, w), (1, 0), (1, (yw ((g 102 (Int.toNat w)) - (g 91 (Int.toNat (yw (46 + (g 104 (Int.toNat w))))))))), (1, r11), (1, 0)] [] g)))) ∧ (¬ ((g 102 (Int.toNat r11)) ≤ (yw ((g 102 (Int.toNat w)) - (g 91 (Int.toNat (yw (46 + (g 104 (Int.toNat w))))))))) → (((0 : Int) ≤ r11 ∧ r11 < ((40 : Nat) : Int)) ∧ ((0 ≤ (g 102 (Int.toNat r11)) → (Y 96 [(3, 90), (1, w), (1, (g 102 (Int.toNat r11))), (1, (yw ((g 102 (Int.toNat w)) - (g 91 (Int.toNat (yw (46 + (g 104 (Int.toNat w))))))))), (1, r11), (1, (g 102 (Int.toNat r11)))] [] g)) ∧ (¬ (0 ≤ (g 102 (Int.toNat r11))) → (Y 96 [(3, 90), (1, w), (1, 0), (1, (yw ((g 102 (Int.toNat w)) - (g 91 (Int.toNat (yw (46 + (g 104 (Int.toNat w))))))))), (1, r11), (1, 0)] [] g))))))))))))))))))
  refine ⟨(by have y6 : yw (46 + g 104 (Int.toNat w)) = 46 + g 104 (Int.toNat w) := yw_s (46 + g 104 (Int.toNat w)) (by omega) (by omega); have hb := @yMg_b g (Int.toNat w) (Int.toNat (g 90 22)); omega), ?_⟩
  refine ⟨(by have y6 : yw (46 + g 104 (Int.toNat w)) = 46 + g 104 (Int.toNat w) := yw_s (46 + g 104 (Int.toNat w)) (by omega) (by omega); have hb := @yMg_b g (Int.toNat w) (Int.toNat (g 90 22)); omega), ?_⟩
  refine ⟨(by have y6 : yw (46 + g 104 (Int.toNat w)) = 46 + g 104 (Int.toNat w) := yw_s (46 + g 104 (Int.toNat w)) (by omega) (by omega); have hb := @yMg_b g (Int.toNat w) (Int.toNat (g 90 22)); omega), ?_⟩
  refine ⟨(by have y6 : yw (46 + g 104 (Int.toNat w)) = 46 + g 104 (Int.toNat w) := yw_s (46 + g 104 (Int.toNat w)) (by omega) (by omega); have hb := @yMg_b g (Int.toNat w) (Int.toNat (g 90 22)); omega), ?_⟩
  refine ⟨(by have y6 : yw (46 + g 104 (Int.toNat w)) = 46 + g 104 (Int.toNat w) := yw_s (46 + g 104 (Int.toNat w)) (by omega) (by omega); have hb := @yMg_b g (Int.toNat w) (Int.toNat (g 90 22)); omega), ?_⟩
  refine ⟨fun h1 => ?_, fun h1 => ?_⟩
  · refine ⟨_, rfl, (by have y6 : yw (46 + g 104 (Int.toNat w)) = 46 + g 104 (Int.toNat w) := yw_s (46 + g 104 (Int.toNat w)) (by omega) (by omega); have hb := @yMg_b g (Int.toNat w) (Int.toNat (g 90 22)); omega), (by have y6 : yw (46 + g 104 (Int.toNat w)) = 46 + g 104 (Int.toNat w) := yw_s (46 + g 104 (Int.toNat w)) (by omega) (by omega); have hb := @yMg_b g (Int.toNat w) (Int.toNat (g 90 22)); omega), ?_⟩
    intro r3 p40
    refine ⟨fun h5 => ?_, fun h5 => ?_⟩
    · refine ⟨fun h6 => ?_, fun h6 => ?_⟩
      · have y6 : yw (46 + g 104 (Int.toNat w)) = 46 + g 104 (Int.toNat w) := yw_s (46 + g 104 (Int.toNat w)) (by omega) (by omega)
        have hb := @yMg_b g (Int.toNat w) (Int.toNat (g 90 22))
        have e : yMe g (Int.toNat w) (yMg g (Int.toNat w) (Int.toNat (g 90 22))) = (yw ((g 91 (Int.toNat w)) - (g 91 52))) := by
          rw [← p40]
          unfold yMe ymx
          repeat' split
          all_goals omega
        have h8 := yl_ELO (y3 := (yw ((g 102 (Int.toNat w)) - (g 91 (Int.toNat (yw (46 + (g 104 (Int.toNat w))))))))) (y4 := r3) hY hp0 hp2 hp3 hp4 (yMe_0 g (Int.toNat w) (yMg g (Int.toNat w) (Int.toNat (g 90 22)))) (hK _ rfl) _ 0 (Nat.zero_add _)
        have e9 : yQm g (g 103 (Int.toNat w)) (yMe g (Int.toNat w) (yMg g (Int.toNat w) (Int.toNat (g 90 22)))) 0 = yMe g (Int.toNat w) (yMg g (Int.toNat w) (Int.toNat (g 90 22))) := rfl
        rw [e9, show ((0 : Nat) : Int) = 0 from rfl, Int.add_zero, e] at h8
        exact h8
      · have y6 : yw (46 + g 104 (Int.toNat w)) = 46 + g 104 (Int.toNat w) := yw_s (46 + g 104 (Int.toNat w)) (by omega) (by omega)
        have hb := @yMg_b g (Int.toNat w) (Int.toNat (g 90 22))
        have e : yMe g (Int.toNat w) (yMg g (Int.toNat w) (Int.toNat (g 90 22))) = 0 := by
          rw [← p40]
          unfold yMe ymx
          repeat' split
          all_goals omega
        have h8 := yl_ELO (y3 := (yw ((g 102 (Int.toNat w)) - (g 91 (Int.toNat (yw (46 + (g 104 (Int.toNat w))))))))) (y4 := r3) hY hp0 hp2 hp3 hp4 (yMe_0 g (Int.toNat w) (yMg g (Int.toNat w) (Int.toNat (g 90 22)))) (hK _ rfl) _ 0 (Nat.zero_add _)
        have e9 : yQm g (g 103 (Int.toNat w)) (yMe g (Int.toNat w) (yMg g (Int.toNat w) (Int.toNat (g 90 22)))) 0 = yMe g (Int.toNat w) (yMg g (Int.toNat w) (Int.toNat (g 90 22))) := rfl
        rw [e9, show ((0 : Nat) : Int) = 0 from rfl, Int.add_zero, e] at h8
        exact h8
    · refine ⟨(by have y6 : yw (46 + g 104 (Int.toNat w)) = 46 + g 104 (Int.toNat w) := yw_s (46 + g 104 (Int.toNat w)) (by omega) (by omega); have hb := @yMg_b g (Int.toNat w) (Int.toNat (g 90 22)); omega), ?_⟩
      refine ⟨fun h7 => ?_, fun h7 => ?_⟩
      · refine ⟨fun h8 => ?_, fun h8 => ?_⟩
        · have y6 : yw (46 + g 104 (Int.toNat w)) = 46 + g 104 (Int.toNat w) := yw_s (46 + g 104 (Int.toNat w)) (by omega) (by omega)
          have hb := @yMg_b g (Int.toNat w) (Int.toNat (g 90 22))
          have e : yMe g (Int.toNat w) (yMg g (Int.toNat w) (Int.toNat (g 90 22))) = (yw ((g 91 (Int.toNat w)) - (g 91 52))) := by
            rw [← p40]
            unfold yMe ymx
            repeat' split
            all_goals omega
          have h8 := yl_ELO (y3 := (yw ((g 102 (Int.toNat w)) - (g 91 (Int.toNat (yw (46 + (g 104 (Int.toNat w))))))))) (y4 := r3) hY hp0 hp2 hp3 hp4 (yMe_0 g (Int.toNat w) (yMg g (Int.toNat w) (Int.toNat (g 90 22)))) (hK _ rfl) _ 0 (Nat.zero_add _)
          have e9 : yQm g (g 103 (Int.toNat w)) (yMe g (Int.toNat w) (yMg g (Int.toNat w) (Int.toNat (g 90 22)))) 0 = yMe g (Int.toNat w) (yMg g (Int.toNat w) (Int.toNat (g 90 22))) := rfl
          rw [e9, show ((0 : Nat) : Int) = 0 from rfl, Int.add_zero, e] at h8
          exact h8
        · have y6 : yw (46 + g 104 (Int.toNat w)) = 46 + g 104 (Int.toNat w) := yw_s (46 + g 104 (Int.toNat w)) (by omega) (by omega)
          have hb := @yMg_b g (Int.toNat w) (Int.toNat (g 90 22))
          have e : yMe g (Int.toNat w) (yMg g (Int.toNat w) (Int.toNat (g 90 22))) = 0 := by
            rw [← p40]
            unfold yMe ymx
            repeat' split
            all_goals omega
          have h8 := yl_ELO (y3 := (yw ((g 102 (Int.toNat w)) - (g 91 (Int.toNat (yw (46 + (g 104 (Int.toNat w))))))))) (y4 := r3) hY hp0 hp2 hp3 hp4 (yMe_0 g (Int.toNat w) (yMg g (Int.toNat w) (Int.toNat (g 90 22)))) (hK _ rfl) _ 0 (Nat.zero_add _)
          have e9 : yQm g (g 103 (Int.toNat w)) (yMe g (Int.toNat w) (yMg g (Int.toNat w) (Int.toNat (g 90 22)))) 0 = yMe g (Int.toNat w) (yMg g (Int.toNat w) (Int.toNat (g 90 22))) := rfl
          rw [e9, show ((0 : Nat) : Int) = 0 from rfl, Int.add_zero, e] at h8
          exact h8
      · refine ⟨(by have y6 : yw (46 + g 104 (Int.toNat w)) = 46 + g 104 (Int.toNat w) := yw_s (46 + g 104 (Int.toNat w)) (by omega) (by omega); have hb := @yMg_b g (Int.toNat w) (Int.toNat (g 90 22)); omega), ?_⟩
        refine ⟨fun h9 => ?_, fun h9 => ?_⟩
        · have y6 : yw (46 + g 104 (Int.toNat w)) = 46 + g 104 (Int.toNat w) := yw_s (46 + g 104 (Int.toNat w)) (by omega) (by omega)
          have hb := @yMg_b g (Int.toNat w) (Int.toNat (g 90 22))
          have e : yMe g (Int.toNat w) (yMg g (Int.toNat w) (Int.toNat (g 90 22))) = (g 102 (Int.toNat r3)) := by
            rw [← p40]
            unfold yMe ymx
            repeat' split
            all_goals omega
          have h8 := yl_ELO (y3 := (yw ((g 102 (Int.toNat w)) - (g 91 (Int.toNat (yw (46 + (g 104 (Int.toNat w))))))))) (y4 := r3) hY hp0 hp2 hp3 hp4 (yMe_0 g (Int.toNat w) (yMg g (Int.toNat w) (Int.toNat (g 90 22)))) (hK _ rfl) _ 0 (Nat.zero_add _)
          have e9 : yQm g (g 103 (Int.toNat w)) (yMe g (Int.toNat w) (yMg g (Int.toNat w) (Int.toNat (g 90 22)))) 0 = yMe g (Int.toNat w) (yMg g (Int.toNat w) (Int.toNat (g 90 22))) := rfl
          rw [e9, show ((0 : Nat) : Int) = 0 from rfl, Int.add_zero, e] at h8
          exact h8
        · have y6 : yw (46 + g 104 (Int.toNat w)) = 46 + g 104 (Int.toNat w) := yw_s (46 + g 104 (Int.toNat w)) (by omega) (by omega)
          have hb := @yMg_b g (Int.toNat w) (Int.toNat (g 90 22))
          have e : yMe g (Int.toNat w) (yMg g (Int.toNat w) (Int.toNat (g 90 22))) = 0 := by
            rw [← p40]
            unfold yMe ymx
            repeat' split
            all_goals omega
          have h8 := yl_ELO (y3 := (yw ((g 102 (Int.toNat w)) - (g 91 (Int.toNat (yw (46 + (g 104 (Int.toNat w))))))))) (y4 := r3) hY hp0 hp2 hp3 hp4 (yMe_0 g (Int.toNat w) (yMg g (Int.toNat w) (Int.toNat (g 90 22)))) (hK _ rfl) _ 0 (Nat.zero_add _)
          have e9 : yQm g (g 103 (Int.toNat w)) (yMe g (Int.toNat w) (yMg g (Int.toNat w) (Int.toNat (g 90 22)))) 0 = yMe g (Int.toNat w) (yMg g (Int.toNat w) (Int.toNat (g 90 22))) := rfl
          rw [e9, show ((0 : Nat) : Int) = 0 from rfl, Int.add_zero, e] at h8
          exact h8
  · refine ⟨_, rfl, (by have y6 : yw (46 + g 104 (Int.toNat w)) = 46 + g 104 (Int.toNat w) := yw_s (46 + g 104 (Int.toNat w)) (by omega) (by omega); have hb := @yMg_b g (Int.toNat w) (Int.toNat (g 90 22)); omega), (by have y6 : yw (46 + g 104 (Int.toNat w)) = 46 + g 104 (Int.toNat w) := yw_s (46 + g 104 (Int.toNat w)) (by omega) (by omega); have hb := @yMg_b g (Int.toNat w) (Int.toNat (g 90 22)); omega), ?_⟩
    intro r11 p120
    refine ⟨fun h13 => ?_, fun h13 => ?_⟩
    · refine ⟨fun h14 => ?_, fun h14 => ?_⟩
      · have y6 : yw (46 + g 104 (Int.toNat w)) = 46 + g 104 (Int.toNat w) := yw_s (46 + g 104 (Int.toNat w)) (by omega) (by omega)
        have hb := @yMg_b g (Int.toNat w) (Int.toNat (g 90 22))
        have e : yMe g (Int.toNat w) (yMg g (Int.toNat w) (Int.toNat (g 90 22))) = (yw ((g 102 (Int.toNat w)) - (g 91 (Int.toNat (yw (46 + (g 104 (Int.toNat w)))))))) := by
          rw [← p120]
          unfold yMe ymx
          repeat' split
          all_goals omega
        have h8 := yl_ELO (y3 := (yw ((g 102 (Int.toNat w)) - (g 91 (Int.toNat (yw (46 + (g 104 (Int.toNat w))))))))) (y4 := r11) hY hp0 hp2 hp3 hp4 (yMe_0 g (Int.toNat w) (yMg g (Int.toNat w) (Int.toNat (g 90 22)))) (hK _ rfl) _ 0 (Nat.zero_add _)
        have e9 : yQm g (g 103 (Int.toNat w)) (yMe g (Int.toNat w) (yMg g (Int.toNat w) (Int.toNat (g 90 22)))) 0 = yMe g (Int.toNat w) (yMg g (Int.toNat w) (Int.toNat (g 90 22))) := rfl
        rw [e9, show ((0 : Nat) : Int) = 0 from rfl, Int.add_zero, e] at h8
        exact h8
      · have y6 : yw (46 + g 104 (Int.toNat w)) = 46 + g 104 (Int.toNat w) := yw_s (46 + g 104 (Int.toNat w)) (by omega) (by omega)
        have hb := @yMg_b g (Int.toNat w) (Int.toNat (g 90 22))
        have e : yMe g (Int.toNat w) (yMg g (Int.toNat w) (Int.toNat (g 90 22))) = 0 := by
          rw [← p120]
          unfold yMe ymx
          repeat' split
          all_goals omega
        have h8 := yl_ELO (y3 := (yw ((g 102 (Int.toNat w)) - (g 91 (Int.toNat (yw (46 + (g 104 (Int.toNat w))))))))) (y4 := r11) hY hp0 hp2 hp3 hp4 (yMe_0 g (Int.toNat w) (yMg g (Int.toNat w) (Int.toNat (g 90 22)))) (hK _ rfl) _ 0 (Nat.zero_add _)
        have e9 : yQm g (g 103 (Int.toNat w)) (yMe g (Int.toNat w) (yMg g (Int.toNat w) (Int.toNat (g 90 22)))) 0 = yMe g (Int.toNat w) (yMg g (Int.toNat w) (Int.toNat (g 90 22))) := rfl
        rw [e9, show ((0 : Nat) : Int) = 0 from rfl, Int.add_zero, e] at h8
        exact h8
    · refine ⟨(by have y6 : yw (46 + g 104 (Int.toNat w)) = 46 + g 104 (Int.toNat w) := yw_s (46 + g 104 (Int.toNat w)) (by omega) (by omega); have hb := @yMg_b g (Int.toNat w) (Int.toNat (g 90 22)); omega), ?_⟩
      refine ⟨fun h15 => ?_, fun h15 => ?_⟩
      · refine ⟨fun h16 => ?_, fun h16 => ?_⟩
        · have y6 : yw (46 + g 104 (Int.toNat w)) = 46 + g 104 (Int.toNat w) := yw_s (46 + g 104 (Int.toNat w)) (by omega) (by omega)
          have hb := @yMg_b g (Int.toNat w) (Int.toNat (g 90 22))
          have e : yMe g (Int.toNat w) (yMg g (Int.toNat w) (Int.toNat (g 90 22))) = (yw ((g 102 (Int.toNat w)) - (g 91 (Int.toNat (yw (46 + (g 104 (Int.toNat w)))))))) := by
            rw [← p120]
            unfold yMe ymx
            repeat' split
            all_goals omega
          have h8 := yl_ELO (y3 := (yw ((g 102 (Int.toNat w)) - (g 91 (Int.toNat (yw (46 + (g 104 (Int.toNat w))))))))) (y4 := r11) hY hp0 hp2 hp3 hp4 (yMe_0 g (Int.toNat w) (yMg g (Int.toNat w) (Int.toNat (g 90 22)))) (hK _ rfl) _ 0 (Nat.zero_add _)
          have e9 : yQm g (g 103 (Int.toNat w)) (yMe g (Int.toNat w) (yMg g (Int.toNat w) (Int.toNat (g 90 22)))) 0 = yMe g (Int.toNat w) (yMg g (Int.toNat w) (Int.toNat (g 90 22))) := rfl
          rw [e9, show ((0 : Nat) : Int) = 0 from rfl, Int.add_zero, e] at h8
          exact h8
        · have y6 : yw (46 + g 104 (Int.toNat w)) = 46 + g 104 (Int.toNat w) := yw_s (46 + g 104 (Int.toNat w)) (by omega) (by omega)
          have hb := @yMg_b g (Int.toNat w) (Int.toNat (g 90 22))
          have e : yMe g (Int.toNat w) (yMg g (Int.toNat w) (Int.toNat (g 90 22))) = 0 := by
            rw [← p120]
            unfold yMe ymx
            repeat' split
            all_goals omega
          have h8 := yl_ELO (y3 := (yw ((g 102 (Int.toNat w)) - (g 91 (Int.toNat (yw (46 + (g 104 (Int.toNat w))))))))) (y4 := r11) hY hp0 hp2 hp3 hp4 (yMe_0 g (Int.toNat w) (yMg g (Int.toNat w) (Int.toNat (g 90 22)))) (hK _ rfl) _ 0 (Nat.zero_add _)
          have e9 : yQm g (g 103 (Int.toNat w)) (yMe g (Int.toNat w) (yMg g (Int.toNat w) (Int.toNat (g 90 22)))) 0 = yMe g (Int.toNat w) (yMg g (Int.toNat w) (Int.toNat (g 90 22))) := rfl
          rw [e9, show ((0 : Nat) : Int) = 0 from rfl, Int.add_zero, e] at h8
          exact h8
      · refine ⟨(by have y6 : yw (46 + g 104 (Int.toNat w)) = 46 + g 104 (Int.toNat w) := yw_s (46 + g 104 (Int.toNat w)) (by omega) (by omega); have hb := @yMg_b g (Int.toNat w) (Int.toNat (g 90 22)); omega), ?_⟩
        refine ⟨fun h17 => ?_, fun h17 => ?_⟩
        · have y6 : yw (46 + g 104 (Int.toNat w)) = 46 + g 104 (Int.toNat w) := yw_s (46 + g 104 (Int.toNat w)) (by omega) (by omega)
          have hb := @yMg_b g (Int.toNat w) (Int.toNat (g 90 22))
          have e : yMe g (Int.toNat w) (yMg g (Int.toNat w) (Int.toNat (g 90 22))) = (g 102 (Int.toNat r11)) := by
            rw [← p120]
            unfold yMe ymx
            repeat' split
            all_goals omega
          have h8 := yl_ELO (y3 := (yw ((g 102 (Int.toNat w)) - (g 91 (Int.toNat (yw (46 + (g 104 (Int.toNat w))))))))) (y4 := r11) hY hp0 hp2 hp3 hp4 (yMe_0 g (Int.toNat w) (yMg g (Int.toNat w) (Int.toNat (g 90 22)))) (hK _ rfl) _ 0 (Nat.zero_add _)
          have e9 : yQm g (g 103 (Int.toNat w)) (yMe g (Int.toNat w) (yMg g (Int.toNat w) (Int.toNat (g 90 22)))) 0 = yMe g (Int.toNat w) (yMg g (Int.toNat w) (Int.toNat (g 90 22))) := rfl
          rw [e9, show ((0 : Nat) : Int) = 0 from rfl, Int.add_zero, e] at h8
          exact h8
        · have y6 : yw (46 + g 104 (Int.toNat w)) = 46 + g 104 (Int.toNat w) := yw_s (46 + g 104 (Int.toNat w)) (by omega) (by omega)
          have hb := @yMg_b g (Int.toNat w) (Int.toNat (g 90 22))
          have e : yMe g (Int.toNat w) (yMg g (Int.toNat w) (Int.toNat (g 90 22))) = 0 := by
            rw [← p120]
            unfold yMe ymx
            repeat' split
            all_goals omega
          have h8 := yl_ELO (y3 := (yw ((g 102 (Int.toNat w)) - (g 91 (Int.toNat (yw (46 + (g 104 (Int.toNat w))))))))) (y4 := r11) hY hp0 hp2 hp3 hp4 (yMe_0 g (Int.toNat w) (yMg g (Int.toNat w) (Int.toNat (g 90 22)))) (hK _ rfl) _ 0 (Nat.zero_add _)
          have e9 : yQm g (g 103 (Int.toNat w)) (yMe g (Int.toNat w) (yMg g (Int.toNat w) (Int.toNat (g 90 22)))) 0 = yMe g (Int.toNat w) (yMg g (Int.toNat w) (Int.toNat (g 90 22))) := rfl
          rw [e9, show ((0 : Nat) : Int) = 0 from rfl, Int.add_zero, e] at h8
          exact h8
theorem yM_ELO {l : Launch} {Ts : List Cond} {cl : List vw_C} {RO : zRO} (H : zHyp Ts cl RO) : yMet l Ts cl zpZ RO zpMT yC_ELO := ymet_of2 H.1 H.2.1 zpDj H.2.2.1 yRb H.p12 (ymets_cons (yM_AHO H) (ymets_cons (yM_IAW H) (ymets_cons (yM_LTO H) ymets_nil))) (zrc1 rfl) (plainFor_of_name zpy12) zpDk153 (fun as g K Y h hA hY => by
  obtain ⟨w, rfl, hp0, hp1, hp2, hp3, hp4, hK⟩ := h
  exact yv_ELO hY (yAr1 hA (by simp)) hp0 hp1 hp2 hp3 hp4 hK)
