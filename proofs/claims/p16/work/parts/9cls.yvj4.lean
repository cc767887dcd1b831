/-! OPERATIONS ALIKE: comers, places, rules -/
def yRe (a b : Nat) : Prop := (a = 6 ∧ b = 8) ∨ (a = 90 ∧ (b = 38 ∨ b = 4 ∨ b = 5)) ∨ (40 ≤ a ∧ a ≤ 49) ∨ (121 ≤ a ∧ a ≤ 123) ∨ a = 30 ∨ a = 114
theorem yRe_of : ∀ r ∈ yrsA, (r.1 = 6 ∧ r.2.1 = 6 ∧ r.2.2.1 ≠ 0 ∧ r.2.2.2 = 8) ∨ (r.1 = 90 ∧ r.2.1 = 90 ∧ r.2.2.1 ≠ 0 ∧ (r.2.2.2 = 38 ∨ r.2.2.2 = 4 ∨ r.2.2.2 = 5)) ∨ (40 ≤ r.1 ∧ r.2.1 ≤ 49) ∨ (121 ≤ r.1 ∧ r.2.1 ≤ 123) ∨ (r.1 = 30 ∧ r.2.1 = 30) ∨ (r.1 = 114 ∧ r.2.1 = 114) := by decide +kernel
theorem yRA.mono' {g g' : yM} (h : yRA g) (e : ∀ a b : Nat, yRe a b → g' a b = g a b) : yRA g' := h.mono (fun a b ⟨r, hr, h1, h2, h3⟩ => e a b (by
  have := yRe_of r hr
  unfold yRe
  omega))
/-- so many more comers, alike on both sides -/
theorem yRV_grow {g g2 : yM} {n : Nat} (h : yRV g) (hn : g 1 1 + n ≤ 40) (e11 : g2 1 1 = g 1 1 + n) (e22 : g2 90 22 = g 1 1 + n) (ht : yVt g2)
    (H : ∀ a b : Nat, yRd a b → ¬ (a = 1 ∧ b = 1) → a ≠ 2 → ¬ (a = 90 ∧ (b = 13 ∨ b = 22 ∨ (16 ≤ b ∧ b ≤ 19))) → ¬ (50 + Int.toNat (g 1 1) ≤ a ∧ a ≤ 89) → ¬ ((a = 91 ∨ (101 ≤ a ∧ a ≤ 108)) ∧ Int.toNat (g 1 1) ≤ b ∧ b < 40) → ¬ ((50 ≤ a ∧ a ≤ 89) ∧ (9 ≤ b ∧ b ≤ 11)) → a ≠ 98 → a ≠ 18 → g2 a b = g a b)
    (N : ∀ j : Nat, j < n → (g2 101 (Int.toNat (g 1 1) + j) = g2 (50 + Int.toNat (g 1 1) + j) 0 ∧ g2 102 (Int.toNat (g 1 1) + j) = g2 (50 + Int.toNat (g 1 1) + j) 2 ∧ g2 103 (Int.toNat (g 1 1) + j) = g2 (50 + Int.toNat (g 1 1) + j) 3 ∧ g2 104 (Int.toNat (g 1 1) + j) = g2 (50 + Int.toNat (g 1 1) + j) 4 ∧ g2 105 (Int.toNat (g 1 1) + j) = g2 (50 + Int.toNat (g 1 1) + j) 5 ∧ g2 106 (Int.toNat (g 1 1) + j) = g2 (50 + Int.toNat (g 1 1) + j) 6 ∧ g2 107 (Int.toNat (g 1 1) + j) = g2 (50 + Int.toNat (g 1 1) + j) 7 ∧ g2 108 (Int.toNat (g 1 1) + j) = g2 (50 + Int.toNat (g 1 1) + j) 8) ∧ ((0 ≤ g2 (50 + Int.toNat (g 1 1) + j) 0 ∧ g2 (50 + Int.toNat (g 1 1) + j) 0 ≤ 3) ∧ (1 ≤ g2 (50 + Int.toNat (g 1 1) + j) 2 ∧ g2 (50 + Int.toNat (g 1 1) + j) 2 ≤ 719) ∧ (0 ≤ g2 (50 + Int.toNat (g 1 1) + j) 3 ∧ g2 (50 + Int.toNat (g 1 1) + j) 3 ≤ 3) ∧ (0 ≤ g2 (50 + Int.toNat (g 1 1) + j) 4 ∧ g2 (50 + Int.toNat (g 1 1) + j) 4 ≤ 5) ∧ (0 ≤ g2 (50 + Int.toNat (g 1 1) + j) 5 ∧ g2 (50 + Int.toNat (g 1 1) + j) 5 ≤ 7) ∧ (-1 ≤ g2 (50 + Int.toNat (g 1 1) + j) 6 ∧ g2 (50 + Int.toNat (g 1 1) + j) 6 ≤ 99) ∧ (0 ≤ g2 (50 + Int.toNat (g 1 1) + j) 7 ∧ g2 (50 + Int.toNat (g 1 1) + j) 7 ≤ 3) ∧ (-1 ≤ g2 (50 + Int.toNat (g 1 1) + j) 8 ∧ g2 (50 + Int.toNat (g 1 1) + j) 8 ≤ 719)) ∧ g2 91 (Int.toNat (g 1 1) + j) = g2 (50 + Int.toNat (g 1 1) + j) 1 ∧ 0 ≤ g2 (50 + Int.toNat (g 1 1) + j) 1 ∧ g2 (50 + Int.toNat (g 1 1) + j) 1 < g2 (50 + Int.toNat (g 1 1) + j) 2) : yRV g2 := by
  obtain ⟨hVt, ⟨c1, c2, c3⟩, hVv, ⟨⟨d1, d2, d3, d4, d5⟩, hE⟩, f1, f2, f3, f4⟩ := h
  have P : ∀ a b : Nat, (a = 1 ∧ 2 ≤ b) ∨ a = 4 ∨ (13 ≤ a ∧ a ≤ 17) ∨ (19 ≤ a ∧ a ≤ 22) ∨ (a = 90 ∧ b ≤ 11) ∨ (92 ≤ a ∧ a ≤ 97) → g2 a b = g a b := fun a b z => H a b (by unfold yRd; omega) (by omega) (by omega) (by omega) (by omega) (by omega) (by omega) (by omega) (by omega)
  have C : ∀ i b : Nat, (i : Int) < g 1 1 → b ≤ 8 → g2 (50 + i) b = g (50 + i) b := fun i b hi hb => H _ b (by unfold yRd; omega) (by omega) (by omega) (by omega) (by omega) (by omega) (by omega) (by omega) (by omega)
  have R : ∀ a i : Nat, (101 ≤ a ∧ a ≤ 108) ∨ a = 91 → (i : Int) < g 1 1 ∨ 40 ≤ i → g2 a i = g a i := fun a i ha hi => H a i (by unfold yRd; omega) (by omega) (by omega) (by omega) (by omega) (by omega) (by omega) (by omega) (by omega)
  refine ⟨ht, ⟨by rw [e11, e22], by omega, fun i hi => ?_⟩, fun k o hk => ?_, ⟨⟨by rw [P 90 5 (by omega), P 4 5 (by omega)]; exact d1, by rw [P 90 4 (by omega), P 4 6 (by omega)]; exact d2, by rw [P 4 5 (by omega)]; exact d3, by rw [P 4 5 (by omega), P 4 6 (by omega)]; exact d4, by rw [P 4 6 (by omega)]; exact d5⟩, fun j hj => ?_⟩, by rw [P 90 6 (by omega), P 1 7 (by omega)]; exact f1, by rw [P 90 10 (by omega), P 1 8 (by omega)]; exact f2, by rw [P 90 11 (by omega), P 1 10 (by omega)]; exact f3, fun j hj => ?_⟩
  · rw [e11] at hi
    by_cases hh : (i : Int) < g 1 1
    · rw [C i 0 hh (by decide), C i 2 hh (by decide), C i 3 hh (by decide), C i 4 hh (by decide), C i 5 hh (by decide), C i 6 hh (by decide), C i 7 hh (by decide), C i 8 hh (by decide), R 101 i (by omega) (Or.inl hh), R 102 i (by omega) (Or.inl hh), R 103 i (by omega) (Or.inl hh), R 104 i (by omega) (Or.inl hh), R 105 i (by omega) (Or.inl hh), R 106 i (by omega) (Or.inl hh), R 107 i (by omega) (Or.inl hh), R 108 i (by omega) (Or.inl hh)]
      exact c3 i hh
    · have q := N (i - Int.toNat (g 1 1)) (by omega)
      rw [show Int.toNat (g 1 1) + (i - Int.toNat (g 1 1)) = i by omega, show 50 + Int.toNat (g 1 1) + (i - Int.toNat (g 1 1)) = 50 + i by omega] at q
      exact ⟨q.1, q.2.1⟩
  · unfold yok at hk
    rw [e11] at hk
    by_cases hh : k = 0 ∧ g 1 1 ≤ o
    · obtain ⟨rfl, h0⟩ := hh
      have ho : o < g 1 1 + n := by omega
      have q := N (Int.toNat o - Int.toNat (g 1 1)) (by omega)
      rw [show Int.toNat (g 1 1) + (Int.toNat o - Int.toNat (g 1 1)) = Int.toNat o by omega, show 50 + Int.toNat (g 1 1) + (Int.toNat o - Int.toNat (g 1 1)) = 50 + Int.toNat o by omega] at q
      rw [ycod_0, ykv_0]
      exact ⟨q.2.2.1, fun _ => q.2.2.2, fun z => absurd z (by decide), fun z => absurd z (by decide)⟩
    · have hk0 : yok g k o := by
        unfold yok
        omega
      have ev : ykv g2 k o = ykv g k o := ykv.mono (fun z => by
        have : 0 ≤ o ∧ o < g 1 1 := by omega
        exact C _ 1 (by omega) (by decide)) (fun j => P 13 j (by omega)) (fun j => P 14 j (by omega)) (P 1 9 (by omega))
      have e91 : g2 91 (Int.toNat (ycod k o)) = g 91 (Int.toNat (ycod k o)) := by
        refine R 91 _ (Or.inr rfl) ?_
        rcases hk0 with ⟨rfl, z⟩ | ⟨rfl, z⟩ | ⟨rfl, z⟩ | ⟨rfl, z⟩
        · rw [ycod_0]; omega
        · rw [ycod_1]; omega
        · rw [ycod_2]; omega
        · rw [ycod_3]; omega
      rw [ev, e91]
      refine ⟨(hVv k o hk0).1, (hVv k o hk0).2.mono (fun z => ?_)⟩
      have : 0 ≤ o ∧ o < g 1 1 := by omega
      exact C _ 2 (by omega) (by decide)
  · rw [P 4 6 (by omega)] at hj
    rw [P 19 j (by omega), P 20 j (by omega), P 21 j (by omega), P 22 j (by omega), P 92 j (by omega), P 93 j (by omega), P 94 j (by omega)]
    obtain ⟨k1, k2, k3, k4, k5, k6⟩ := hE j hj
    have ee : g 19 j = 0 → g2 (50 + Int.toNat (g 20 j)) 2 = g (50 + Int.toNat (g 20 j)) 2 := fun z => by
      have : 0 ≤ g 20 j ∧ g 20 j < g 1 1 := by
        rcases k1 with k1 | k1 | k1 | k1 <;> omega
      exact C _ 2 (by omega) (by decide)
    refine ⟨?_, k2, k3, k4, k5.mono ee, k6.mono ee⟩
    unfold yok at k1 ⊢
    rw [e11]
    omega
  · rw [P 1 7 (by omega)] at hj
    rw [P 95 j (by omega), P 96 j (by omega), P 97 j (by omega), P 15 j (by omega), P 16 j (by omega), P 17 j (by omega)]
    exact f4 j hj
/-! the two tapes are read alike -/
def ySal0 (S T : Int → Int) : Prop := ∀ p : Int, 0 ≤ p → S p = T p ∨ (S p < 35 ∧ T p < 35)
theorem yNm_al0 {S T : Int → Int} (h : ySal0 S T) : ∀ (m : Nat) (p v : Int), 0 ≤ p → yNm S m p v = yNm T m p v
  | 0, _, _, _ => rfl
  | m + 1, p, v, hp => by
    unfold yNm
    rcases h p hp with e | e
    · rw [e, yNm_al0 h m _ _ (by omega)]
    · rw [if_neg (by omega), if_neg (by omega)]
theorem yRn_al0 {S T : Int → Int} (h : ySal0 S T) {d : Nat} {lo hi p f : Int} (hp : 0 ≤ p) : yRn S d lo hi p f = yRn T d lo hi p f := by
  unfold yRn
  rw [yNm_al0 h _ _ _ hp]
theorem yTk_al0 {S T : Int → Int} (h : ySal0 S T) {c p f : Int} (hc : 35 ≤ c) (hp : 0 ≤ p) : yTk S c p f = yTk T c p f := by
  unfold yTk
  rcases h p hp with e | e
  · rw [e]
  · rw [if_neg (by omega), if_neg (by omega)]
theorem yEx_al0 {S T : Int → Int} (h : ySal0 S T) {c p f : Int} (hc : 35 ≤ c) (hp : 0 ≤ p) : yEx S c p f = yEx T c p f := by
  unfold yEx
  rcases h p hp with e | e
  · rw [e]
  · rw [if_neg (show ¬ S p = c by omega), if_neg (show ¬ T p = c by omega)]
theorem yS1_al0 {S T : Int → Int} (h : ySal0 S T) (hb : ySb T) : yS1 S = yS1 T := by
  unfold yS1
  exact yRn_al0 h (by decide)
theorem yS2_al0 {S T : Int → Int} (h : ySal0 S T) (hb : ySb T) : yS2 S = yS2 T := by
  unfold yS2
  rw [yS1_al0 h hb]
  exact yEx_al0 h (by decide) (yS1_b hb).1.1
theorem yS3_al0 {S T : Int → Int} (h : ySal0 S T) (hb : ySb T) : yS3 S = yS3 T := by
  unfold yS3
  rw [yS1_al0 h hb, yS2_al0 h hb]
  exact yRn_al0 h (yS2_b hb).1.1
theorem yS4_al0 {S T : Int → Int} (h : ySal0 S T) (hb : ySb T) : yS4 S = yS4 T := by
  unfold yS4
  rw [yS3_al0 h hb]
  exact yEx_al0 h (by decide) (yS3_b hb).1.1
theorem yS5_al0 {S T : Int → Int} (h : ySal0 S T) (hb : ySb T) : yS5 S = yS5 T := by
  unfold yS5
  rw [yS4_al0 h hb]
  exact yRn_al0 h (yS4_b hb).1.1
theorem yS6_al0 {S T : Int → Int} (h : ySal0 S T) (hb : ySb T) : yS6 S = yS6 T := by
  unfold yS6
  rw [yS5_al0 h hb]
  exact yEx_al0 h (by decide) (yS5_b hb).1.1
theorem yS7_al0 {S T : Int → Int} (h : ySal0 S T) (hb : ySb T) : yS7 S = yS7 T := by
  unfold yS7
  rw [yS6_al0 h hb]
  exact yRn_al0 h (yS6_b hb).1.1
theorem yS8_al0 {S T : Int → Int} (h : ySal0 S T) (hb : ySb T) : yS8 S = yS8 T := by
  unfold yS8
  rw [yS7_al0 h hb]
  exact yEx_al0 h (by decide) (yS7_b hb).1.1
theorem yS9_al0 {S T : Int → Int} (h : ySal0 S T) (hb : ySb T) : yS9 S = yS9 T := by
  unfold yS9
  rw [yS8_al0 h hb]
  exact yRn_al0 h (yS8_b hb).1.1
theorem yS10_al0 {S T : Int → Int} (h : ySal0 S T) (hb : ySb T) : yS10 S = yS10 T := by
  unfold yS10
  rw [yS9_al0 h hb]
  exact yTk_al0 h (by decide) (yS9_b hb).1.1
theorem yS11_al0 {S T : Int → Int} (h : ySal0 S T) (hb : ySb T) : yS11 S = yS11 T := by
  unfold yS11
  rw [yS9_al0 h hb, yS10_al0 h hb]
  rw [yRn_al0 h (yS10_b hb).1.1]
theorem yS12_al0 {S T : Int → Int} (h : ySal0 S T) (hb : ySb T) : yS12 S = yS12 T := by
  unfold yS12
  rw [yS11_al0 h hb]
  exact yTk_al0 h (by decide) (yS11_b hb).1.1
theorem yS13_al0 {S T : Int → Int} (h : ySal0 S T) (hb : ySb T) : yS13 S = yS13 T := by
  unfold yS13
  rw [yS5_al0 h hb, yS11_al0 h hb, yS12_al0 h hb]
  rw [yRn_al0 h (yS12_b hb).1.1]
theorem yPf_al0 {S T : Int → Int} (h : ySal0 S T) (hb : ySb T) (len : Int) : yPf S len = yPf T len := by
  unfold yPf
  rw [yS13_al0 h hb]
theorem yPv_al0 {S T : Int → Int} (h : ySal0 S T) (hb : ySb T) : yPv S = yPv T := by
  funext j
  unfold yPv
  rw [yS1_al0 h hb, yS3_al0 h hb, yS5_al0 h hb, yS7_al0 h hb, yS9_al0 h hb, yS11_al0 h hb, yS13_al0 h hb]
theorem yj_tape {g : yM} (hJ : yJnv g) : ySal0 (ySc g) (yTm g) ∧ ySb (yTm g) := by
  obtain ⟨l1, l2, l3⟩ := hJ.2.1
  refine ⟨fun p hp => ?_, fun p hp => ?_⟩
  · unfold ySc yTm
    rw [l1]
    by_cases h : p < g 2 2
    · rw [if_pos h, if_pos h]
      exact Or.inl (l3 (Int.toNat p) (by omega)).symm
    · rw [if_neg h, if_neg h]
      exact Or.inr ⟨by decide, by decide⟩
  · unfold yTm
    rw [l1, if_neg (by omega)]
    decide
theorem yjc_CO0 {g : yM} (hJ : yJnv g) : yTy zpZ g := by
  exact hJ.1.1
theorem yjm_CO0 {g g1 : yM} {r1 : Int} (hJ : yJnv g)  (a0 : g 1 1 = 40 → r1 = -3 ∧ g1 = g) (a1 : g 1 1 < 40 → yPf (ySc g) (g 2 2) ≠ -1 → r1 = -100 - yPf (ySc g) (g 2 2) ∧ yTy zpZ g1 ∧ g1 2 2 = 0 ∧ (∀ a b : Nat, ¬ (a = 2 ∧ 1 ≤ b ∧ b ≤ 3) → ¬ (a = (50 + Int.toNat (g 1 1)) ∧ 1 ≤ b ∧ b ≤ 7) → g1 a b = g a b)) (a2 : g 1 1 < 40 → yPf (ySc g) (g 2 2) = -1 → r1 = g 1 1 ∧ yTy zpZ g1 ∧ g1 2 2 = 0 ∧ g1 1 1 = g 1 1 + 1 ∧ (∀ j : Nat, 1 ≤ j → j ≤ 7 → g1 (50 + Int.toNat (g 1 1)) j = yPv (ySc g) j) ∧ g1 (50 + Int.toNat (g 1 1)) 0 = g 1 8 ∧ g1 (50 + Int.toNat (g 1 1)) 8 = -1 ∧ (∀ a b : Nat, ¬ (a = 2 ∧ 1 ≤ b ∧ b ≤ 3) → a ≠ (50 + Int.toNat (g 1 1)) → ¬ (a = 1 ∧ b = 1) → ¬ ((50 ≤ a ∧ a ≤ 89) ∧ (9 ≤ b ∧ b ≤ 11)) → g1 a b = g a b) ∧ yStl g1) : yTy zpZ g1 := by
  have hz := hJ.1.1.sz
  have fr : ∀ x j : Nat, 90 ≤ x → g1 x j = g x j := fun x j hx => by
    by_cases h : g 1 1 = 40
    · rw [(a0 h).2]
    · by_cases hF : yPf (ySc g) (g 2 2) = -1
      · exact (a2 (by omega) hF).2.2.2.2.2.2.2.1 x j (by omega) (by omega) (by omega) (by omega)
      · exact (a1 (by omega) hF).2.2.2 x j (by omega) (by omega)
  by_cases h : g 1 1 = 40
  · rw [(a0 h).2]
    exact hJ.1.1
  · by_cases hF : yPf (ySc g) (g 2 2) = -1
    · exact (a2 (by omega) hF).2.1
    · exact (a1 (by omega) hF).2.1
theorem yj_CO {g g1 g2 : yM} {r1 r2 : Int} (hJ : yJnv g)  (a0 : g 1 1 = 40 → r1 = -3 ∧ g1 = g) (a1 : g 1 1 < 40 → yPf (ySc g) (g 2 2) ≠ -1 → r1 = -100 - yPf (ySc g) (g 2 2) ∧ yTy zpZ g1 ∧ g1 2 2 = 0 ∧ (∀ a b : Nat, ¬ (a = 2 ∧ 1 ≤ b ∧ b ≤ 3) → ¬ (a = (50 + Int.toNat (g 1 1)) ∧ 1 ≤ b ∧ b ≤ 7) → g1 a b = g a b)) (a2 : g 1 1 < 40 → yPf (ySc g) (g 2 2) = -1 → r1 = g 1 1 ∧ yTy zpZ g1 ∧ g1 2 2 = 0 ∧ g1 1 1 = g 1 1 + 1 ∧ (∀ j : Nat, 1 ≤ j → j ≤ 7 → g1 (50 + Int.toNat (g 1 1)) j = yPv (ySc g) j) ∧ g1 (50 + Int.toNat (g 1 1)) 0 = g 1 8 ∧ g1 (50 + Int.toNat (g 1 1)) 8 = -1 ∧ (∀ a b : Nat, ¬ (a = 2 ∧ 1 ≤ b ∧ b ≤ 3) → a ≠ (50 + Int.toNat (g 1 1)) → ¬ (a = 1 ∧ b = 1) → ¬ ((50 ≤ a ∧ a ≤ 89) ∧ (9 ≤ b ∧ b ≤ 11)) → g1 a b = g a b) ∧ yStl g1) (b0 : g1 90 22 = 40 → r2 = -3 ∧ g2 = g1) (b1 : g1 90 22 ≠ 40 → yPf (yTm g1) (g1 90 13) ≠ -1 → r2 = -100 - yPf (yTm g1) (g1 90 13) ∧ yTy zpZ g2 ∧ g2 90 13 = 0 ∧ (∀ a b : Nat, ¬ (a = 90 ∧ (b = 13 ∨ (16 ≤ b ∧ b ≤ 19))) → a ≠ 109 → g2 a b = g1 a b)) (b2 : g1 90 22 ≠ 40 → yPf (yTm g1) (g1 90 13) = -1 → r2 = g1 90 22 ∧ yTy zpZ g2 ∧ g2 90 13 = 0 ∧ g2 90 22 = g1 90 22 + 1 ∧ (g2 91 (Int.toNat (g1 90 22)) = yPv (yTm g1) 1 ∧ g2 102 (Int.toNat (g1 90 22)) = yPv (yTm g1) 2 ∧ g2 103 (Int.toNat (g1 90 22)) = yPv (yTm g1) 3 ∧ g2 104 (Int.toNat (g1 90 22)) = yPv (yTm g1) 4 ∧ g2 105 (Int.toNat (g1 90 22)) = yPv (yTm g1) 5 ∧ g2 106 (Int.toNat (g1 90 22)) = yPv (yTm g1) 6 ∧ g2 107 (Int.toNat (g1 90 22)) = yPv (yTm g1) 7) ∧ g2 101 (Int.toNat (g1 90 22)) = g1 90 10 ∧ g2 108 (Int.toNat (g1 90 22)) = -1 ∧ (∀ a b : Nat, ¬ (a = 90 ∧ (b = 13 ∨ (16 ≤ b ∧ b ≤ 19) ∨ b = 22)) → a ≠ 109 → ¬ ((a = 91 ∨ (101 ≤ a ∧ a ≤ 108)) ∧ b = (Int.toNat (g1 90 22))) → g2 a b = g1 a b)) : yJnv g2 ∧ r1 = r2 := by
  have hz := hJ.1.1.sz
  have fr : ∀ x j : Nat, 90 ≤ x → g1 x j = g x j := fun x j hx => by
    by_cases h : g 1 1 = 40
    · rw [(a0 h).2]
    · by_cases hF : yPf (ySc g) (g 2 2) = -1
      · exact (a2 (by omega) hF).2.2.2.2.2.2.2.1 x j (by omega) (by omega) (by omega) (by omega)
      · exact (a1 (by omega) hF).2.2.2 x j (by omega) (by omega)
  have hc := hJ.2.2.1.1
  obtain ⟨hsal, hsb⟩ := yj_tape hJ
  have f22 : g1 90 22 = g 1 1 := by rw [fr 90 22 (by decide)]; exact hc
  have f13 : g1 90 13 = g 2 2 := by rw [fr 90 13 (by decide)]; exact hJ.2.1.1
  have hT : yTm g1 = yTm g := by
    funext p
    unfold yTm
    rw [fr 90 13 (by decide), fr 98 _ (by decide)]
  have hPf : yPf (yTm g1) (g1 90 13) = yPf (ySc g) (g 2 2) := by rw [hT, f13, yPf_al0 hsal hsb]
  rw [hPf] at b1 b2
  have hPv : yPv (yTm g1) = yPv (ySc g) := by rw [hT, yPv_al0 hsal hsb]
  rw [hPv] at b2
  by_cases h : g 1 1 = 40
  · have e := a0 h
    have m := b0 (by omega)
    rw [m.2, e.2]
    exact ⟨hJ, by rw [e.1, m.1]⟩
  · by_cases hF : yPf (ySc g) (g 2 2) = -1
    · obtain ⟨p1, p2, p3, p4, p5, p6, p7, p8, p9⟩ := a2 (by omega) hF
      obtain ⟨q1, q2, q3, q4, ⟨v1, v2, v3, v4, v5, v6, v7⟩, q6, q7, q8⟩ := b2 (by omega) hF
      rw [f22] at q1 q4 v1 v2 v3 v4 v5 v6 v7 q6 q7 q8
      have bv := yPv_b (ySc_sb hJ.1.1) hF
      have hd := hJ.2.2.2.2.2.2.1
      have low : ∀ x j : Nat, x < 90 → g2 x j = g1 x j := fun x j hx => q8 x j (by omega) (by omega) (by omega)
      have w1 := p5 1 (by decide) (by decide)
      have w2 := p5 2 (by decide) (by decide)
      have w3 := p5 3 (by decide) (by decide)
      have w4 := p5 4 (by decide) (by decide)
      have w5 := p5 5 (by decide) (by decide)
      have w6 := p5 6 (by decide) (by decide)
      have w7 := p5 7 (by decide) (by decide)
      refine ⟨⟨⟨q2, hJ.1.2.mono' (fun a b hab => ?_)⟩, yRV_grow (n := 1) hJ.2 (by omega) (by rw [low 1 1 (by decide), p4]; rfl) (by rw [q4]; rfl) ⟨by rw [q3, low 2 2 (by decide), p3], by rw [low 2 2 (by decide), p3]; exact ⟨by decide, by decide⟩, fun k hk => ?_⟩ (fun a b hab n1 n2 n3 n4 n5 n6 n7 n8 => ?_) (fun j hj => ?_)⟩, by rw [p1, q1]⟩
      · unfold yRe at hab
        rw [q8 a b (by omega) (by omega) (by omega)]
        exact p8 a b (by omega) (by omega) (by omega) (by omega)
      · rw [low 2 2 (by decide), p3] at hk
        omega
      · unfold yRd at hab
        rw [q8 a b (by omega) (by omega) (by omega)]
        exact p8 a b (by omega) (by omega) (by omega) (by omega)
      · have hj0 : j = 0 := by omega
        subst hj0
        have e6 : g1 90 10 = g 1 8 := by rw [fr 90 10 (by decide)]; exact hd.1
        rw [Nat.add_zero, Nat.add_zero, low _ 0 (by omega), low _ 1 (by omega), low _ 2 (by omega), low _ 3 (by omega), low _ 4 (by omega), low _ 5 (by omega), low _ 6 (by omega), low _ 7 (by omega), low _ 8 (by omega), w1, w2, w3, w4, w5, w6, w7, p6, p7, v1, v2, v3, v4, v5, v6, v7, q6, q7, e6]
        exact ⟨⟨rfl, rfl, rfl, rfl, rfl, rfl, rfl, rfl⟩, ⟨by omega, by omega, by omega, by omega, by omega, by omega, by omega, by omega⟩, rfl, by omega, by omega⟩
    · obtain ⟨p1, p2, p3, p4⟩ := a1 (by omega) hF
      obtain ⟨q1, q2, q3, q4⟩ := b1 (by omega) hF
      have low : ∀ x j : Nat, x < 90 → g2 x j = g1 x j := fun x j hx => q4 x j (by omega) (by omega)
      refine ⟨⟨⟨q2, hJ.1.2.mono' (fun a b hab => ?_)⟩, yRV_grow (n := 0) hJ.2 (by omega) (by rw [low 1 1 (by decide), p4 1 1 (by omega) (by omega)]; omega) (by rw [q4 90 22 (by omega) (by decide), f22]; omega) ⟨by rw [q3, low 2 2 (by decide), p3], by rw [low 2 2 (by decide), p3]; exact ⟨by decide, by decide⟩, fun k hk => ?_⟩ (fun a b hab n1 n2 n3 n4 n5 n6 n7 n8 => ?_) (fun j hj => absurd hj (by omega))⟩, by rw [p1, q1]⟩
      · unfold yRe at hab
        rw [q4 a b (by omega) (by omega)]
        exact p4 a b (by omega) (by omega)
      · rw [low 2 2 (by decide), p3] at hk
        omega
      · unfold yRd at hab
        rw [q4 a b (by omega) (by omega)]
        exact p4 a b (by omega) (by omega)
theorem yfx_al {g g1 : yM} {p t : Int} (hA : yRA g) (hp : 0 ≤ p ∧ p < 6) (h1 : g 40 (Int.toNat p) = 1) (f : ∀ x j : Nat, x = 122 ∨ x = 123 → g1 x j = g x j) : (yfVm g1 p t ↔ yfV g p t) ∧ (yfV g p t → ∀ j : Nat, j < 5 → yfxm g1 p t j = yfx g p t j) := by
  have h3 := hA.2.1 (Int.toNat p) (by omega)
  have hl : g 122 (Int.toNat p) = g 42 (Int.toNat p) := by omega
  have hx : 0 ≤ t ∧ t ≤ g 42 (Int.toNat p) - 5 → ∀ j : Nat, j < 5 → yfxm g1 p t j = yfx g p t j := fun ht j hj => by
    unfold yfxm yfx
    rw [f 123 _ (Or.inr rfl)]
    have h4 := hA.2.2.1 (Int.toNat p) (Int.toNat (t + j)) (by omega) (by omega)
    rw [show 60 * Int.toNat p + Int.toNat (t + j) = Int.toNat (60 * p + (t + j)) by omega] at h4
    rw [h4]
  have hk : (0 ≤ t ∧ t ≤ g 42 (Int.toNat p) - 5) → (yfok (yfxm g1 p t) ↔ yfok (yfx g p t)) := fun ht => by
    have e := hx ht
    unfold yfok
    rw [e 0 (by decide), e 1 (by decide), e 2 (by decide), e 3 (by decide), e 4 (by decide)]
  refine ⟨?_, fun h => hx ⟨h.1, h.2.1⟩⟩
  unfold yfVm yfV
  rw [f 122 _ (Or.inl rfl), hl]
  exact ⟨fun h => ⟨h.1, h.2.1, (hk ⟨h.1, h.2.1⟩).mp h.2.2⟩, fun h => ⟨h.1, h.2.1, (hk ⟨h.1, h.2.1⟩).mpr h.2.2⟩⟩
theorem yjc_CS0 {g : yM} (hJ : yJnv g) : yTy zpZ g := by
  exact hJ.1.1
theorem yjm_CS0 {g g1 : yM} {p i n r1 : Int} (hJ : yJnv g)  (a0 : ¬ (0 ≤ p ∧ p < 6 ∧ 1 ≤ n ∧ n ≤ 12) → r1 = -1 ∧ g1 = g) (a1 : (0 ≤ p ∧ p < 6 ∧ 1 ≤ n ∧ n ≤ 12) → g 40 (Int.toNat p) = -1 → r1 = 0 ∧ g1 = g) (a2 : (0 ≤ p ∧ p < 6 ∧ 1 ≤ n ∧ n ≤ 12) → g 40 (Int.toNat p) ≠ -1 → g 40 (Int.toNat p) ≠ 1 → r1 = -12 ∧ g1 = g) (a3 : (0 ≤ p ∧ p < 6 ∧ 1 ≤ n ∧ n ≤ 12) → g 40 (Int.toNat p) = 1 → ∃ c : Nat, r1 = (c : Int) ∧ (c : Int) ≤ n ∧ g 1 1 + c ≤ 40 ∧ ((c : Int) = n ∨ g 1 1 + c = 40 ∨ ¬ yfV g p (i + 5 * c)) ∧ yCr g p i c g1) : yTy zpZ g1 := by
  have hz := hJ.1.1.sz
  have fr : ∀ x j : Nat, x < 50 ∨ 90 ≤ x → ¬ (x = 1 ∧ j = 1) → g1 x j = g x j := fun x j hx hx2 => by
    by_cases ok : (0 ≤ p ∧ p < 6 ∧ 1 ≤ n ∧ n ≤ 12)
    · by_cases h1 : g 40 (Int.toNat p) = -1
      · rw [(a1 ok h1).2]
      · by_cases h2 : g 40 (Int.toNat p) = 1
        · obtain ⟨c, -, -, -, -, hc⟩ := a3 ok h2
          exact hc.2.2.2.1 x j (by omega) hx2 (by omega)
        · rw [(a2 ok h1 h2).2]
    · rw [(a0 ok).2]
  by_cases ok : (0 ≤ p ∧ p < 6 ∧ 1 ≤ n ∧ n ≤ 12)
  · by_cases h1 : g 40 (Int.toNat p) = -1
    · rw [(a1 ok h1).2]
      exact hJ.1.1
    · by_cases h2 : g 40 (Int.toNat p) = 1
      · obtain ⟨c, -, -, -, -, hc⟩ := a3 ok h2
        exact hc.1
      · rw [(a2 ok h1 h2).2]
        exact hJ.1.1
  · rw [(a0 ok).2]
    exact hJ.1.1
theorem yj_CS {g g1 g2 : yM} {p i n r1 r2 : Int} (hJ : yJnv g)  (a0 : ¬ (0 ≤ p ∧ p < 6 ∧ 1 ≤ n ∧ n ≤ 12) → r1 = -1 ∧ g1 = g) (a1 : (0 ≤ p ∧ p < 6 ∧ 1 ≤ n ∧ n ≤ 12) → g 40 (Int.toNat p) = -1 → r1 = 0 ∧ g1 = g) (a2 : (0 ≤ p ∧ p < 6 ∧ 1 ≤ n ∧ n ≤ 12) → g 40 (Int.toNat p) ≠ -1 → g 40 (Int.toNat p) ≠ 1 → r1 = -12 ∧ g1 = g) (a3 : (0 ≤ p ∧ p < 6 ∧ 1 ≤ n ∧ n ≤ 12) → g 40 (Int.toNat p) = 1 → ∃ c : Nat, r1 = (c : Int) ∧ (c : Int) ≤ n ∧ g 1 1 + c ≤ 40 ∧ ((c : Int) = n ∨ g 1 1 + c = 40 ∨ ¬ yfV g p (i + 5 * c)) ∧ yCr g p i c g1) (b0 : ¬ (0 ≤ p ∧ p < 6 ∧ 1 ≤ n ∧ n ≤ 12) → r2 = -1 ∧ g2 = g1) (b1 : (0 ≤ p ∧ p < 6 ∧ 1 ≤ n ∧ n ≤ 12) → g1 121 (Int.toNat p) < 0 → r2 = 0 ∧ g2 = g1) (b2 : (0 ≤ p ∧ p < 6 ∧ 1 ≤ n ∧ n ≤ 12) → 0 ≤ g1 121 (Int.toNat p) → g1 121 (Int.toNat p) ≠ 21 → r2 = -12 ∧ g2 = g1) (b3 : (0 ≤ p ∧ p < 6 ∧ 1 ≤ n ∧ n ≤ 12) → g1 121 (Int.toNat p) = 21 → ∃ c : Nat, r2 = (c : Int) ∧ (c : Int) ≤ n ∧ g1 90 22 + c ≤ 40 ∧ ((c : Int) = n ∨ g1 90 22 + c = 40 ∨ ¬ yfVm g1 p (i + 5 * c)) ∧ yMr g1 p i c g2) : yJnv g2 ∧ r1 = r2 := by
  have hz := hJ.1.1.sz
  have fr : ∀ x j : Nat, x < 50 ∨ 90 ≤ x → ¬ (x = 1 ∧ j = 1) → g1 x j = g x j := fun x j hx hx2 => by
    by_cases ok : (0 ≤ p ∧ p < 6 ∧ 1 ≤ n ∧ n ≤ 12)
    · by_cases h1 : g 40 (Int.toNat p) = -1
      · rw [(a1 ok h1).2]
      · by_cases h2 : g 40 (Int.toNat p) = 1
        · obtain ⟨c, -, -, -, -, hc⟩ := a3 ok h2
          exact hc.2.2.2.1 x j (by omega) hx2 (by omega)
        · rw [(a2 ok h1 h2).2]
    · rw [(a0 ok).2]
  have hc0 := hJ.2.2.1.1
  have f22 : g1 90 22 = g 1 1 := by rw [fr 90 22 (by omega) (by omega)]; exact hc0
  rw [fr 121 _ (by omega) (by omega)] at b1 b2 b3
  rw [f22] at b3
  by_cases ok : (0 ≤ p ∧ p < 6 ∧ 1 ≤ n ∧ n ≤ 12)
  · have h3 := (hJ.1.2.2.1 (Int.toNat p) (by omega)).1
    have h6 := hJ.1.2.1
    by_cases h1 : g 40 (Int.toNat p) = -1
    · have e := a1 ok h1
      have m := b1 ok (by omega)
      rw [m.2, e.2]
      exact ⟨hJ, by rw [e.1, m.1]⟩
    · by_cases h2 : g 40 (Int.toNat p) = 1
      · obtain ⟨c, p1, p2, p3, p4, p5⟩ := a3 ok h2
        obtain ⟨d, q1, q2, q3, q4, q5⟩ := b3 ok (by omega)
        have al := fun t => yfx_al (t := t) hJ.1.2 ⟨ok.1, ok.2.1⟩ h2 (fun x j hx => fr x j (by omega) (by omega))
        have hcd : c = d := by
          rcases Nat.lt_trichotomy c d with h | h | h
          · have v := (al (i + 5 * c)).1.mp ((q5.2.2.1 c h).1)
            rcases p4 with z | z | z
            · omega
            · omega
            · exact absurd v z
          · exact h
          · have v := (al (i + 5 * d)).1.mpr ((p5.2.2.1 d h).1)
            rcases q4 with z | z | z
            · omega
            · omega
            · exact absurd v z
        subst hcd
        obtain ⟨t1, s1, N1, F1, -⟩ := p5
        obtain ⟨t2, s2, N2, F2⟩ := q5
        rw [f22] at s2 N2 F2
        have hd := hJ.2.2.2.2.2.2.1
        have low : ∀ x j : Nat, x < 90 → g2 x j = g1 x j := fun x j hx => F2 x j (by omega) (by omega) (by omega)
        refine ⟨⟨⟨t2, hJ.1.2.mono' (fun a b hab => ?_)⟩, yRV_grow (n := c) hJ.2 p3 (by rw [low 1 1 (by decide)]; exact s1) s2 ?_ (fun a b hab n1 n2 n3 n4 n5 n6 n7 n8 => ?_) (fun j hj => ?_)⟩, by rw [p1, q1]⟩
        · unfold yRe at hab
          rw [F2 a b (by omega) (by omega) (by omega)]
          exact F1 a b (by omega) (by omega) (by omega)
        · refine hJ.2.1.mono (yUn.eq (wr := [(50, 89, 0, 0), (1, 1, 1, 1), (91, 91, 0, 0), (101, 108, 0, 0), (109, 109, 0, 0), (90, 90, 1, 22)]) (fun a b hn => ?_) (by decide +kernel))
          have m1 : ¬ (50 ≤ a ∧ a ≤ 89) := fun z => hn (50, 89, 0, 0) (by decide) ⟨by show (50 : Int) ≤ a; omega, by show (a : Int) ≤ 89; omega, Or.inl rfl⟩
          have m2 : ¬ (a = 1 ∧ b = 1) := fun z => hn (1, 1, 1, 1) (by decide) (by rw [z.1, z.2]; exact ⟨by decide, by decide, Or.inr rfl⟩)
          have m3 : a ≠ 91 := fun z => hn (91, 91, 0, 0) (by decide) (by rw [z]; exact ⟨by decide, by decide, Or.inl rfl⟩)
          have m4 : ¬ (101 ≤ a ∧ a ≤ 108) := fun z => hn (101, 108, 0, 0) (by decide) ⟨by show (101 : Int) ≤ a; omega, by show (a : Int) ≤ 108; omega, Or.inl rfl⟩
          have m5 : a ≠ 109 := fun z => hn (109, 109, 0, 0) (by decide) (by rw [z]; exact ⟨by decide, by decide, Or.inl rfl⟩)
          have m6 : ¬ (a = 90 ∧ b = 22) := fun z => hn (90, 90, 1, 22) (by decide) (by rw [z.1, z.2]; exact ⟨by decide, by decide, Or.inr rfl⟩)
          rw [F2 a b m5 (by omega) m6]
          exact F1 a b (by omega) m2 (by omega)
        · unfold yRd at hab
          rw [F2 a b (by omega) (by omega) (by omega)]
          exact F1 a b (by omega) (by omega) (by omega)
        · obtain ⟨V1, z0, ⟨z1, z2, z3, z4, z5, z6, z7⟩, z8⟩ := N1 j hj
          obtain ⟨V2, y0, y1, y2, y3, y4, y5, y6, y7, y8⟩ := N2 j hj
          have ax := (al (i + 5 * j)).2 V1
          rw [ax 0 (by decide)] at y0
          rw [ax 1 (by decide)] at y1
          rw [ax 2 (by decide)] at y2 y6
          rw [ax 3 (by decide)] at y3
          rw [ax 4 (by decide)] at y4
          have e6 : g1 90 10 = g 1 8 := by rw [fr 90 10 (by omega) (by omega)]; exact hd.1
          have vk := V1.2.2
          unfold yfok at vk
          rw [low _ 0 (by omega), low _ 1 (by omega), low _ 2 (by omega), low _ 3 (by omega), low _ 4 (by omega), low _ 5 (by omega), low _ 6 (by omega), low _ 7 (by omega), low _ 8 (by omega), z0, z1, z2, z3, z4, z5, z6, z7, z8, y0, y1, y2, y3, y4, y5, y6, y7, y8, e6]
          exact ⟨⟨rfl, rfl, rfl, rfl, rfl, rfl, rfl, rfl⟩, ⟨by omega, by omega, by omega, by omega, by omega, by omega, by omega, by omega⟩, rfl, by omega, by omega⟩
      · have e := a2 ok h1 h2
        have m := b2 ok (by omega) (by omega)
        rw [m.2, e.2]
        exact ⟨hJ, by rw [e.1, m.1]⟩
  · have e := a0 ok
    have m := b0 ok
    rw [m.2, e.2]
    exact ⟨hJ, by rw [e.1, m.1]⟩
theorem yj_RW_ {g g1 g2 : yM} {p s n r1 r2 : Int} (hJ : yJnv g) (a0 : (r1 = -1 ∧ ¬ (0 ≤ p ∧ p < 6 ∧ 0 ≤ s ∧ s < 5 ∧ n ≤ 60)) ∨ ((0 ≤ p ∧ p < 6 ∧ 0 ≤ s ∧ s < 5 ∧ n ≤ 60) ∧ ((r1 = -14 ∧ n < 0) ∨ (r1 = 1 ∧ 0 ≤ n)))) (a1 : r1 ≠ 1 → g1 = g) (a2 : r1 = 1 → g1 = yzr (yset (yset g 40 (Int.toNat p) s) 42 (Int.toNat p) n) (44 + Int.toNat p) 0 60) (b0 : (r2 = -1 ∧ ¬ (0 ≤ p ∧ p < 6 ∧ 0 ≤ s ∧ s < 5 ∧ n ≤ 60)) ∨ ((0 ≤ p ∧ p < 6 ∧ 0 ≤ s ∧ s < 5 ∧ n ≤ 60) ∧ ((r2 = -14 ∧ n < 0) ∨ (r2 = 1 ∧ 0 ≤ n)))) (b1 : r2 ≠ 1 → g2 = g1) (b2 : r2 = 1 → g2 = yzr (yset (yset g1 121 (Int.toNat p) (20 + s)) 122 (Int.toNat p) n) 123 (Int.toNat (60 * p)) 60) : yJnv g2 ∧ r1 = r2 := by
  have h9 := yal_row hJ.1 a0 a1 a2 b0 b1 b2
  refine ⟨⟨h9.1, hJ.2.mono' (fun x y hab => ?_)⟩, h9.2⟩
  unfold yRd at hab
  have e1 : g1 x y = g x y := by
    by_cases h : r1 = 1
    · rw [a2 h, yzr_nc (by omega), yset_nc (by omega), yset_nc (by omega)]
    · rw [a1 h]
  rw [← e1]
  by_cases h : r2 = 1
  · rw [b2 h, yzr_nc (by omega), yset_nc (by omega), yset_nc (by omega)]
  · rw [b1 h]
theorem yj_KP {g g1 g2 : yM} {p w r1 r2 : Int} (hJ : yJnv g) (a0 : (r1 = -1 ∧ ¬ (0 ≤ p ∧ p < 6 ∧ (w = -1 ∨ (0 ≤ w ∧ w < g 6 8)))) ∨ (r1 = 1 ∧ 0 ≤ p ∧ p < 6 ∧ (w = -1 ∨ (0 ≤ w ∧ w < g 6 8)))) (a1 : r1 ≠ 1 → g1 = g) (a2 : r1 = 1 → w = -1 → g1 = yset g 40 (Int.toNat p) (-1)) (a3 : r1 = 1 → w ≠ -1 → g1 = yset (yset g 40 (Int.toNat p) (-2)) 41 (Int.toNat p) w) (b0 : (r2 = -1 ∧ ¬ (0 ≤ p ∧ p < 6 ∧ (w = -1 ∨ (0 ≤ w ∧ w < g1 90 38)))) ∨ (r2 = 1 ∧ 0 ≤ p ∧ p < 6 ∧ (w = -1 ∨ (0 ≤ w ∧ w < g1 90 38)))) (b1 : r2 ≠ 1 → g2 = g1) (b2 : r2 = 1 → g2 = yset (yset g1 121 (Int.toNat p) w) 122 (Int.toNat p) 0) : yJnv g2 ∧ r1 = r2 := by
  have h9 := yal_keep hJ.1 a0 a1 a2 a3 b0 b1 b2
  refine ⟨⟨h9.1, hJ.2.mono' (fun x y hab => ?_)⟩, h9.2⟩
  unfold yRd at hab
  have e1 : g1 x y = g x y := by
    by_cases h : r1 = 1
    · by_cases hw : w = -1
      · rw [a2 h hw, yset_nc (by omega)]
      · rw [a3 h hw, yset_nc (by omega), yset_nc (by omega)]
    · rw [a1 h]
  rw [← e1]
  by_cases h : r2 = 1
  · rw [b2 h, yset_nc (by omega), yset_nc (by omega)]
  · rw [b1 h]
theorem yjm_KP0 {g g1 : yM} {p w r1 : Int} (hJ : yJnv g) (a0 : (r1 = -1 ∧ ¬ (0 ≤ p ∧ p < 6 ∧ (w = -1 ∨ (0 ≤ w ∧ w < g 6 8)))) ∨ (r1 = 1 ∧ 0 ≤ p ∧ p < 6 ∧ (w = -1 ∨ (0 ≤ w ∧ w < g 6 8)))) (a1 : r1 ≠ 1 → g1 = g) (a2 : r1 = 1 → w = -1 → g1 = yset g 40 (Int.toNat p) (-1)) (a3 : r1 = 1 → w ≠ -1 → g1 = yset (yset g 40 (Int.toNat p) (-2)) 41 (Int.toNat p) w) : 0 ≤ g1 90 38 ∧ g1 90 38 ≤ 20 := yam_keep0 hJ.1 a0 a1 a2 a3
theorem yj_PT {g g1 g2 : yM} {p i v r1 r2 : Int} (hJ : yJnv g) (a0 : ∃ r0 : Int, ((r0 = -1 ∧ ¬ (0 ≤ p ∧ p < 6)) ∨ ((0 ≤ p ∧ p < 6) ∧ ((r0 = -11 ∧ g 40 (Int.toNat p) = -1) ∨ (g 40 (Int.toNat p) ≠ -1 ∧ ((r0 = -12 ∧ g 40 (Int.toNat p) = -2) ∨ (g 40 (Int.toNat p) ≠ -2 ∧ ((r0 = -13 ∧ (i < 0 ∨ g 42 (Int.toNat p) ≤ i)) ∨ (r0 = 0 ∧ 0 ≤ i ∧ i < g 42 (Int.toNat p))))))))) ∧ (r0 = 0 → r1 = 1 ∧ g1 = yset g (44 + Int.toNat p) (Int.toNat i) (ynar (g 40 (Int.toNat p)) v)) ∧ (r0 ≠ 0 → r1 = r0 ∧ g1 = g)) (b0 : ∃ r0 : Int, ((r0 = -1 ∧ ¬ (0 ≤ p ∧ p < 6)) ∨ ((0 ≤ p ∧ p < 6) ∧ ((r0 = -11 ∧ g1 121 (Int.toNat p) < 0) ∨ (0 ≤ g1 121 (Int.toNat p) ∧ ((r0 = -12 ∧ g1 121 (Int.toNat p) < 20) ∨ (20 ≤ g1 121 (Int.toNat p) ∧ ((r0 = -13 ∧ (i < 0 ∨ g1 122 (Int.toNat p) ≤ i)) ∨ (r0 = 0 ∧ 0 ≤ i ∧ i < g1 122 (Int.toNat p))))))))) ∧ (r0 = 0 → r2 = 1 ∧ g2 = yset g1 123 (Int.toNat (60 * p + i)) (ynar (g1 121 (Int.toNat p) - 20) v)) ∧ (r0 ≠ 0 → r2 = r0 ∧ g2 = g1)) : yJnv g2 ∧ r1 = r2 := by
  have h9 := yal_put hJ.1 a0 b0
  refine ⟨⟨h9.1, hJ.2.mono' (fun x y hab => ?_)⟩, h9.2⟩
  unfold yRd at hab
  have e1 : g1 x y = g x y := by
    obtain ⟨r0, c0, c1, c2⟩ := a0
    by_cases h : r0 = 0
    · rw [(c1 h).2, yset_nc (by omega)]
    · rw [(c2 h).2]
  rw [← e1]
  obtain ⟨r0, c0, c1, c2⟩ := b0
  by_cases h : r0 = 0
  · rw [(c1 h).2, yset_nc (by omega)]
  · rw [(c2 h).2]
theorem yjc_PT0 {g : yM} (hJ : yJnv g) : ∀ p : Int, 0 ≤ p → p < 6 → 0 ≤ g 42 (Int.toNat p) ∧ g 42 (Int.toNat p) ≤ 60 := yac_put0 hJ.1
theorem yjm_PT0 {g g1 : yM} {p i v r1 : Int} (hJ : yJnv g) (a0 : ∃ r0 : Int, ((r0 = -1 ∧ ¬ (0 ≤ p ∧ p < 6)) ∨ ((0 ≤ p ∧ p < 6) ∧ ((r0 = -11 ∧ g 40 (Int.toNat p) = -1) ∨ (g 40 (Int.toNat p) ≠ -1 ∧ ((r0 = -12 ∧ g 40 (Int.toNat p) = -2) ∨ (g 40 (Int.toNat p) ≠ -2 ∧ ((r0 = -13 ∧ (i < 0 ∨ g 42 (Int.toNat p) ≤ i)) ∨ (r0 = 0 ∧ 0 ≤ i ∧ i < g 42 (Int.toNat p))))))))) ∧ (r0 = 0 → r1 = 1 ∧ g1 = yset g (44 + Int.toNat p) (Int.toNat i) (ynar (g 40 (Int.toNat p)) v)) ∧ (r0 ≠ 0 → r1 = r0 ∧ g1 = g)) : ∀ p : Int, 0 ≤ p → p < 6 → 0 ≤ g1 122 (Int.toNat p) ∧ g1 122 (Int.toNat p) ≤ 60 := yam_put0 hJ.1 a0
theorem yjm_PT1 {g g1 : yM} {p i v r1 : Int} (hJ : yJnv g) (a0 : ∃ r0 : Int, ((r0 = -1 ∧ ¬ (0 ≤ p ∧ p < 6)) ∨ ((0 ≤ p ∧ p < 6) ∧ ((r0 = -11 ∧ g 40 (Int.toNat p) = -1) ∨ (g 40 (Int.toNat p) ≠ -1 ∧ ((r0 = -12 ∧ g 40 (Int.toNat p) = -2) ∨ (g 40 (Int.toNat p) ≠ -2 ∧ ((r0 = -13 ∧ (i < 0 ∨ g 42 (Int.toNat p) ≤ i)) ∨ (r0 = 0 ∧ 0 ≤ i ∧ i < g 42 (Int.toNat p))))))))) ∧ (r0 = 0 → r1 = 1 ∧ g1 = yset g (44 + Int.toNat p) (Int.toNat i) (ynar (g 40 (Int.toNat p)) v)) ∧ (r0 ≠ 0 → r1 = r0 ∧ g1 = g)) : ∀ p : Int, 0 ≤ p → p < 6 → -1 ≤ g1 121 (Int.toNat p) ∧ g1 121 (Int.toNat p) ≤ 24 := yam_put1 hJ.1 a0
theorem yj_SF {g g1 g2 : yM} {p i q j n r1 r2 : Int} (hJ : yJnv g) (a0 : ∃ r0 : Int, ((r0 = -1 ∧ ¬ (0 ≤ p ∧ p < 6 ∧ 0 ≤ q ∧ q < 6)) ∨ ((0 ≤ p ∧ p < 6 ∧ 0 ≤ q ∧ q < 6) ∧ ((r0 = -11 ∧ (g 40 (Int.toNat p) = -1 ∨ g 40 (Int.toNat q) = -1)) ∨ (g 40 (Int.toNat p) ≠ -1 ∧ g 40 (Int.toNat q) ≠ -1 ∧ ((r0 = -12 ∧ (g 40 (Int.toNat p) = -2 ∨ g 40 (Int.toNat p) ≠ g 40 (Int.toNat q))) ∨ (r0 = 0 ∧ g 40 (Int.toNat p) ≠ -2 ∧ g 40 (Int.toNat p) = g 40 (Int.toNat q))))))) ∧ (r0 ≠ 0 → r1 = r0 ∧ g1 = g) ∧ (r0 = 0 → ¬ (0 ≤ n ∧ 0 ≤ i ∧ 0 ≤ j ∧ i + n ≤ g 42 (Int.toNat p) ∧ j + n ≤ g 42 (Int.toNat q)) → r1 = -13 ∧ g1 = g) ∧ (r0 = 0 → (0 ≤ n ∧ 0 ≤ i ∧ 0 ≤ j ∧ i + n ≤ g 42 (Int.toNat p) ∧ j + n ≤ g 42 (Int.toNat q)) → r1 = n ∧ g1 = ycpy g (44 + Int.toNat q) (44 + Int.toNat p) (Int.toNat i) (Int.toNat j) (Int.toNat n))) (b0 : ∃ r0 : Int, ((r0 = -1 ∧ ¬ (0 ≤ p ∧ p < 6 ∧ 0 ≤ q ∧ q < 6)) ∨ ((0 ≤ p ∧ p < 6 ∧ 0 ≤ q ∧ q < 6) ∧ ((r0 = -11 ∧ (g1 121 (Int.toNat p) < 0 ∨ g1 121 (Int.toNat q) < 0)) ∨ (0 ≤ g1 121 (Int.toNat p) ∧ 0 ≤ g1 121 (Int.toNat q) ∧ ((r0 = -12 ∧ (g1 121 (Int.toNat p) < 20 ∨ g1 121 (Int.toNat p) ≠ g1 121 (Int.toNat q))) ∨ (20 ≤ g1 121 (Int.toNat p) ∧ g1 121 (Int.toNat p) = g1 121 (Int.toNat q) ∧ ((r0 = -13 ∧ ¬ (0 ≤ n ∧ 0 ≤ i ∧ 0 ≤ j ∧ i + n ≤ g1 122 (Int.toNat p) ∧ j + n ≤ g1 122 (Int.toNat q))) ∨ (r0 = 0 ∧ (0 ≤ n ∧ 0 ≤ i ∧ 0 ≤ j ∧ i + n ≤ g1 122 (Int.toNat p) ∧ j + n ≤ g1 122 (Int.toNat q)))))))))) ∧ (r0 ≠ 0 → r2 = r0 ∧ g2 = g1) ∧ (r0 = 0 → r2 = n ∧ g2 = ycpy (ycpy g1 124 123 (Int.toNat (60 * p + i)) 0 (Int.toNat n)) 123 124 0 (Int.toNat (60 * q + j)) (Int.toNat n))) : yJnv g2 ∧ r1 = r2 := by
  have h9 := yal_shift hJ.1 a0 b0
  refine ⟨⟨h9.1, hJ.2.mono' (fun x y hab => ?_)⟩, h9.2⟩
  unfold yRd at hab
  have e1 : g1 x y = g x y := by
    obtain ⟨r0, c0, c1, c2, c3⟩ := a0
    by_cases h : r0 = 0
    · by_cases hr : (0 ≤ n ∧ 0 ≤ i ∧ 0 ≤ j ∧ i + n ≤ g 42 (Int.toNat p) ∧ j + n ≤ g 42 (Int.toNat q))
      · rw [(c3 h hr).2, ycpy_nc (by omega)]
      · rw [(c2 h hr).2]
    · rw [(c1 h).2]
  rw [← e1]
  obtain ⟨r0, c0, c1, c2⟩ := b0
  by_cases h : r0 = 0
  · rw [(c2 h).2, ycpy_nc (by omega), ycpy_nc (by omega)]
  · rw [(c1 h).2]
theorem yjc_SF0 {g : yM} (hJ : yJnv g) : ∀ p : Int, 0 ≤ p → p < 6 → 0 ≤ g 42 (Int.toNat p) ∧ g 42 (Int.toNat p) ≤ 60 := yac_shift0 hJ.1
theorem yjm_SF0 {g g1 : yM} {p i q j n r1 : Int} (hJ : yJnv g) (a0 : ∃ r0 : Int, ((r0 = -1 ∧ ¬ (0 ≤ p ∧ p < 6 ∧ 0 ≤ q ∧ q < 6)) ∨ ((0 ≤ p ∧ p < 6 ∧ 0 ≤ q ∧ q < 6) ∧ ((r0 = -11 ∧ (g 40 (Int.toNat p) = -1 ∨ g 40 (Int.toNat q) = -1)) ∨ (g 40 (Int.toNat p) ≠ -1 ∧ g 40 (Int.toNat q) ≠ -1 ∧ ((r0 = -12 ∧ (g 40 (Int.toNat p) = -2 ∨ g 40 (Int.toNat p) ≠ g 40 (Int.toNat q))) ∨ (r0 = 0 ∧ g 40 (Int.toNat p) ≠ -2 ∧ g 40 (Int.toNat p) = g 40 (Int.toNat q))))))) ∧ (r0 ≠ 0 → r1 = r0 ∧ g1 = g) ∧ (r0 = 0 → ¬ (0 ≤ n ∧ 0 ≤ i ∧ 0 ≤ j ∧ i + n ≤ g 42 (Int.toNat p) ∧ j + n ≤ g 42 (Int.toNat q)) → r1 = -13 ∧ g1 = g) ∧ (r0 = 0 → (0 ≤ n ∧ 0 ≤ i ∧ 0 ≤ j ∧ i + n ≤ g 42 (Int.toNat p) ∧ j + n ≤ g 42 (Int.toNat q)) → r1 = n ∧ g1 = ycpy g (44 + Int.toNat q) (44 + Int.toNat p) (Int.toNat i) (Int.toNat j) (Int.toNat n))) : ∀ p : Int, 0 ≤ p → p < 6 → 0 ≤ g1 122 (Int.toNat p) ∧ g1 122 (Int.toNat p) ≤ 60 := yam_shift0 hJ.1 a0
theorem yj_RL {g g1 g2 : yM} {c a w r1 r2 : Int} (hJ : yJnv g) (a0 : (r1 = -1 ∧ ¬ (0 ≤ c ∧ c < 8 ∧ 0 ≤ a ∧ a < 10000 ∧ 0 ≤ w ∧ w < 100)) ∨ ((0 ≤ c ∧ c < 8 ∧ 0 ≤ a ∧ a < 10000 ∧ 0 ≤ w ∧ w < 100) ∧ ((r1 = -3 ∧ g 6 8 = 20) ∨ (r1 = g 6 8 ∧ g 6 8 < 20)))) (a1 : r1 < 0 → g1 = g) (a2 : 0 ≤ r1 → g1 = yset (yset (yset (yset (yset g 30 (Int.toNat (g 6 8)) c) 27 (Int.toNat (g 6 8)) (yb (fun x y => x / y) a 100)) 28 (Int.toNat (g 6 8)) (yb (fun x y => x - x / y * y) a 100)) 29 (Int.toNat (g 6 8)) w) 6 8 (g 6 8 + 1)) (b0 : (r2 = -1 ∧ ¬ (0 ≤ c ∧ c < 8 ∧ 0 ≤ a ∧ a < 10000 ∧ 0 ≤ w ∧ w < 100)) ∨ ((0 ≤ c ∧ c < 8 ∧ 0 ≤ a ∧ a < 10000 ∧ 0 ≤ w ∧ w < 100) ∧ ((r2 = -3 ∧ g1 90 38 = 20) ∨ (r2 = g1 90 38 ∧ g1 90 38 < 20)))) (b1 : r2 < 0 → g2 = g1) (b2 : 0 ≤ r2 → g2 = yset (yset (yset (yset (yset g1 114 (Int.toNat (g1 90 38)) c) 115 (Int.toNat (g1 90 38)) (yb (fun x y => x / y) a 100)) 116 (Int.toNat (g1 90 38)) (yb (fun x y => x - x / y * y) a 100)) 117 (Int.toNat (g1 90 38)) w) 90 38 (g1 90 38 + 1)) : yJnv g2 ∧ r1 = r2 := by
  have h9 := yal_rule hJ.1 a0 a1 a2 b0 b1 b2
  refine ⟨⟨h9.1, hJ.2.mono' (fun x y hab => ?_)⟩, h9.2⟩
  unfold yRd at hab
  have e1 : g1 x y = g x y := by
    by_cases h : r1 < 0
    · rw [a1 h]
    · rw [a2 (by omega), yset_nc (by omega), yset_nc (by omega), yset_nc (by omega), yset_nc (by omega), yset_nc (by omega)]
  rw [← e1]
  by_cases h : r2 < 0
  · rw [b1 h]
  · rw [b2 (by omega), yset_ne (by omega), yset_nc (by omega), yset_nc (by omega), yset_nc (by omega), yset_nc (by omega)]
theorem yjc_RL0 {g : yM} (hJ : yJnv g) : 0 ≤ g 6 8 ∧ g 6 8 ≤ 20 := yac_rule0 hJ.1
theorem yjm_RL0 {g g1 : yM} {c a w r1 : Int} (hJ : yJnv g) (a0 : (r1 = -1 ∧ ¬ (0 ≤ c ∧ c < 8 ∧ 0 ≤ a ∧ a < 10000 ∧ 0 ≤ w ∧ w < 100)) ∨ ((0 ≤ c ∧ c < 8 ∧ 0 ≤ a ∧ a < 10000 ∧ 0 ≤ w ∧ w < 100) ∧ ((r1 = -3 ∧ g 6 8 = 20) ∨ (r1 = g 6 8 ∧ g 6 8 < 20)))) (a1 : r1 < 0 → g1 = g) (a2 : 0 ≤ r1 → g1 = yset (yset (yset (yset (yset g 30 (Int.toNat (g 6 8)) c) 27 (Int.toNat (g 6 8)) (yb (fun x y => x / y) a 100)) 28 (Int.toNat (g 6 8)) (yb (fun x y => x - x / y * y) a 100)) 29 (Int.toNat (g 6 8)) w) 6 8 (g 6 8 + 1)) : 0 ≤ g1 90 38 ∧ g1 90 38 ≤ 20 := yam_rule0 hJ.1 a0 a1 a2
