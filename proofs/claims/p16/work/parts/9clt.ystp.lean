/-! THE STARTS ALIKE: the absences at once, or minute by minute -/
theorem yE3_ge {g : yM} {c : Nat} {e : Int} : ∀ n : Nat, e ≤ yE3 g c e n
  | 0 => Int.le_refl _
  | n + 1 => by
    have ih := @yE3_ge g c e n
    by_cases h : g 15 n = g (50 + c) 3 ∧ g 16 n < g (50 + c) 2
    · rw [yE3_1 h]
      unfold ymx
      split <;> omega
    · rw [yE3_0 h]
      exact ih
theorem yE3_all {g : yM} {c : Nat} {e : Int} {j : Nat} (hj : g 15 j = g (50 + c) 3 ∧ g 16 j < g (50 + c) 2) : ∀ n : Nat, j < n → yw (g 17 j + 1) ≤ yE3 g c e n
  | 0, h => absurd h (Nat.not_lt_zero _)
  | n + 1, h => by
    by_cases ej : j = n
    · subst ej
      rw [yE3_1 hj]
      unfold ymx
      split <;> omega
    · have ih := yE3_all (e := e) hj n (by omega)
      by_cases h2 : g 15 n = g (50 + c) 3 ∧ g 16 n < g (50 + c) 2
      · rw [yE3_1 h2]
        unfold ymx
        split <;> omega
      · rw [yE3_0 h2]
        exact ih
theorem yE3_ex {g : yM} {c : Nat} {e : Int} : ∀ n : Nat, yE3 g c e n = e ∨ ∃ j : Nat, j < n ∧ (g 15 j = g (50 + c) 3 ∧ g 16 j < g (50 + c) 2) ∧ yE3 g c e n = yw (g 17 j + 1)
  | 0 => Or.inl rfl
  | n + 1 => by
    have ih := @yE3_ex g c e n
    by_cases h : g 15 n = g (50 + c) 3 ∧ g 16 n < g (50 + c) 2
    · rw [yE3_1 h]
      unfold ymx
      split
      · exact Or.inr ⟨n, Nat.lt_succ_self n, h, rfl⟩
      · rcases ih with h1 | ⟨j, h1, h2, h3⟩
        · exact Or.inl h1
        · exact Or.inr ⟨j, by omega, h2, h3⟩
    · rw [yE3_0 h]
      rcases ih with h1 | ⟨j, h1, h2, h3⟩
      · exact Or.inl h1
      · exact Or.inr ⟨j, by omega, h2, h3⟩
theorem yaM_of {g : yM} {d t : Int} {j n : Nat} (hj : g 95 j = d ∧ g 96 j ≤ t ∧ t ≤ g 97 j) (h : j < n) : yaM g d t n = 1 := yaM_up (yaM_1 hj) n h
theorem yaM_ex {g : yM} {d t : Int} : ∀ n : Nat, yaM g d t n = 1 → ∃ j : Nat, j < n ∧ g 95 j = d ∧ g 96 j ≤ t ∧ t ≤ g 97 j
  | 0, h => absurd h (by show ¬ (0 : Int) = 1; decide)
  | n + 1, h => by
    by_cases c : g 95 n = d ∧ g 96 n ≤ t ∧ t ≤ g 97 n
    · exact ⟨n, Nat.lt_succ_self n, c⟩
    · rw [yaM_0 c] at h
      obtain ⟨j, h1, h2⟩ := yaM_ex n h
      exact ⟨j, by omega, h2⟩
theorem yQm_all {g : yM} {d e : Int} {k : Nat} (hk : yaM g d (e + k) (Int.toNat (g 90 6)) = 1) : ∀ n : Nat, k < n → e + k + 1 ≤ yQm g d e n
  | 0, h => absurd h (Nat.not_lt_zero _)
  | n + 1, h => by
    by_cases ek : k = n
    · subst ek
      rw [yQm_1 hk]
      exact Int.le_refl _
    · have ih := yQm_all hk n (by omega)
      by_cases c : yaM g d (e + n) (Int.toNat (g 90 6)) = 1
      · rw [yQm_1 c]
        omega
      · rw [yQm_0 c]
        exact ih
theorem yQm_ex {g : yM} {d e : Int} : ∀ n : Nat, yQm g d e n = e ∨ ∃ k : Nat, k < n ∧ yaM g d (e + k) (Int.toNat (g 90 6)) = 1 ∧ yQm g d e n = e + k + 1
  | 0 => Or.inl rfl
  | n + 1 => by
    by_cases c : yaM g d (e + n) (Int.toNat (g 90 6)) = 1
    · exact Or.inr ⟨n, Nat.lt_succ_self n, c, yQm_1 c⟩
    · rw [yQm_0 c]
      rcases @yQm_ex g d e n with h1 | ⟨k, h1, h2, h3⟩
      · exact Or.inl h1
      · exact Or.inr ⟨k, by omega, h2, h3⟩
theorem yQm_ge {g : yM} {d e : Int} (n : Nat) : e ≤ yQm g d e n := by
  rcases @yQm_ex g d e n with h1 | ⟨k, h1, h2, h3⟩ <;> omega
/-- an absence that is begun before the way out is put off to its end; the minutes tell the same wherever a start is left -/
theorem yER {g : yM} {c n : Nat} {e l o d : Int} (h1 : Int.toNat (g 1 7) = n) (h2 : Int.toNat (g 90 6) = n) (hd : g (50 + c) 3 = d) (ho : g (50 + c) 2 = o) (haw : ∀ j : Nat, j < n → g 95 j = g 15 j ∧ g 96 j = g 16 j ∧ g 97 j = g 17 j ∧ 0 ≤ g 16 j ∧ g 16 j ≤ g 17 j ∧ g 17 j ≤ 719) (hl : l < o) : (yE3 g c e n ≤ l → yQm g d e (Int.toNat (o - e)) = yE3 g c e n) ∧ (l < yE3 g c e n → l < yQm g d e (Int.toNat (o - e))) := by
  have hE := @yE3_ge g c e n
  have hR := @yQm_ge g d e (Int.toNat (o - e))
  have up : ∀ (j : Nat) (t : Int), j < n → g 15 j = d → g 16 j ≤ t → t ≤ g 17 j → e ≤ t → t < o → t + 1 ≤ yQm g d e (Int.toNat (o - e)) := fun j t j1 j2 j3 j4 j5 j6 => by
    obtain ⟨a1, a2, a3, -, -, -⟩ := haw j j1
    have hk := yQm_all (g := g) (d := d) (e := e) (k := Int.toNat (t - e)) (yaM_of (j := j) ⟨by omega, by omega, by omega⟩ (by omega)) (Int.toNat (o - e)) (by omega)
    omega
  refine ⟨fun hEL => ?_, fun hEL => ?_⟩
  · have r1 : yQm g d e (Int.toNat (o - e)) ≤ yE3 g c e n := by
      rcases @yQm_ex g d e (Int.toNat (o - e)) with h | ⟨k, k1, k2, k3⟩
      · omega
      · obtain ⟨j, j1, j2, j3, j4⟩ := yaM_ex _ k2
        obtain ⟨a1, a2, a3, a4, a5, a6⟩ := haw j (by omega)
        have h9 := yE3_all (g := g) (c := c) (e := e) (j := j) ⟨by omega, by omega⟩ n (by omega)
        rw [yw_s (g 17 j + 1) (by omega) (by omega)] at h9
        omega
    have r2 : yE3 g c e n ≤ yQm g d e (Int.toNat (o - e)) := by
      rcases @yE3_ex g c e n with h | ⟨j, j1, ⟨j2, j3⟩, j4⟩
      · omega
      · obtain ⟨a1, a2, a3, a4, a5, a6⟩ := haw j j1
        rw [yw_s (g 17 j + 1) (by omega) (by omega)] at j4
        by_cases hte : g 17 j < e
        · omega
        · have := up j (g 17 j) j1 (by omega) a5 (Int.le_refl _) (by omega) (by omega)
          omega
    omega
  · rcases @yE3_ex g c e n with h | ⟨j, j1, ⟨j2, j3⟩, j4⟩
    · omega
    · obtain ⟨a1, a2, a3, a4, a5, a6⟩ := haw j j1
      rw [yw_s (g 17 j + 1) (by omega) (by omega)] at j4
      by_cases hte : g 17 j < e
      · omega
      · by_cases heo : o ≤ e
        · omega
        · by_cases hto : g 17 j < o
          · have := up j (g 17 j) j1 (by omega) a5 (Int.le_refl _) (by omega) hto
            omega
          · have := up j (o - 1) j1 (by omega) (by omega) (by omega) (by omega) (by omega)
            omega
theorem yE0_al {g : yM} {c : Nat} {a : Int} (h1 : g 91 c = g (50 + c) 1) (h2 : g 91 52 = g 1 9) (h3 : g 102 c = g (50 + c) 2) (h4 : g 91 (Int.toNat (yw (46 + g 104 c))) = g 14 (Int.toNat (g (50 + c) 4))) (h5 : a ≠ -1 → 0 ≤ a ∧ g 102 (Int.toNat a) = g (50 + Int.toNat a) 2) : yMe g c a = yE2 g c a := by
  unfold yMe yE2 yE1
  rw [h1, h2, h3, h4]
  by_cases e : a = -1
  · rw [if_pos e, if_neg (by omega)]
    unfold ymx
    repeat' split
    all_goals omega
  · rw [if_neg e, if_pos (h5 e).1, (h5 e).2]
    unfold ymx
    repeat' split
    all_goals omega
/-- what both sides tell of a comer's starts -/
def yVe (g : yM) : Prop := ∀ j : Nat, (j : Int) < g 1 7 → g 16 j ≤ g 17 j
theorem yst_al {g : yM} (hJ : yJnv g) (hS : yStl g) (hV : yVe g) {c : Nat} (hc : (c : Int) < g 1 1) : yMg g c (Int.toNat (g 90 22)) = g (50 + c) 9 ∧ yMf g c = g (50 + c) 10 ∧ (g (50 + c) 10 ≠ -2 → yMl g c = g (50 + c) 11) ∧ (g (50 + c) 10 = -2 → g (50 + c) 11 = -2) ∧ (g (50 + c) 10 = -2 ∨ 0 ≤ g (50 + c) 10) := by
  obtain ⟨hVt, hVc, hVv, hVh, hVd⟩ := hJ.2
  obtain ⟨s9, s10, s11⟩ := hS c hc
  have hz := hVc.2.1
  obtain ⟨⟨c1, c2, c3, c4, c5, c6, c7, c8⟩, b0, b2, b3, b4, b5, b6, b7, b8⟩ := hVc.2.2 c hc
  have e22 : Int.toNat (g 90 22) = Int.toNat (g 1 1) := by rw [hVc.1]
  have hA : yMg g c (Int.toNat (g 90 22)) = yAg g c (Int.toNat (g 1 1)) := by
    rw [e22]
    exact yAg_al (z := Int.toNat (g 1 1)) (fun n hn => by
      have h := (hVc.2.2 n (by omega)).1
      exact ⟨h.1, h.2.1, h.2.2.1⟩) (by omega) _ (Nat.le_refl _)
  have hb := @yAg_b g c (Int.toNat (g 1 1))
  have v0 := hVv 0 c (Or.inl ⟨rfl, by omega, hc, by omega⟩)
  rw [ycod_0, ykv_0, Int.toNat_natCast] at v0
  have v0b := v0.2.1 rfl
  rw [Int.toNat_natCast] at v0b
  have v1 := hVv 1 (g (50 + c) 4) (Or.inr (Or.inl ⟨rfl, by omega, by omega⟩))
  rw [ycod_1, ykv_1] at v1
  have v1b := v1.2.2.1 (Or.inl rfl)
  have v2 := hVv 2 (g (50 + c) 4) (Or.inr (Or.inr (Or.inl ⟨rfl, by omega, by omega⟩)))
  rw [ycod_2, ykv_2] at v2
  have v3 := hVv 3 0 (Or.inr (Or.inr (Or.inr ⟨rfl, rfl⟩)))
  rw [ycod_3, ykv_3] at v3
  have y6 : yw (46 + g 104 c) = 46 + g 104 c := yw_s (46 + g 104 c) (by omega) (by omega)
  have y4 : yw (40 + g 104 c) = 40 + g 104 c := yw_s (40 + g 104 c) (by omega) (by omega)
  have hl : yMl g c = yLt g c := by
    unfold yMl yLt
    rw [y4, c4, c2, v1.1]
  have hlo : yLt g c < g (50 + c) 2 := by
    unfold yLt
    rw [yw_s (g (50 + c) 2 - g 13 (Int.toNat (g (50 + c) 4))) (by omega) (by omega)]
    omega
  have hlg : -98 ≤ yLt g c := by
    unfold yLt
    rw [yw_s (g (50 + c) 2 - g 13 (Int.toNat (g (50 + c) 4))) (by omega) (by omega)]
    omega
  have he : yMe g c (yAg g c (Int.toNat (g 1 1))) = yE2 g c (yAg g c (Int.toNat (g 1 1))) := yE0_al v0.1 v3.1 c2 (by rw [y6, c4]; exact v2.1) (fun hne => ⟨by omega, ((hVc.2.2 (Int.toNat (yAg g c (Int.toNat (g 1 1)))) (by omega)).1).2.1⟩)
  have h0 := yMe_0 g c (yAg g c (Int.toNat (g 1 1)))
  have hR := yER (g := g) (c := c) (n := Int.toNat (g 1 7)) (e := yE2 g c (yAg g c (Int.toNat (g 1 1)))) (l := yLt g c) (o := g 102 c) (d := g 103 c) rfl (by rw [hVd.1.1]) c3.symm c2.symm (fun j hj => by
    obtain ⟨⟨q1, q2, q3⟩, q4, q5, q6, q7⟩ := hVd.2.2.2 j (by omega)
    exact ⟨q1, q2, q3, q4, hV j (by omega), q7⟩) (by rw [c2]; exact hlo)
  have hg := @yE3_ge g c (yE2 g c (yAg g c (Int.toNat (g 1 1)))) (Int.toNat (g 1 7))
  have hMr : yQr g c = yQm g (g 103 c) (yE2 g c (yAg g c (Int.toNat (g 1 1)))) (Int.toNat (g 102 c - yE2 g c (yAg g c (Int.toNat (g 1 1))))) := by
    unfold yQr
    rw [hA, he]
  rw [s9, s10, s11]
  refine ⟨hA, ?_⟩
  unfold yMf yEf yLf yEe
  rw [hMr, hl]
  by_cases q : yE3 g c (yE2 g c (yAg g c (Int.toNat (g 1 1)))) (Int.toNat (g 1 7)) ≤ yLt g c
  · have h9 := hR.1 q
    rw [if_pos q, if_pos q, h9, if_neg (by omega)]
    exact ⟨rfl, fun _ => rfl, fun h => by omega, Or.inr (by omega)⟩
  · have h9 := hR.2 (by omega)
    rw [if_neg q, if_neg q, if_pos h9]
    exact ⟨rfl, fun h => absurd rfl h, fun _ => rfl, Or.inl rfl⟩
