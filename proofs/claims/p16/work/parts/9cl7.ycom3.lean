/-! A COMER OUT OF THE TAPE -/
def yS1 (S : Int → Int) : Int × Int × Int := yRn S 3 0 718 0 (-1)
def yS2 (S : Int → Int) : Int × Int := yEx S 45 (yS1 S).1 (yS1 S).2.1
def yS3 (S : Int → Int) : Int × Int × Int := yRn S 3 ((yS1 S).2.2 + 1) 719 (yS2 S).1 (yS2 S).2
def yS4 (S : Int → Int) : Int × Int := yEx S 64 (yS3 S).1 (yS3 S).2.1
def yS5 (S : Int → Int) : Int × Int × Int := yRn S 1 0 3 (yS4 S).1 (yS4 S).2
def yS6 (S : Int → Int) : Int × Int := yEx S 109 (yS5 S).1 (yS5 S).2.1
def yS7 (S : Int → Int) : Int × Int × Int := yRn S 1 0 5 (yS6 S).1 (yS6 S).2
def yS8 (S : Int → Int) : Int × Int := yEx S 115 (yS7 S).1 (yS7 S).2.1
def yS9 (S : Int → Int) : Int × Int × Int := yRn S 1 0 7 (yS8 S).1 (yS8 S).2
def yS10 (S : Int → Int) : Int × Int := yTk S 35 (yS9 S).1 (yS9 S).2.1
def yS11 (S : Int → Int) : Int × Int × Int := if (yS10 S).2 = 1 then yRn S 2 0 99 (yS10 S).1 (yS9 S).2.1 else ((yS10 S).1, (yS9 S).2.1, -1)
def yS12 (S : Int → Int) : Int × Int := yTk S 108 (yS11 S).1 (yS11 S).2.1
def yS13 (S : Int → Int) : Int × Int × Int := if (yS12 S).2 = 1 then yRn S 1 0 3 (yS12 S).1 (yS11 S).2.1 else ((yS12 S).1, (yS11 S).2.1, (yS5 S).2.2)
theorem yS1_al {S T : Int → Int} (h : ySal S T) : yS1 S = yS1 T := by
  unfold yS1
  simp only [yRn_al h, yTk_al h _ _ _ (show (35 : Int) ≤ 35 by decide), yTk_al h _ _ _ (show (35 : Int) ≤ 108 by decide), yEx_al h _ _ _ (show (35 : Int) ≤ 45 by decide), yEx_al h _ _ _ (show (35 : Int) ≤ 64 by decide), yEx_al h _ _ _ (show (35 : Int) ≤ 109 by decide), yEx_al h _ _ _ (show (35 : Int) ≤ 115 by decide)]
theorem yS2_al {S T : Int → Int} (h : ySal S T) : yS2 S = yS2 T := by
  unfold yS2
  simp only [yS1_al h, yRn_al h, yTk_al h _ _ _ (show (35 : Int) ≤ 35 by decide), yTk_al h _ _ _ (show (35 : Int) ≤ 108 by decide), yEx_al h _ _ _ (show (35 : Int) ≤ 45 by decide), yEx_al h _ _ _ (show (35 : Int) ≤ 64 by decide), yEx_al h _ _ _ (show (35 : Int) ≤ 109 by decide), yEx_al h _ _ _ (show (35 : Int) ≤ 115 by decide)]
theorem yS3_al {S T : Int → Int} (h : ySal S T) : yS3 S = yS3 T := by
  unfold yS3
  simp only [yS1_al h, yS2_al h, yRn_al h, yTk_al h _ _ _ (show (35 : Int) ≤ 35 by decide), yTk_al h _ _ _ (show (35 : Int) ≤ 108 by decide), yEx_al h _ _ _ (show (35 : Int) ≤ 45 by decide), yEx_al h _ _ _ (show (35 : Int) ≤ 64 by decide), yEx_al h _ _ _ (show (35 : Int) ≤ 109 by decide), yEx_al h _ _ _ (show (35 : Int) ≤ 115 by decide)]
theorem yS4_al {S T : Int → Int} (h : ySal S T) : yS4 S = yS4 T := by
  unfold yS4
  simp only [yS3_al h, yRn_al h, yTk_al h _ _ _ (show (35 : Int) ≤ 35 by decide), yTk_al h _ _ _ (show (35 : Int) ≤ 108 by decide), yEx_al h _ _ _ (show (35 : Int) ≤ 45 by decide), yEx_al h _ _ _ (show (35 : Int) ≤ 64 by decide), yEx_al h _ _ _ (show (35 : Int) ≤ 109 by decide), yEx_al h _ _ _ (show (35 : Int) ≤ 115 by decide)]
theorem yS5_al {S T : Int → Int} (h : ySal S T) : yS5 S = yS5 T := by
  unfold yS5
  simp only [yS4_al h, yRn_al h, yTk_al h _ _ _ (show (35 : Int) ≤ 35 by decide), yTk_al h _ _ _ (show (35 : Int) ≤ 108 by decide), yEx_al h _ _ _ (show (35 : Int) ≤ 45 by decide), yEx_al h _ _ _ (show (35 : Int) ≤ 64 by decide), yEx_al h _ _ _ (show (35 : Int) ≤ 109 by decide), yEx_al h _ _ _ (show (35 : Int) ≤ 115 by decide)]
theorem yS6_al {S T : Int → Int} (h : ySal S T) : yS6 S = yS6 T := by
  unfold yS6
  simp only [yS5_al h, yRn_al h, yTk_al h _ _ _ (show (35 : Int) ≤ 35 by decide), yTk_al h _ _ _ (show (35 : Int) ≤ 108 by decide), yEx_al h _ _ _ (show (35 : Int) ≤ 45 by decide), yEx_al h _ _ _ (show (35 : Int) ≤ 64 by decide), yEx_al h _ _ _ (show (35 : Int) ≤ 109 by decide), yEx_al h _ _ _ (show (35 : Int) ≤ 115 by decide)]
theorem yS7_al {S T : Int → Int} (h : ySal S T) : yS7 S = yS7 T := by
  unfold yS7
  simp only [yS6_al h, yRn_al h, yTk_al h _ _ _ (show (35 : Int) ≤ 35 by decide), yTk_al h _ _ _ (show (35 : Int) ≤ 108 by decide), yEx_al h _ _ _ (show (35 : Int) ≤ 45 by decide), yEx_al h _ _ _ (show (35 : Int) ≤ 64 by decide), yEx_al h _ _ _ (show (35 : Int) ≤ 109 by decide), yEx_al h _ _ _ (show (35 : Int) ≤ 115 by decide)]
theorem yS8_al {S T : Int → Int} (h : ySal S T) : yS8 S = yS8 T := by
  unfold yS8
  simp only [yS7_al h, yRn_al h, yTk_al h _ _ _ (show (35 : Int) ≤ 35 by decide), yTk_al h _ _ _ (show (35 : Int) ≤ 108 by decide), yEx_al h _ _ _ (show (35 : Int) ≤ 45 by decide), yEx_al h _ _ _ (show (35 : Int) ≤ 64 by decide), yEx_al h _ _ _ (show (35 : Int) ≤ 109 by decide), yEx_al h _ _ _ (show (35 : Int) ≤ 115 by decide)]
theorem yS9_al {S T : Int → Int} (h : ySal S T) : yS9 S = yS9 T := by
  unfold yS9
  simp only [yS8_al h, yRn_al h, yTk_al h _ _ _ (show (35 : Int) ≤ 35 by decide), yTk_al h _ _ _ (show (35 : Int) ≤ 108 by decide), yEx_al h _ _ _ (show (35 : Int) ≤ 45 by decide), yEx_al h _ _ _ (show (35 : Int) ≤ 64 by decide), yEx_al h _ _ _ (show (35 : Int) ≤ 109 by decide), yEx_al h _ _ _ (show (35 : Int) ≤ 115 by decide)]
theorem yS10_al {S T : Int → Int} (h : ySal S T) : yS10 S = yS10 T := by
  unfold yS10
  simp only [yS9_al h, yRn_al h, yTk_al h _ _ _ (show (35 : Int) ≤ 35 by decide), yTk_al h _ _ _ (show (35 : Int) ≤ 108 by decide), yEx_al h _ _ _ (show (35 : Int) ≤ 45 by decide), yEx_al h _ _ _ (show (35 : Int) ≤ 64 by decide), yEx_al h _ _ _ (show (35 : Int) ≤ 109 by decide), yEx_al h _ _ _ (show (35 : Int) ≤ 115 by decide)]
theorem yS11_al {S T : Int → Int} (h : ySal S T) : yS11 S = yS11 T := by
  unfold yS11
  simp only [yS9_al h, yS10_al h, yRn_al h, yTk_al h _ _ _ (show (35 : Int) ≤ 35 by decide), yTk_al h _ _ _ (show (35 : Int) ≤ 108 by decide), yEx_al h _ _ _ (show (35 : Int) ≤ 45 by decide), yEx_al h _ _ _ (show (35 : Int) ≤ 64 by decide), yEx_al h _ _ _ (show (35 : Int) ≤ 109 by decide), yEx_al h _ _ _ (show (35 : Int) ≤ 115 by decide)]
theorem yS12_al {S T : Int → Int} (h : ySal S T) : yS12 S = yS12 T := by
  unfold yS12
  simp only [yS11_al h, yRn_al h, yTk_al h _ _ _ (show (35 : Int) ≤ 35 by decide), yTk_al h _ _ _ (show (35 : Int) ≤ 108 by decide), yEx_al h _ _ _ (show (35 : Int) ≤ 45 by decide), yEx_al h _ _ _ (show (35 : Int) ≤ 64 by decide), yEx_al h _ _ _ (show (35 : Int) ≤ 109 by decide), yEx_al h _ _ _ (show (35 : Int) ≤ 115 by decide)]
theorem yS13_al {S T : Int → Int} (h : ySal S T) : yS13 S = yS13 T := by
  unfold yS13
  simp only [yS5_al h, yS11_al h, yS12_al h, yRn_al h, yTk_al h _ _ _ (show (35 : Int) ≤ 35 by decide), yTk_al h _ _ _ (show (35 : Int) ≤ 108 by decide), yEx_al h _ _ _ (show (35 : Int) ≤ 45 by decide), yEx_al h _ _ _ (show (35 : Int) ≤ 64 by decide), yEx_al h _ _ _ (show (35 : Int) ≤ 109 by decide), yEx_al h _ _ _ (show (35 : Int) ≤ 115 by decide)]
def yPf (S : Int → Int) (len : Int) : Int := if (yS13 S).2.1 = -1 ∧ (yS13 S).1 < len then (yS13 S).1 else (yS13 S).2.1
theorem yPf_al {S T : Int → Int} (h : ySal S T) (len : Int) : yPf S len = yPf T len := by
  unfold yPf
  rw [yS13_al h]
/-- signs behind which nothing goes on stand below the tape's end -/
def ySb (S : Int → Int) : Prop := ∀ p : Int, 60 ≤ p → S p < 35
theorem yNm_b {S : Int → Int} (h : ySb S) : ∀ (m : Nat) (p v : Int), 0 ≤ p ∧ p ≤ 60 → p ≤ (yNm S m p v).1 ∧ (yNm S m p v).1 ≤ 60
  | 0, p, v, hp => by
    unfold yNm
    exact ⟨Int.le_refl _, hp.2⟩
  | m + 1, p, v, hp => by
    unfold yNm
    split
    · rename_i hd
      have h60 : p < 60 := by
        by_cases h9 : 60 ≤ p
        · have := h p h9
          omega
        · omega
      have := yNm_b h m (p + 1) (v * 10 + S p - 48) ⟨by omega, by omega⟩
      omega
    · exact ⟨Int.le_refl _, hp.2⟩
theorem yRn_b {S : Int → Int} (h : ySb S) {d : Nat} {lo hi p f : Int} (hp : 0 ≤ p ∧ p ≤ 60) (hf : -1 ≤ f ∧ f ≤ 60) : (0 ≤ (yRn S d lo hi p f).1 ∧ (yRn S d lo hi p f).1 ≤ 60) ∧ (-1 ≤ (yRn S d lo hi p f).2.1 ∧ (yRn S d lo hi p f).2.1 ≤ 60) ∧ ((yRn S d lo hi p f).2.1 = -1 → f = -1 ∧ lo ≤ (yRn S d lo hi p f).2.2 ∧ (yRn S d lo hi p f).2.2 ≤ hi) := by
  have hn := yNm_b h d p 0 hp
  unfold yRn
  split
  · rename_i h1
    split
    · refine ⟨hp, ⟨by show -1 ≤ p; omega, hp.2⟩, fun h2 => ?_⟩
      have h2 : p = -1 := h2
      omega
    · rename_i h3
      refine ⟨⟨by show 0 ≤ (yNm S d p 0).1; omega, hn.2⟩, ⟨by show (-1 : Int) ≤ -1; omega, by show (-1 : Int) ≤ 60; omega⟩, fun _ => ⟨h1, ?_, ?_⟩⟩
      · show lo ≤ (yNm S d p 0).2
        omega
      · show (yNm S d p 0).2 ≤ hi
        omega
  · rename_i h1
    exact ⟨hp, hf, fun h2 => absurd h2 h1⟩
theorem yTk_b {S : Int → Int} (h : ySb S) {c p f : Int} (hc : 35 ≤ c) (hp : 0 ≤ p ∧ p ≤ 60) : (0 ≤ (yTk S c p f).1 ∧ (yTk S c p f).1 ≤ 60) ∧ ((yTk S c p f).2 = 0 ∨ (yTk S c p f).2 = 1) := by
  unfold yTk
  split
  · rename_i h1
    have h60 : p < 60 := by
      by_cases h9 : 60 ≤ p
      · have := h p h9
        omega
      · omega
    exact ⟨⟨by show 0 ≤ p + 1; omega, by show p + 1 ≤ 60; omega⟩, Or.inr rfl⟩
  · exact ⟨hp, Or.inl rfl⟩
theorem yEx_b {S : Int → Int} (h : ySb S) {c p f : Int} (hc : 35 ≤ c) (hp : 0 ≤ p ∧ p ≤ 60) (hf : -1 ≤ f ∧ f ≤ 60) : (0 ≤ (yEx S c p f).1 ∧ (yEx S c p f).1 ≤ 60) ∧ (-1 ≤ (yEx S c p f).2 ∧ (yEx S c p f).2 ≤ 60) ∧ ((yEx S c p f).2 = -1 → f = -1) := by
  unfold yEx
  split
  · rename_i h0
    split
    · rename_i h1
      have h60 : p < 60 := by
        by_cases h9 : 60 ≤ p
        · have := h p h9
          omega
        · omega
      exact ⟨⟨by show 0 ≤ p + 1; omega, by show p + 1 ≤ 60; omega⟩, ⟨by show (-1 : Int) ≤ -1; omega, by show (-1 : Int) ≤ 60; omega⟩, fun _ => h0⟩
    · exact ⟨hp, ⟨by show -1 ≤ p; omega, hp.2⟩, fun _ => h0⟩
  · rename_i h0
    exact ⟨hp, hf, fun h2 => absurd h2 h0⟩
theorem yS1_b {S : Int → Int} (h : ySb S) : (0 ≤ (yS1 S).1 ∧ (yS1 S).1 ≤ 60) ∧ (-1 ≤ (yS1 S).2.1 ∧ (yS1 S).2.1 ≤ 60) ∧ ((yS1 S).2.1 = -1 → (-1 : Int) = -1 ∧ 0 ≤ (yS1 S).2.2 ∧ (yS1 S).2.2 ≤ 718) := yRn_b h ⟨by decide, by decide⟩ ⟨by decide, by decide⟩
theorem yS2_b {S : Int → Int} (h : ySb S) : (0 ≤ (yS2 S).1 ∧ (yS2 S).1 ≤ 60) ∧ (-1 ≤ (yS2 S).2 ∧ (yS2 S).2 ≤ 60) ∧ ((yS2 S).2 = -1 → (yS1 S).2.1 = -1) := yEx_b h (by decide) (yS1_b h).1 (yS1_b h).2.1
theorem yS3_b {S : Int → Int} (h : ySb S) : (0 ≤ (yS3 S).1 ∧ (yS3 S).1 ≤ 60) ∧ (-1 ≤ (yS3 S).2.1 ∧ (yS3 S).2.1 ≤ 60) ∧ ((yS3 S).2.1 = -1 → (yS2 S).2 = -1 ∧ (yS1 S).2.2 + 1 ≤ (yS3 S).2.2 ∧ (yS3 S).2.2 ≤ 719) := yRn_b h (yS2_b h).1 (yS2_b h).2.1
theorem yS4_b {S : Int → Int} (h : ySb S) : (0 ≤ (yS4 S).1 ∧ (yS4 S).1 ≤ 60) ∧ (-1 ≤ (yS4 S).2 ∧ (yS4 S).2 ≤ 60) ∧ ((yS4 S).2 = -1 → (yS3 S).2.1 = -1) := yEx_b h (by decide) (yS3_b h).1 (yS3_b h).2.1
theorem yS5_b {S : Int → Int} (h : ySb S) : (0 ≤ (yS5 S).1 ∧ (yS5 S).1 ≤ 60) ∧ (-1 ≤ (yS5 S).2.1 ∧ (yS5 S).2.1 ≤ 60) ∧ ((yS5 S).2.1 = -1 → (yS4 S).2 = -1 ∧ 0 ≤ (yS5 S).2.2 ∧ (yS5 S).2.2 ≤ 3) := yRn_b h (yS4_b h).1 (yS4_b h).2.1
theorem yS6_b {S : Int → Int} (h : ySb S) : (0 ≤ (yS6 S).1 ∧ (yS6 S).1 ≤ 60) ∧ (-1 ≤ (yS6 S).2 ∧ (yS6 S).2 ≤ 60) ∧ ((yS6 S).2 = -1 → (yS5 S).2.1 = -1) := yEx_b h (by decide) (yS5_b h).1 (yS5_b h).2.1
theorem yS7_b {S : Int → Int} (h : ySb S) : (0 ≤ (yS7 S).1 ∧ (yS7 S).1 ≤ 60) ∧ (-1 ≤ (yS7 S).2.1 ∧ (yS7 S).2.1 ≤ 60) ∧ ((yS7 S).2.1 = -1 → (yS6 S).2 = -1 ∧ 0 ≤ (yS7 S).2.2 ∧ (yS7 S).2.2 ≤ 5) := yRn_b h (yS6_b h).1 (yS6_b h).2.1
theorem yS8_b {S : Int → Int} (h : ySb S) : (0 ≤ (yS8 S).1 ∧ (yS8 S).1 ≤ 60) ∧ (-1 ≤ (yS8 S).2 ∧ (yS8 S).2 ≤ 60) ∧ ((yS8 S).2 = -1 → (yS7 S).2.1 = -1) := yEx_b h (by decide) (yS7_b h).1 (yS7_b h).2.1
theorem yS9_b {S : Int → Int} (h : ySb S) : (0 ≤ (yS9 S).1 ∧ (yS9 S).1 ≤ 60) ∧ (-1 ≤ (yS9 S).2.1 ∧ (yS9 S).2.1 ≤ 60) ∧ ((yS9 S).2.1 = -1 → (yS8 S).2 = -1 ∧ 0 ≤ (yS9 S).2.2 ∧ (yS9 S).2.2 ≤ 7) := yRn_b h (yS8_b h).1 (yS8_b h).2.1
theorem yS10_b {S : Int → Int} (h : ySb S) : (0 ≤ (yS10 S).1 ∧ (yS10 S).1 ≤ 60) ∧ ((yS10 S).2 = 0 ∨ (yS10 S).2 = 1) := yTk_b h (by decide) (yS9_b h).1
theorem yS11_b {S : Int → Int} (h : ySb S) : (0 ≤ (yS11 S).1 ∧ (yS11 S).1 ≤ 60) ∧ (-1 ≤ (yS11 S).2.1 ∧ (yS11 S).2.1 ≤ 60) ∧ ((yS11 S).2.1 = -1 → (yS9 S).2.1 = -1 ∧ -1 ≤ (yS11 S).2.2 ∧ (yS11 S).2.2 ≤ 99) := by
  unfold yS11
  split
  · have := yRn_b h (d := 2) (lo := 0) (hi := 99) (yS10_b h).1 (yS9_b h).2.1
    exact ⟨this.1, this.2.1, fun e => ⟨(this.2.2 e).1, by have := (this.2.2 e).2.1; omega, (this.2.2 e).2.2⟩⟩
  · exact ⟨(yS10_b h).1, (yS9_b h).2.1, fun e => ⟨e, by show (-1 : Int) ≤ -1; omega, by show (-1 : Int) ≤ 99; omega⟩⟩
theorem yS12_b {S : Int → Int} (h : ySb S) : (0 ≤ (yS12 S).1 ∧ (yS12 S).1 ≤ 60) ∧ ((yS12 S).2 = 0 ∨ (yS12 S).2 = 1) := yTk_b h (by decide) (yS11_b h).1
theorem yS13_b {S : Int → Int} (h : ySb S) : (0 ≤ (yS13 S).1 ∧ (yS13 S).1 ≤ 60) ∧ (-1 ≤ (yS13 S).2.1 ∧ (yS13 S).2.1 ≤ 60) ∧ ((yS13 S).2.1 = -1 → (yS11 S).2.1 = -1 ∧ 0 ≤ (yS13 S).2.2 ∧ (yS13 S).2.2 ≤ 3) := by
  unfold yS13
  split
  · have := yRn_b h (d := 1) (lo := 0) (hi := 3) (yS12_b h).1 (yS11_b h).2.1
    exact ⟨this.1, this.2.1, fun e => ⟨(this.2.2 e).1, (this.2.2 e).2.1, (this.2.2 e).2.2⟩⟩
  · refine ⟨(yS12_b h).1, (yS11_b h).2.1, fun e => ⟨e, ?_⟩⟩
    have e : (yS11 S).2.1 = -1 := e
    have e9 := ((yS11_b h).2.2 e).1
    have e8 := ((yS9_b h).2.2 e9).1
    have e7 := (yS8_b h).2.2 e8
    have e6 := ((yS7_b h).2.2 e7).1
    have e5 := (yS6_b h).2.2 e6
    exact ((yS5_b h).2.2 e5).2
/-- no fault at the end: none before -/
theorem yPf_no {S : Int → Int} (h : ySb S) {len : Int} (e : yPf S len = -1) : (yS13 S).2.1 = -1 ∧ (yS11 S).2.1 = -1 ∧ (yS9 S).2.1 = -1 ∧ (yS7 S).2.1 = -1 ∧ (yS5 S).2.1 = -1 ∧ (yS3 S).2.1 = -1 ∧ (yS1 S).2.1 = -1 := by
  have b13 := yS13_b h
  have e13 : (yS13 S).2.1 = -1 := by
    unfold yPf at e
    split at e
    · have := b13.1
      omega
    · exact e
  have e11 := (b13.2.2 e13).1
  have e9 := ((yS11_b h).2.2 e11).1
  have e8 := ((yS9_b h).2.2 e9).1
  have e7 := (yS8_b h).2.2 e8
  have e6 := ((yS7_b h).2.2 e7).1
  have e5 := (yS6_b h).2.2 e6
  have e4 := ((yS5_b h).2.2 e5).1
  have e3 := (yS4_b h).2.2 e4
  have e2 := ((yS3_b h).2.2 e3).1
  have e1 := (yS2_b h).2.2 e2
  exact ⟨e13, e11, e9, e7, e5, e3, e1⟩
/-- the seven numbers -/
def yPv (S : Int → Int) : Nat → Int
  | 1 => (yS1 S).2.2
  | 2 => (yS3 S).2.2
  | 3 => (yS5 S).2.2
  | 4 => (yS7 S).2.2
  | 5 => (yS9 S).2.2
  | 6 => (yS11 S).2.2
  | 7 => (yS13 S).2.2
  | _ => 0
theorem yPv_b {S : Int → Int} (h : ySb S) {len : Int} (e : yPf S len = -1) : (0 ≤ yPv S 1 ∧ yPv S 1 < yPv S 2 ∧ yPv S 2 ≤ 719) ∧ (0 ≤ yPv S 3 ∧ yPv S 3 ≤ 3) ∧ (0 ≤ yPv S 4 ∧ yPv S 4 ≤ 5) ∧ (0 ≤ yPv S 5 ∧ yPv S 5 ≤ 7) ∧ (-1 ≤ yPv S 6 ∧ yPv S 6 ≤ 99) ∧ (0 ≤ yPv S 7 ∧ yPv S 7 ≤ 3) := by
  obtain ⟨e13, e11, e9, e7, e5, e3, e1⟩ := yPf_no h e
  have b1 := ((yS1_b h).2.2 e1).2
  have b3 := ((yS3_b h).2.2 e3).2
  have b5 := ((yS5_b h).2.2 e5).2
  have b7 := ((yS7_b h).2.2 e7).2
  have b9 := ((yS9_b h).2.2 e9).2
  have b11 := ((yS11_b h).2.2 e11).2
  have b13 := ((yS13_b h).2.2 e13).2
  exact ⟨⟨b1.1, by show (yS1 S).2.2 < (yS3 S).2.2; omega, b3.2⟩, b5, b7, b9, b11, b13⟩
/-- while a comer is read: what else is, is as it was -/
def yRi (g0 : yM) (c p f : Int) (m : yM) : Prop := yTy zpZ m ∧ (∀ a b : Nat, ¬ (a = 2 ∧ (b = 1 ∨ b = 3)) → ¬ (a = 50 + Int.toNat c ∧ 1 ≤ b ∧ b ≤ 7) → m a b = g0 a b) ∧ m 2 1 = p ∧ m 2 3 = f
theorem yRi.sc {g0 m : yM} {c p f : Int} (h : yRi g0 c p f m) : ySc m = ySc g0 := by
  funext q
  unfold ySc
  rw [h.2.1 2 2 (by omega) (by omega), h.2.1 18 _ (by omega) (by omega)]
theorem yRi.tp {g0 m m' : yM} {c p f A B : Int} (h : yRi g0 c p f m) (e : m' = yset (yset m 2 1 A) 2 3 B) (hA : 0 ≤ A ∧ A ≤ 60) (hB : -1 ≤ B ∧ B ≤ 60) : yRi g0 c A B m' ∧ ∀ b : Nat, m' (50 + Int.toNat c) b = m (50 + Int.toNat c) b := by
  subst e
  refine ⟨⟨?_, fun a b h1 h2 => ?_, ?_, yset_eq⟩, fun b => ?_⟩
  · refine yTy.sO ?_ (List.mem_of_getElem? (i := 2) rfl) rfl (by decide +kernel) hB
    exact yTy.sO h.1 (List.mem_of_getElem? (i := 2) rfl) rfl (by decide +kernel) hA
  · rw [yset_ne (by omega), yset_ne (by omega)]
    exact h.2.1 a b h1 h2
  · rw [yset_ne (by omega), yset_eq]
  · rw [yset_nc (by omega), yset_nc (by omega)]
theorem yRi.co {g0 m : yM} {c p f v : Int} {j : Nat} (h : yRi g0 c p f m) (hc : 0 ≤ c ∧ c < 40) (hj : (1 ≤ j ∧ j ≤ 3) ∨ (5 ≤ j ∧ j ≤ 7)) (hv : -2147483648 ≤ v ∧ v ≤ 2147483647) : yRi g0 c p f (yset m (50 + Int.toNat c) j v) := by
  refine ⟨?_, fun a b h1 h2 => ?_, ?_, ?_⟩
  · have hj : j = 1 ∨ j = 2 ∨ j = 3 ∨ j = 5 ∨ j = 6 ∨ j = 7 := by omega
    rcases hj with rfl | rfl | rfl | rfl | rfl | rfl <;> exact h.1.sR (List.mem_of_getElem? (i := 41) rfl) (by omega) (by omega) rfl (by omega) hv
  · rw [yset_ne (by omega)]
    exact h.2.1 a b h1 h2
  · rw [yset_nc (by omega)]
    exact h.2.2.1
  · rw [yset_nc (by omega)]
    exact h.2.2.2
theorem yRi.co4 {g0 m : yM} {c p f v : Int} (h : yRi g0 c p f m) (hc : 0 ≤ c ∧ c < 40) (hz : g0 1 1 ≤ c) : yRi g0 c p f (yset m (50 + Int.toNat c) 4 v) := by
  refine ⟨?_, fun a b h1 h2 => ?_, ?_, ?_⟩
  · refine h.1.sM ⟨by omega, by omega⟩ (Or.inl ?_)
    rw [h.2.1 1 1 (by omega) (by omega)]
    omega
  · rw [yset_ne (by omega)]
    exact h.2.1 a b h1 h2
  · rw [yset_nc (by omega)]
    exact h.2.2.1
  · rw [yset_nc (by omega)]
    exact h.2.2.2
theorem ySc_sb {g : yM} (h : yTy zpZ g) : ySb (ySc g) := fun p hp => by
  have h2 := h.fO (j := 2) (List.mem_of_getElem? (i := 2) rfl) rfl
  unfold ySc
  rw [if_neg (by omega)]
  decide
def yP_RI : yPT := fun as g K => ∃ (c : Int), as = [(3, 3), (141, c)] ∧ (0 ≤ c ∧ c < 40) ∧ (g 1 1 ≤ c) ∧ (yTy zpZ g) ∧ (∀ (r : Int) (g' : yM), (r = yPf (ySc g) (g 2 2)) → (yTy zpZ g') → (∀ a b : Nat, ¬ (a = 2 ∧ (b = 1 ∨ b = 3)) → ¬ (a = 50 + Int.toNat c ∧ 1 ≤ b ∧ b ≤ 7) → g' a b = g a b) → (r = -1 → ∀ j : Nat, 1 ≤ j → j ≤ 7 → g' (50 + Int.toNat c) j = yPv (ySc g) j) → K [(1, r)] g')
def yC_RI : yC := (56, (4, 102), yP_RI)
set_option maxRecDepth 8000 in
theorem yt_RI7 {K : List yV → yM → Prop} {Y : yNx} {g m : yM} {c p f : Int} (hY : yCl zpD56 (zpZ, zpRS, zpP4, zpMT, [yC_RW, yC_RN, yC_EP, yC_AP, yC_SG, yC_SP], (4, 102), 1) K Y) (hc : 0 ≤ c ∧ c < 40) (hz : g 1 1 ≤ c) (hb : ySb (ySc g)) (h : yRi g c p f m) (hp : 0 ≤ p ∧ p ≤ 60) (hf : -1 ≤ f ∧ f ≤ 60) (hK : ∀ (m' : yM) (v : Int), yRi g c (yRn (ySc g) 3 0 718 p f).1 (yRn (ySc g) 3 0 718 p f).2.1 m' → m' (50 + Int.toNat c) 1 = v → (∀ b : Nat, b ≠ 1 → m' (50 + Int.toNat c) b = m (50 + Int.toNat c) b) → ((yRn (ySc g) 3 0 718 p f).2.1 = -1 → v = (yRn (ySc g) 3 0 718 p f).2.2) → Y 23 [(3, 3), (141, c)] [] m') : Y 7 [(3, 3), (141, c)] [] m := by
  refine yrun_ok (sp := fun pc => Nat.beq pc 23) hY 9 7 _ [] _ ?_
  show (∃ (d1 a2 b3 : Int), [(3, 2), (1, 3), (1, 0), (1, 718)] = [(3, 2), (1, d1), (1, a2), (1, b3)] ∧ (d1 = 1 ∨ d1 = 2 ∨ d1 = 3) ∧ (0 ≤ m 2 1 ∧ m 2 1 ≤ 60) ∧ (m 2 2 ≤ 60) ∧ (∀ (r4 : Int) (g5 : yM), (g5 = yset (yset m 2 1 (yRn (ySc m) (Int.toNat d1) a2 b3 (m 2 1) (m 2 3)).1) 2 3 (yRn (ySc m) (Int.toNat d1) a2 b3 (m 2 1) (m 2 3)).2.1) → ((yRn (ySc m) (Int.toNat d1) a2 b3 (m 2 1) (m 2 3)).2.1 = -1 → r4 = (yRn (ySc m) (Int.toNat d1) a2 b3 (m 2 1) (m 2 3)).2.2) → (0 ≤ r4 ∧ r4 ≤ 999) → (Y 23 [(3, 3), (141, c)] [] (yset g5 (50 + Int.toNat c) 1 r4))))
  refine ⟨_, _, _, rfl, (by
      have l2 : m 2 2 ≤ 60 := (h.1.fO (j := 2) (List.mem_of_getElem? (i := 2) rfl) rfl).2
      have s0 := h.sc
      have s1 := h.2.2.1
      have s2 := h.2.2.2
      omega), (by
      have l2 : m 2 2 ≤ 60 := (h.1.fO (j := 2) (List.mem_of_getElem? (i := 2) rfl) rfl).2
      have s0 := h.sc
      have s1 := h.2.2.1
      have s2 := h.2.2.2
      omega), (by
      have l2 : m 2 2 ≤ 60 := (h.1.fO (j := 2) (List.mem_of_getElem? (i := 2) rfl) rfl).2
      have s0 := h.sc
      have s1 := h.2.2.1
      have s2 := h.2.2.2
      omega), ?_⟩
  intro r4 g5 p60 p61 p62
  have l2 : m 2 2 ≤ 60 := (h.1.fO (j := 2) (List.mem_of_getElem? (i := 2) rfl) rfl).2
  have s0 := h.sc
  have s1 := h.2.2.1
  have s2 := h.2.2.2
  have t3 : Int.toNat 3 = 3 := rfl
  rw [s0, s1, s2, t3] at p60 p61
  have e := yRn_b hb (d := 3) (lo := 0) (hi := 718) hp hf
  have e2 := h.tp p60 e.1 e.2.1
  refine hK _ r4 ?_ yset_eq (fun b hb2 => ?_) p61
  · exact (e2.1.co hc (by decide) ⟨by omega, by omega⟩)
  · rw [yset_nj hb2]
    exact e2.2 b
set_option maxRecDepth 8000 in
theorem yt_RI23 {K : List yV → yM → Prop} {Y : yNx} {g m : yM} {c p f : Int} (hY : yCl zpD56 (zpZ, zpRS, zpP4, zpMT, [yC_RW, yC_RN, yC_EP, yC_AP, yC_SG, yC_SP], (4, 102), 1) K Y) (hc : 0 ≤ c ∧ c < 40) (hz : g 1 1 ≤ c) (hb : ySb (ySc g)) (h : yRi g c p f m) (hp : 0 ≤ p ∧ p ≤ 60) (hf : -1 ≤ f ∧ f ≤ 60) (hK : ∀ m' : yM, yRi g c (yEx (ySc g) 45 p f).1 (yEx (ySc g) 45 p f).2 m' → (∀ b : Nat, m' (50 + Int.toNat c) b = m (50 + Int.toNat c) b) → Y 29 [(3, 3), (141, c)] [] m') : Y 23 [(3, 3), (141, c)] [] m := by
  refine yrun_ok (sp := fun pc => Nat.beq pc 29) hY 4 23 _ [] _ ?_
  show (∃ (c1 : Int), [(3, 3), (1, 45)] = [(3, 3), (1, c1)] ∧ (0 ≤ m 2 1 ∧ m 2 1 ≤ 60) ∧ (m 2 2 ≤ 60) ∧ (35 ≤ c1) ∧ (∀ (g2 : yM), (g2 = yset (yset m 2 1 (yEx (ySc m) c1 (m 2 1) (m 2 3)).1) 2 3 (yEx (ySc m) c1 (m 2 1) (m 2 3)).2) → (Y 29 [(3, 3), (141, c)] [] g2)))
  refine ⟨_, rfl, (by
      have l2 : m 2 2 ≤ 60 := (h.1.fO (j := 2) (List.mem_of_getElem? (i := 2) rfl) rfl).2
      have s0 := h.sc
      have s1 := h.2.2.1
      have s2 := h.2.2.2
      omega), (by
      have l2 : m 2 2 ≤ 60 := (h.1.fO (j := 2) (List.mem_of_getElem? (i := 2) rfl) rfl).2
      have s0 := h.sc
      have s1 := h.2.2.1
      have s2 := h.2.2.2
      omega), (by
      have l2 : m 2 2 ≤ 60 := (h.1.fO (j := 2) (List.mem_of_getElem? (i := 2) rfl) rfl).2
      have s0 := h.sc
      have s1 := h.2.2.1
      have s2 := h.2.2.2
      omega), ?_⟩
  intro g2 p30
  have l2 : m 2 2 ≤ 60 := (h.1.fO (j := 2) (List.mem_of_getElem? (i := 2) rfl) rfl).2
  have s0 := h.sc
  have s1 := h.2.2.1
  have s2 := h.2.2.2
  rw [s0, s1, s2] at p30
  have e := yEx_b hb (c := 45) (by decide) hp hf
  have e2 := h.tp p30 e.1 e.2.1
  exact hK _ e2.1 e2.2
set_option maxRecDepth 8000 in
theorem yt_RI29 {K : List yV → yM → Prop} {Y : yNx} {g m : yM} {c p f : Int} (hY : yCl zpD56 (zpZ, zpRS, zpP4, zpMT, [yC_RW, yC_RN, yC_EP, yC_AP, yC_SG, yC_SP], (4, 102), 1) K Y) (hc : 0 ≤ c ∧ c < 40) (hz : g 1 1 ≤ c) (hb : ySb (ySc g)) (h : yRi g c p f m) (hp : 0 ≤ p ∧ p ≤ 60) (hf : -1 ≤ f ∧ f ≤ 60) {lo : Int} (hlo : f = -1 → yw (m (50 + Int.toNat c) 1 + 1) = lo) (hK : ∀ (m' : yM) (v : Int), yRi g c (yRn (ySc g) 3 lo 719 p f).1 (yRn (ySc g) 3 lo 719 p f).2.1 m' → m' (50 + Int.toNat c) 2 = v → (∀ b : Nat, b ≠ 2 → m' (50 + Int.toNat c) b = m (50 + Int.toNat c) b) → ((yRn (ySc g) 3 lo 719 p f).2.1 = -1 → v = (yRn (ySc g) 3 lo 719 p f).2.2) → Y 50 [(3, 3), (141, c)] [] m') : Y 29 [(3, 3), (141, c)] [] m := by
  refine yrun_ok (sp := fun pc => Nat.beq pc 50) hY 12 29 _ [] _ ?_
  show (∃ (d1 a2 b3 : Int), [(3, 2), (1, 3), (1, (yw ((m (50 + Int.toNat c) 1) + 1))), (1, 719)] = [(3, 2), (1, d1), (1, a2), (1, b3)] ∧ (d1 = 1 ∨ d1 = 2 ∨ d1 = 3) ∧ (0 ≤ m 2 1 ∧ m 2 1 ≤ 60) ∧ (m 2 2 ≤ 60) ∧ (∀ (r4 : Int) (g5 : yM), (g5 = yset (yset m 2 1 (yRn (ySc m) (Int.toNat d1) a2 b3 (m 2 1) (m 2 3)).1) 2 3 (yRn (ySc m) (Int.toNat d1) a2 b3 (m 2 1) (m 2 3)).2.1) → ((yRn (ySc m) (Int.toNat d1) a2 b3 (m 2 1) (m 2 3)).2.1 = -1 → r4 = (yRn (ySc m) (Int.toNat d1) a2 b3 (m 2 1) (m 2 3)).2.2) → (0 ≤ r4 ∧ r4 ≤ 999) → (Y 50 [(3, 3), (141, c)] [] (yset g5 (50 + Int.toNat c) 2 r4))))
  refine ⟨_, _, _, rfl, (by
      have l2 : m 2 2 ≤ 60 := (h.1.fO (j := 2) (List.mem_of_getElem? (i := 2) rfl) rfl).2
      have s0 := h.sc
      have s1 := h.2.2.1
      have s2 := h.2.2.2
      omega), (by
      have l2 : m 2 2 ≤ 60 := (h.1.fO (j := 2) (List.mem_of_getElem? (i := 2) rfl) rfl).2
      have s0 := h.sc
      have s1 := h.2.2.1
      have s2 := h.2.2.2
      omega), (by
      have l2 : m 2 2 ≤ 60 := (h.1.fO (j := 2) (List.mem_of_getElem? (i := 2) rfl) rfl).2
      have s0 := h.sc
      have s1 := h.2.2.1
      have s2 := h.2.2.2
      omega), ?_⟩
  intro r4 g5 p60 p61 p62
  have l2 : m 2 2 ≤ 60 := (h.1.fO (j := 2) (List.mem_of_getElem? (i := 2) rfl) rfl).2
  have s0 := h.sc
  have s1 := h.2.2.1
  have s2 := h.2.2.2
  have t3 : Int.toNat 3 = 3 := rfl
  rw [s0, s1, s2, t3] at p60 p61
  have el : yRn (ySc g) 3 (yw (m (50 + Int.toNat c) 1 + 1)) 719 p f = yRn (ySc g) 3 lo 719 p f := yRn_lo hlo
  rw [el] at p60 p61
  have e := yRn_b hb (d := 3) (lo := lo) (hi := 719) hp hf
  have e2 := h.tp p60 e.1 e.2.1
  refine hK _ r4 ?_ yset_eq (fun b hb2 => ?_) p61
  · exact (e2.1.co hc (by decide) ⟨by omega, by omega⟩)
  · rw [yset_nj hb2]
    exact e2.2 b
set_option maxRecDepth 8000 in
theorem yt_RI50 {K : List yV → yM → Prop} {Y : yNx} {g m : yM} {c p f : Int} (hY : yCl zpD56 (zpZ, zpRS, zpP4, zpMT, [yC_RW, yC_RN, yC_EP, yC_AP, yC_SG, yC_SP], (4, 102), 1) K Y) (hc : 0 ≤ c ∧ c < 40) (hz : g 1 1 ≤ c) (hb : ySb (ySc g)) (h : yRi g c p f m) (hp : 0 ≤ p ∧ p ≤ 60) (hf : -1 ≤ f ∧ f ≤ 60) (hK : ∀ m' : yM, yRi g c (yEx (ySc g) 64 p f).1 (yEx (ySc g) 64 p f).2 m' → (∀ b : Nat, m' (50 + Int.toNat c) b = m (50 + Int.toNat c) b) → Y 56 [(3, 3), (141, c)] [] m') : Y 50 [(3, 3), (141, c)] [] m := by
  refine yrun_ok (sp := fun pc => Nat.beq pc 56) hY 4 50 _ [] _ ?_
  show (∃ (c1 : Int), [(3, 3), (1, 64)] = [(3, 3), (1, c1)] ∧ (0 ≤ m 2 1 ∧ m 2 1 ≤ 60) ∧ (m 2 2 ≤ 60) ∧ (35 ≤ c1) ∧ (∀ (g2 : yM), (g2 = yset (yset m 2 1 (yEx (ySc m) c1 (m 2 1) (m 2 3)).1) 2 3 (yEx (ySc m) c1 (m 2 1) (m 2 3)).2) → (Y 56 [(3, 3), (141, c)] [] g2)))
  refine ⟨_, rfl, (by
      have l2 : m 2 2 ≤ 60 := (h.1.fO (j := 2) (List.mem_of_getElem? (i := 2) rfl) rfl).2
      have s0 := h.sc
      have s1 := h.2.2.1
      have s2 := h.2.2.2
      omega), (by
      have l2 : m 2 2 ≤ 60 := (h.1.fO (j := 2) (List.mem_of_getElem? (i := 2) rfl) rfl).2
      have s0 := h.sc
      have s1 := h.2.2.1
      have s2 := h.2.2.2
      omega), (by
      have l2 : m 2 2 ≤ 60 := (h.1.fO (j := 2) (List.mem_of_getElem? (i := 2) rfl) rfl).2
      have s0 := h.sc
      have s1 := h.2.2.1
      have s2 := h.2.2.2
      omega), ?_⟩
  intro g2 p30
  have l2 : m 2 2 ≤ 60 := (h.1.fO (j := 2) (List.mem_of_getElem? (i := 2) rfl) rfl).2
  have s0 := h.sc
  have s1 := h.2.2.1
  have s2 := h.2.2.2
  rw [s0, s1, s2] at p30
  have e := yEx_b hb (c := 64) (by decide) hp hf
  have e2 := h.tp p30 e.1 e.2.1
  exact hK _ e2.1 e2.2
set_option maxRecDepth 8000 in
theorem yt_RI56 {K : List yV → yM → Prop} {Y : yNx} {g m : yM} {c p f : Int} (hY : yCl zpD56 (zpZ, zpRS, zpP4, zpMT, [yC_RW, yC_RN, yC_EP, yC_AP, yC_SG, yC_SP], (4, 102), 1) K Y) (hc : 0 ≤ c ∧ c < 40) (hz : g 1 1 ≤ c) (hb : ySb (ySc g)) (h : yRi g c p f m) (hp : 0 ≤ p ∧ p ≤ 60) (hf : -1 ≤ f ∧ f ≤ 60) (hK : ∀ (m' : yM) (v : Int), yRi g c (yRn (ySc g) 1 0 3 p f).1 (yRn (ySc g) 1 0 3 p f).2.1 m' → m' (50 + Int.toNat c) 3 = v → (∀ b : Nat, b ≠ 3 → m' (50 + Int.toNat c) b = m (50 + Int.toNat c) b) → ((yRn (ySc g) 1 0 3 p f).2.1 = -1 → v = (yRn (ySc g) 1 0 3 p f).2.2) → Y 70 [(3, 3), (141, c)] [] m') : Y 56 [(3, 3), (141, c)] [] m := by
  refine yrun_ok (sp := fun pc => Nat.beq pc 70) hY 9 56 _ [] _ ?_
  show (∃ (d1 a2 b3 : Int), [(3, 2), (1, 1), (1, 0), (1, 3)] = [(3, 2), (1, d1), (1, a2), (1, b3)] ∧ (d1 = 1 ∨ d1 = 2 ∨ d1 = 3) ∧ (0 ≤ m 2 1 ∧ m 2 1 ≤ 60) ∧ (m 2 2 ≤ 60) ∧ (∀ (r4 : Int) (g5 : yM), (g5 = yset (yset m 2 1 (yRn (ySc m) (Int.toNat d1) a2 b3 (m 2 1) (m 2 3)).1) 2 3 (yRn (ySc m) (Int.toNat d1) a2 b3 (m 2 1) (m 2 3)).2.1) → ((yRn (ySc m) (Int.toNat d1) a2 b3 (m 2 1) (m 2 3)).2.1 = -1 → r4 = (yRn (ySc m) (Int.toNat d1) a2 b3 (m 2 1) (m 2 3)).2.2) → (0 ≤ r4 ∧ r4 ≤ 999) → (Y 70 [(3, 3), (141, c)] [] (yset g5 (50 + Int.toNat c) 3 r4))))
  refine ⟨_, _, _, rfl, (by
      have l2 : m 2 2 ≤ 60 := (h.1.fO (j := 2) (List.mem_of_getElem? (i := 2) rfl) rfl).2
      have s0 := h.sc
      have s1 := h.2.2.1
      have s2 := h.2.2.2
      omega), (by
      have l2 : m 2 2 ≤ 60 := (h.1.fO (j := 2) (List.mem_of_getElem? (i := 2) rfl) rfl).2
      have s0 := h.sc
      have s1 := h.2.2.1
      have s2 := h.2.2.2
      omega), (by
      have l2 : m 2 2 ≤ 60 := (h.1.fO (j := 2) (List.mem_of_getElem? (i := 2) rfl) rfl).2
      have s0 := h.sc
      have s1 := h.2.2.1
      have s2 := h.2.2.2
      omega), ?_⟩
  intro r4 g5 p60 p61 p62
  have l2 : m 2 2 ≤ 60 := (h.1.fO (j := 2) (List.mem_of_getElem? (i := 2) rfl) rfl).2
  have s0 := h.sc
  have s1 := h.2.2.1
  have s2 := h.2.2.2
  have t3 : Int.toNat 1 = 1 := rfl
  rw [s0, s1, s2, t3] at p60 p61
  have e := yRn_b hb (d := 1) (lo := 0) (hi := 3) hp hf
  have e2 := h.tp p60 e.1 e.2.1
  refine hK _ r4 ?_ yset_eq (fun b hb2 => ?_) p61
  · exact (e2.1.co hc (by decide) ⟨by omega, by omega⟩)
  · rw [yset_nj hb2]
    exact e2.2 b
set_option maxRecDepth 8000 in
theorem yt_RI70 {K : List yV → yM → Prop} {Y : yNx} {g m : yM} {c p f : Int} (hY : yCl zpD56 (zpZ, zpRS, zpP4, zpMT, [yC_RW, yC_RN, yC_EP, yC_AP, yC_SG, yC_SP], (4, 102), 1) K Y) (hc : 0 ≤ c ∧ c < 40) (hz : g 1 1 ≤ c) (hb : ySb (ySc g)) (h : yRi g c p f m) (hp : 0 ≤ p ∧ p ≤ 60) (hf : -1 ≤ f ∧ f ≤ 60) (hK : ∀ m' : yM, yRi g c (yEx (ySc g) 109 p f).1 (yEx (ySc g) 109 p f).2 m' → (∀ b : Nat, m' (50 + Int.toNat c) b = m (50 + Int.toNat c) b) → Y 76 [(3, 3), (141, c)] [] m') : Y 70 [(3, 3), (141, c)] [] m := by
  refine yrun_ok (sp := fun pc => Nat.beq pc 76) hY 4 70 _ [] _ ?_
  show (∃ (c1 : Int), [(3, 3), (1, 109)] = [(3, 3), (1, c1)] ∧ (0 ≤ m 2 1 ∧ m 2 1 ≤ 60) ∧ (m 2 2 ≤ 60) ∧ (35 ≤ c1) ∧ (∀ (g2 : yM), (g2 = yset (yset m 2 1 (yEx (ySc m) c1 (m 2 1) (m 2 3)).1) 2 3 (yEx (ySc m) c1 (m 2 1) (m 2 3)).2) → (Y 76 [(3, 3), (141, c)] [] g2)))
  refine ⟨_, rfl, (by
      have l2 : m 2 2 ≤ 60 := (h.1.fO (j := 2) (List.mem_of_getElem? (i := 2) rfl) rfl).2
      have s0 := h.sc
      have s1 := h.2.2.1
      have s2 := h.2.2.2
      omega), (by
      have l2 : m 2 2 ≤ 60 := (h.1.fO (j := 2) (List.mem_of_getElem? (i := 2) rfl) rfl).2
      have s0 := h.sc
      have s1 := h.2.2.1
      have s2 := h.2.2.2
      omega), (by
      have l2 : m 2 2 ≤ 60 := (h.1.fO (j := 2) (List.mem_of_getElem? (i := 2) rfl) rfl).2
      have s0 := h.sc
      have s1 := h.2.2.1
      have s2 := h.2.2.2
      omega), ?_⟩
  intro g2 p30
  have l2 : m 2 2 ≤ 60 := (h.1.fO (j := 2) (List.mem_of_getElem? (i := 2) rfl) rfl).2
  have s0 := h.sc
  have s1 := h.2.2.1
  have s2 := h.2.2.2
  rw [s0, s1, s2] at p30
  have e := yEx_b hb (c := 109) (by decide) hp hf
  have e2 := h.tp p30 e.1 e.2.1
  exact hK _ e2.1 e2.2
set_option maxRecDepth 8000 in
theorem yt_RI76 {K : List yV → yM → Prop} {Y : yNx} {g m : yM} {c p f : Int} (hY : yCl zpD56 (zpZ, zpRS, zpP4, zpMT, [yC_RW, yC_RN, yC_EP, yC_AP, yC_SG, yC_SP], (4, 102), 1) K Y) (hc : 0 ≤ c ∧ c < 40) (hz : g 1 1 ≤ c) (hb : ySb (ySc g)) (h : yRi g c p f m) (hp : 0 ≤ p ∧ p ≤ 60) (hf : -1 ≤ f ∧ f ≤ 60) (hK : ∀ (m' : yM) (v : Int), yRi g c (yRn (ySc g) 1 0 5 p f).1 (yRn (ySc g) 1 0 5 p f).2.1 m' → m' (50 + Int.toNat c) 4 = v → (∀ b : Nat, b ≠ 4 → m' (50 + Int.toNat c) b = m (50 + Int.toNat c) b) → ((yRn (ySc g) 1 0 5 p f).2.1 = -1 → v = (yRn (ySc g) 1 0 5 p f).2.2) → Y 90 [(3, 3), (141, c)] [] m') : Y 76 [(3, 3), (141, c)] [] m := by
  refine yrun_ok (sp := fun pc => Nat.beq pc 90) hY 9 76 _ [] _ ?_
  show (∃ (d1 a2 b3 : Int), [(3, 2), (1, 1), (1, 0), (1, 5)] = [(3, 2), (1, d1), (1, a2), (1, b3)] ∧ (d1 = 1 ∨ d1 = 2 ∨ d1 = 3) ∧ (0 ≤ m 2 1 ∧ m 2 1 ≤ 60) ∧ (m 2 2 ≤ 60) ∧ (∀ (r4 : Int) (g5 : yM), (g5 = yset (yset m 2 1 (yRn (ySc m) (Int.toNat d1) a2 b3 (m 2 1) (m 2 3)).1) 2 3 (yRn (ySc m) (Int.toNat d1) a2 b3 (m 2 1) (m 2 3)).2.1) → ((yRn (ySc m) (Int.toNat d1) a2 b3 (m 2 1) (m 2 3)).2.1 = -1 → r4 = (yRn (ySc m) (Int.toNat d1) a2 b3 (m 2 1) (m 2 3)).2.2) → (0 ≤ r4 ∧ r4 ≤ 999) → (Y 90 [(3, 3), (141, c)] [] (yset g5 (50 + Int.toNat c) 4 r4))))
  refine ⟨_, _, _, rfl, (by
      have l2 : m 2 2 ≤ 60 := (h.1.fO (j := 2) (List.mem_of_getElem? (i := 2) rfl) rfl).2
      have s0 := h.sc
      have s1 := h.2.2.1
      have s2 := h.2.2.2
      omega), (by
      have l2 : m 2 2 ≤ 60 := (h.1.fO (j := 2) (List.mem_of_getElem? (i := 2) rfl) rfl).2
      have s0 := h.sc
      have s1 := h.2.2.1
      have s2 := h.2.2.2
      omega), (by
      have l2 : m 2 2 ≤ 60 := (h.1.fO (j := 2) (List.mem_of_getElem? (i := 2) rfl) rfl).2
      have s0 := h.sc
      have s1 := h.2.2.1
      have s2 := h.2.2.2
      omega), ?_⟩
  intro r4 g5 p60 p61 p62
  have l2 : m 2 2 ≤ 60 := (h.1.fO (j := 2) (List.mem_of_getElem? (i := 2) rfl) rfl).2
  have s0 := h.sc
  have s1 := h.2.2.1
  have s2 := h.2.2.2
  have t3 : Int.toNat 1 = 1 := rfl
  rw [s0, s1, s2, t3] at p60 p61
  have e := yRn_b hb (d := 1) (lo := 0) (hi := 5) hp hf
  have e2 := h.tp p60 e.1 e.2.1
  refine hK _ r4 ?_ yset_eq (fun b hb2 => ?_) p61
  · exact (e2.1.co4 hc hz)
  · rw [yset_nj hb2]
    exact e2.2 b
set_option maxRecDepth 8000 in
theorem yt_RI90 {K : List yV → yM → Prop} {Y : yNx} {g m : yM} {c p f : Int} (hY : yCl zpD56 (zpZ, zpRS, zpP4, zpMT, [yC_RW, yC_RN, yC_EP, yC_AP, yC_SG, yC_SP], (4, 102), 1) K Y) (hc : 0 ≤ c ∧ c < 40) (hz : g 1 1 ≤ c) (hb : ySb (ySc g)) (h : yRi g c p f m) (hp : 0 ≤ p ∧ p ≤ 60) (hf : -1 ≤ f ∧ f ≤ 60) (hK : ∀ m' : yM, yRi g c (yEx (ySc g) 115 p f).1 (yEx (ySc g) 115 p f).2 m' → (∀ b : Nat, m' (50 + Int.toNat c) b = m (50 + Int.toNat c) b) → Y 96 [(3, 3), (141, c)] [] m') : Y 90 [(3, 3), (141, c)] [] m := by
  refine yrun_ok (sp := fun pc => Nat.beq pc 96) hY 4 90 _ [] _ ?_
  show (∃ (c1 : Int), [(3, 3), (1, 115)] = [(3, 3), (1, c1)] ∧ (0 ≤ m 2 1 ∧ m 2 1 ≤ 60) ∧ (m 2 2 ≤ 60) ∧ (35 ≤ c1) ∧ (∀ (g2 : yM), (g2 = yset (yset m 2 1 (yEx (ySc m) c1 (m 2 1) (m 2 3)).1) 2 3 (yEx (ySc m) c1 (m 2 1) (m 2 3)).2) → (Y 96 [(3, 3), (141, c)] [] g2)))
  refine ⟨_, rfl, (by
      have l2 : m 2 2 ≤ 60 := (h.1.fO (j := 2) (List.mem_of_getElem? (i := 2) rfl) rfl).2
      have s0 := h.sc
      have s1 := h.2.2.1
      have s2 := h.2.2.2
      omega), (by
      have l2 : m 2 2 ≤ 60 := (h.1.fO (j := 2) (List.mem_of_getElem? (i := 2) rfl) rfl).2
      have s0 := h.sc
      have s1 := h.2.2.1
      have s2 := h.2.2.2
      omega), (by
      have l2 : m 2 2 ≤ 60 := (h.1.fO (j := 2) (List.mem_of_getElem? (i := 2) rfl) rfl).2
      have s0 := h.sc
      have s1 := h.2.2.1
      have s2 := h.2.2.2
      omega), ?_⟩
  intro g2 p30
  have l2 : m 2 2 ≤ 60 := (h.1.fO (j := 2) (List.mem_of_getElem? (i := 2) rfl) rfl).2
  have s0 := h.sc
  have s1 := h.2.2.1
  have s2 := h.2.2.2
  rw [s0, s1, s2] at p30
  have e := yEx_b hb (c := 115) (by decide) hp hf
  have e2 := h.tp p30 e.1 e.2.1
  exact hK _ e2.1 e2.2
set_option maxRecDepth 8000 in
theorem yt_RI96 {K : List yV → yM → Prop} {Y : yNx} {g m : yM} {c p f : Int} (hY : yCl zpD56 (zpZ, zpRS, zpP4, zpMT, [yC_RW, yC_RN, yC_EP, yC_AP, yC_SG, yC_SP], (4, 102), 1) K Y) (hc : 0 ≤ c ∧ c < 40) (hz : g 1 1 ≤ c) (hb : ySb (ySc g)) (h : yRi g c p f m) (hp : 0 ≤ p ∧ p ≤ 60) (hf : -1 ≤ f ∧ f ≤ 60) (hK : ∀ (m' : yM) (v : Int), yRi g c (yRn (ySc g) 1 0 7 p f).1 (yRn (ySc g) 1 0 7 p f).2.1 m' → m' (50 + Int.toNat c) 5 = v → (∀ b : Nat, b ≠ 5 → m' (50 + Int.toNat c) b = m (50 + Int.toNat c) b) → ((yRn (ySc g) 1 0 7 p f).2.1 = -1 → v = (yRn (ySc g) 1 0 7 p f).2.2) → Y 111 [(3, 3), (141, c)] [] m') : Y 96 [(3, 3), (141, c)] [] m := by
  refine yrun_ok (sp := fun pc => Nat.beq pc 111) hY 9 96 _ [] _ ?_
  show (∃ (d1 a2 b3 : Int), [(3, 2), (1, 1), (1, 0), (1, 7)] = [(3, 2), (1, d1), (1, a2), (1, b3)] ∧ (d1 = 1 ∨ d1 = 2 ∨ d1 = 3) ∧ (0 ≤ m 2 1 ∧ m 2 1 ≤ 60) ∧ (m 2 2 ≤ 60) ∧ (∀ (r4 : Int) (g5 : yM), (g5 = yset (yset m 2 1 (yRn (ySc m) (Int.toNat d1) a2 b3 (m 2 1) (m 2 3)).1) 2 3 (yRn (ySc m) (Int.toNat d1) a2 b3 (m 2 1) (m 2 3)).2.1) → ((yRn (ySc m) (Int.toNat d1) a2 b3 (m 2 1) (m 2 3)).2.1 = -1 → r4 = (yRn (ySc m) (Int.toNat d1) a2 b3 (m 2 1) (m 2 3)).2.2) → (0 ≤ r4 ∧ r4 ≤ 999) → (Y 111 [(3, 3), (141, c)] [] (yset g5 (50 + Int.toNat c) 5 r4))))
  refine ⟨_, _, _, rfl, (by
      have l2 : m 2 2 ≤ 60 := (h.1.fO (j := 2) (List.mem_of_getElem? (i := 2) rfl) rfl).2
      have s0 := h.sc
      have s1 := h.2.2.1
      have s2 := h.2.2.2
      omega), (by
      have l2 : m 2 2 ≤ 60 := (h.1.fO (j := 2) (List.mem_of_getElem? (i := 2) rfl) rfl).2
      have s0 := h.sc
      have s1 := h.2.2.1
      have s2 := h.2.2.2
      omega), (by
      have l2 : m 2 2 ≤ 60 := (h.1.fO (j := 2) (List.mem_of_getElem? (i := 2) rfl) rfl).2
      have s0 := h.sc
      have s1 := h.2.2.1
      have s2 := h.2.2.2
      omega), ?_⟩
  intro r4 g5 p60 p61 p62
  have l2 : m 2 2 ≤ 60 := (h.1.fO (j := 2) (List.mem_of_getElem? (i := 2) rfl) rfl).2
  have s0 := h.sc
  have s1 := h.2.2.1
  have s2 := h.2.2.2
  have t3 : Int.toNat 1 = 1 := rfl
  rw [s0, s1, s2, t3] at p60 p61
  have e := yRn_b hb (d := 1) (lo := 0) (hi := 7) hp hf
  have e2 := h.tp p60 e.1 e.2.1
  refine hK _ r4 ?_ yset_eq (fun b hb2 => ?_) p61
  · exact (e2.1.co hc (by decide) ⟨by omega, by omega⟩)
  · rw [yset_nj hb2]
    exact e2.2 b
set_option maxRecDepth 8000 in
theorem yt_RI111 {K : List yV → yM → Prop} {Y : yNx} {g m : yM} {c p f : Int} (hY : yCl zpD56 (zpZ, zpRS, zpP4, zpMT, [yC_RW, yC_RN, yC_EP, yC_AP, yC_SG, yC_SP], (4, 102), 1) K Y) (hc : 0 ≤ c ∧ c < 40) (hz : g 1 1 ≤ c) (hb : ySb (ySc g)) (h : yRi g c p f m) (hp : 0 ≤ p ∧ p ≤ 60) (hf : -1 ≤ f ∧ f ≤ 60) (hK : ∀ (m' : yM) (v : Int), yRi g c (if (yTk (ySc g) 35 p f).2 = 1 then yRn (ySc g) 2 0 99 (yTk (ySc g) 35 p f).1 f else ((yTk (ySc g) 35 p f).1, f, (-1 : Int))).1 (if (yTk (ySc g) 35 p f).2 = 1 then yRn (ySc g) 2 0 99 (yTk (ySc g) 35 p f).1 f else ((yTk (ySc g) 35 p f).1, f, (-1 : Int))).2.1 m' → m' (50 + Int.toNat c) 6 = v → (∀ b : Nat, b ≠ 6 → m' (50 + Int.toNat c) b = m (50 + Int.toNat c) b) → ((if (yTk (ySc g) 35 p f).2 = 1 then yRn (ySc g) 2 0 99 (yTk (ySc g) 35 p f).1 f else ((yTk (ySc g) 35 p f).1, f, (-1 : Int))).2.1 = -1 → v = (if (yTk (ySc g) 35 p f).2 = 1 then yRn (ySc g) 2 0 99 (yTk (ySc g) 35 p f).1 f else ((yTk (ySc g) 35 p f).1, f, (-1 : Int))).2.2) → Y 142 [(3, 3), (141, c)] [] m') : Y 111 [(3, 3), (141, c)] [] m := by
  refine yrun_ok (sp := fun pc => Nat.beq pc 142) hY 15 111 _ [] _ ?_
  show (∃ (c1 : Int), [(3, 2), (1, 35)] = [(3, 2), (1, c1)] ∧ (0 ≤ m 2 1 ∧ m 2 1 ≤ 60) ∧ (m 2 2 ≤ 60) ∧ (35 ≤ c1) ∧ (∀ (r2 : Int) (g3 : yM), (r2 = (yTk (ySc m) c1 (m 2 1) (m 2 3)).2) → (g3 = yset m 2 1 (yTk (ySc m) c1 (m 2 1) (m 2 3)).1) → ((r2 = 0 → (Y 142 [(3, 3), (141, c)] [] (yset g3 (50 + Int.toNat c) 6 (-1)))) ∧ (¬ (r2 = 0) → (∃ (d6 a7 b8 : Int), [(3, 2), (1, 2), (1, 0), (1, 99)] = [(3, 2), (1, d6), (1, a7), (1, b8)] ∧ (d6 = 1 ∨ d6 = 2 ∨ d6 = 3) ∧ (0 ≤ g3 2 1 ∧ g3 2 1 ≤ 60) ∧ (g3 2 2 ≤ 60) ∧ (∀ (r9 : Int) (g10 : yM), (g10 = yset (yset g3 2 1 (yRn (ySc g3) (Int.toNat d6) a7 b8 (g3 2 1) (g3 2 3)).1) 2 3 (yRn (ySc g3) (Int.toNat d6) a7 b8 (g3 2 1) (g3 2 3)).2.1) → ((yRn (ySc g3) (Int.toNat d6) a7 b8 (g3 2 1) (g3 2 3)).2.1 = -1 → r9 = (yRn (ySc g3) (Int.toNat d6) a7 b8 (g3 2 1) (g3 2 3)).2.2) → (0 ≤ r9 ∧ r9 ≤ 999) → (Y 142 [(3, 3), (141, c)] [] (yset g10 (50 + Int.toNat c) 6 r9))))))))
  refine ⟨_, rfl, (by
      have l2 : m 2 2 ≤ 60 := (h.1.fO (j := 2) (List.mem_of_getElem? (i := 2) rfl) rfl).2
      have s0 := h.sc
      have s1 := h.2.2.1
      have s2 := h.2.2.2
      omega), (by
      have l2 : m 2 2 ≤ 60 := (h.1.fO (j := 2) (List.mem_of_getElem? (i := 2) rfl) rfl).2
      have s0 := h.sc
      have s1 := h.2.2.1
      have s2 := h.2.2.2
      omega), (by
      have l2 : m 2 2 ≤ 60 := (h.1.fO (j := 2) (List.mem_of_getElem? (i := 2) rfl) rfl).2
      have s0 := h.sc
      have s1 := h.2.2.1
      have s2 := h.2.2.2
      omega), ?_⟩
  intro r2 g3 p40 p41
  refine ⟨fun h5 => ?_, fun h5 => ?_⟩
  · have l2 : m 2 2 ≤ 60 := (h.1.fO (j := 2) (List.mem_of_getElem? (i := 2) rfl) rfl).2
    have s0 := h.sc
    have s1 := h.2.2.1
    have s2 := h.2.2.2
    rw [s0, s1, s2] at p40 p41
    have t0 := yTk_b hb (f := f) (c := 35) (by decide) hp
    have a9 : _ = yset (yset m 2 1 (yTk (ySc g) 35 p f).1) 2 3 f := p41.trans (by rw [← s2]; exact (yset_ot m _ _ (by decide)).symm)
    have e1 := h.tp a9 t0.1 hf
    have u0 := e1.1.sc
    have u1 := e1.1.2.2.1
    have u2 := e1.1.2.2.2
    have et : ¬ (yTk (ySc g) 35 p f).2 = 1 := by omega
    rw [if_neg et] at hK
    refine hK _ (-1) ?_ yset_eq (fun b hb2 => ?_) (fun _ => rfl)
    · exact e1.1.co hc (by decide) ⟨by decide, by decide⟩
    · rw [yset_nj hb2]
      exact e1.2 b
  · refine ⟨_, _, _, rfl, (by
      have l2 : m 2 2 ≤ 60 := (h.1.fO (j := 2) (List.mem_of_getElem? (i := 2) rfl) rfl).2
      have s0 := h.sc
      have s1 := h.2.2.1
      have s2 := h.2.2.2
      have t0 := yTk_b hb (f := f) (c := 35) (by decide) hp
      rw [s0, s1, s2] at p41
      try rw [p41]
      have u1 : m 2 3 = f := s2
      have u2 := yset_ne (g := m) (q := 2) (j := 1) (v := (yTk (ySc g) 35 p f).1) (a := 2) (b := 3) (by decide)
      have u3 := yset_eq (g := m) (q := 2) (j := 1) (v := (yTk (ySc g) 35 p f).1)
      have u4 := yset_ne (g := m) (q := 2) (j := 1) (v := (yTk (ySc g) 35 p f).1) (a := 2) (b := 2) (by decide)
      omega), (by
      have l2 : m 2 2 ≤ 60 := (h.1.fO (j := 2) (List.mem_of_getElem? (i := 2) rfl) rfl).2
      have s0 := h.sc
      have s1 := h.2.2.1
      have s2 := h.2.2.2
      have t0 := yTk_b hb (f := f) (c := 35) (by decide) hp
      rw [s0, s1, s2] at p41
      try rw [p41]
      have u1 : m 2 3 = f := s2
      have u2 := yset_ne (g := m) (q := 2) (j := 1) (v := (yTk (ySc g) 35 p f).1) (a := 2) (b := 3) (by decide)
      have u3 := yset_eq (g := m) (q := 2) (j := 1) (v := (yTk (ySc g) 35 p f).1)
      have u4 := yset_ne (g := m) (q := 2) (j := 1) (v := (yTk (ySc g) 35 p f).1) (a := 2) (b := 2) (by decide)
      omega), (by
      have l2 : m 2 2 ≤ 60 := (h.1.fO (j := 2) (List.mem_of_getElem? (i := 2) rfl) rfl).2
      have s0 := h.sc
      have s1 := h.2.2.1
      have s2 := h.2.2.2
      have t0 := yTk_b hb (f := f) (c := 35) (by decide) hp
      rw [s0, s1, s2] at p41
      try rw [p41]
      have u1 : m 2 3 = f := s2
      have u2 := yset_ne (g := m) (q := 2) (j := 1) (v := (yTk (ySc g) 35 p f).1) (a := 2) (b := 3) (by decide)
      have u3 := yset_eq (g := m) (q := 2) (j := 1) (v := (yTk (ySc g) 35 p f).1)
      have u4 := yset_ne (g := m) (q := 2) (j := 1) (v := (yTk (ySc g) 35 p f).1) (a := 2) (b := 2) (by decide)
      omega), ?_⟩
    intro r9 g10 p110 p111 p112
    have l2 : m 2 2 ≤ 60 := (h.1.fO (j := 2) (List.mem_of_getElem? (i := 2) rfl) rfl).2
    have s0 := h.sc
    have s1 := h.2.2.1
    have s2 := h.2.2.2
    rw [s0, s1, s2] at p40 p41
    have t0 := yTk_b hb (f := f) (c := 35) (by decide) hp
    have a9 : _ = yset (yset m 2 1 (yTk (ySc g) 35 p f).1) 2 3 f := p41.trans (by rw [← s2]; exact (yset_ot m _ _ (by decide)).symm)
    have e1 := h.tp a9 t0.1 hf
    have u0 := e1.1.sc
    have u1 := e1.1.2.2.1
    have u2 := e1.1.2.2.2
    have t3 : Int.toNat 2 = 2 := rfl
    rw [u0, u1, u2, t3] at p110 p111
    have et : (yTk (ySc g) 35 p f).2 = 1 := by omega
    have e := yRn_b hb (d := 2) (lo := 0) (hi := 99) t0.1 hf
    have e2 := e1.1.tp p110 e.1 e.2.1
    rw [if_pos et] at hK
    refine hK _ r9 ?_ yset_eq (fun b hb2 => ?_) p111
    · exact e2.1.co hc (by decide) ⟨by omega, by omega⟩
    · rw [yset_nj hb2, e2.2 b]
      exact e1.2 b
set_option maxRecDepth 8000 in
theorem yt_RI142 {K : List yV → yM → Prop} {Y : yNx} {g m : yM} {c p f : Int} (hY : yCl zpD56 (zpZ, zpRS, zpP4, zpMT, [yC_RW, yC_RN, yC_EP, yC_AP, yC_SG, yC_SP], (4, 102), 1) K Y) (hc : 0 ≤ c ∧ c < 40) (hz : g 1 1 ≤ c) (hb : ySb (ySc g)) (h : yRi g c p f m) (hp : 0 ≤ p ∧ p ≤ 60) (hf : -1 ≤ f ∧ f ≤ 60) {u : Int} (hu : f = -1 → m (50 + Int.toNat c) 3 = u) (hK : ∀ (m' : yM) (v : Int), yRi g c (if (yTk (ySc g) 108 p f).2 = 1 then yRn (ySc g) 1 0 3 (yTk (ySc g) 108 p f).1 f else ((yTk (ySc g) 108 p f).1, f, u)).1 (if (yTk (ySc g) 108 p f).2 = 1 then yRn (ySc g) 1 0 3 (yTk (ySc g) 108 p f).1 f else ((yTk (ySc g) 108 p f).1, f, u)).2.1 m' → m' (50 + Int.toNat c) 7 = v → (∀ b : Nat, b ≠ 7 → m' (50 + Int.toNat c) b = m (50 + Int.toNat c) b) → ((if (yTk (ySc g) 108 p f).2 = 1 then yRn (ySc g) 1 0 3 (yTk (ySc g) 108 p f).1 f else ((yTk (ySc g) 108 p f).1, f, u)).2.1 = -1 → v = (if (yTk (ySc g) 108 p f).2 = 1 then yRn (ySc g) 1 0 3 (yTk (ySc g) 108 p f).1 f else ((yTk (ySc g) 108 p f).1, f, u)).2.2) → Y 175 [(3, 3), (141, c)] [] m') : Y 142 [(3, 3), (141, c)] [] m := by
  refine yrun_ok (sp := fun pc => Nat.beq pc 175) hY 15 142 _ [] _ ?_
  show (∃ (c1 : Int), [(3, 2), (1, 108)] = [(3, 2), (1, c1)] ∧ (0 ≤ m 2 1 ∧ m 2 1 ≤ 60) ∧ (m 2 2 ≤ 60) ∧ (35 ≤ c1) ∧ (∀ (r2 : Int) (g3 : yM), (r2 = (yTk (ySc m) c1 (m 2 1) (m 2 3)).2) → (g3 = yset m 2 1 (yTk (ySc m) c1 (m 2 1) (m 2 3)).1) → ((r2 = 0 → (Y 175 [(3, 3), (141, c)] [] (yset g3 (50 + Int.toNat c) 7 (g3 (50 + Int.toNat c) 3)))) ∧ (¬ (r2 = 0) → (∃ (d6 a7 b8 : Int), [(3, 2), (1, 1), (1, 0), (1, 3)] = [(3, 2), (1, d6), (1, a7), (1, b8)] ∧ (d6 = 1 ∨ d6 = 2 ∨ d6 = 3) ∧ (0 ≤ g3 2 1 ∧ g3 2 1 ≤ 60) ∧ (g3 2 2 ≤ 60) ∧ (∀ (r9 : Int) (g10 : yM), (g10 = yset (yset g3 2 1 (yRn (ySc g3) (Int.toNat d6) a7 b8 (g3 2 1) (g3 2 3)).1) 2 3 (yRn (ySc g3) (Int.toNat d6) a7 b8 (g3 2 1) (g3 2 3)).2.1) → ((yRn (ySc g3) (Int.toNat d6) a7 b8 (g3 2 1) (g3 2 3)).2.1 = -1 → r9 = (yRn (ySc g3) (Int.toNat d6) a7 b8 (g3 2 1) (g3 2 3)).2.2) → (0 ≤ r9 ∧ r9 ≤ 999) → (Y 175 [(3, 3), (141, c)] [] (yset g10 (50 + Int.toNat c) 7 r9))))))))
  refine ⟨_, rfl, (by
      have l2 : m 2 2 ≤ 60 := (h.1.fO (j := 2) (List.mem_of_getElem? (i := 2) rfl) rfl).2
      have s0 := h.sc
      have s1 := h.2.2.1
      have s2 := h.2.2.2
      omega), (by
      have l2 : m 2 2 ≤ 60 := (h.1.fO (j := 2) (List.mem_of_getElem? (i := 2) rfl) rfl).2
      have s0 := h.sc
      have s1 := h.2.2.1
      have s2 := h.2.2.2
      omega), (by
      have l2 : m 2 2 ≤ 60 := (h.1.fO (j := 2) (List.mem_of_getElem? (i := 2) rfl) rfl).2
      have s0 := h.sc
      have s1 := h.2.2.1
      have s2 := h.2.2.2
      omega), ?_⟩
  intro r2 g3 p40 p41
  refine ⟨fun h5 => ?_, fun h5 => ?_⟩
  · have l2 : m 2 2 ≤ 60 := (h.1.fO (j := 2) (List.mem_of_getElem? (i := 2) rfl) rfl).2
    have s0 := h.sc
    have s1 := h.2.2.1
    have s2 := h.2.2.2
    rw [s0, s1, s2] at p40 p41
    have t0 := yTk_b hb (f := f) (c := 108) (by decide) hp
    have a9 : _ = yset (yset m 2 1 (yTk (ySc g) 108 p f).1) 2 3 f := p41.trans (by rw [← s2]; exact (yset_ot m _ _ (by decide)).symm)
    have e1 := h.tp a9 t0.1 hf
    have u0 := e1.1.sc
    have u1 := e1.1.2.2.1
    have u2 := e1.1.2.2.2
    have et : ¬ (yTk (ySc g) 108 p f).2 = 1 := by omega
    rw [if_neg et] at hK
    refine hK _ (m (50 + Int.toNat c) 3) ?_ ?_ (fun b hb2 => ?_) hu
    · exact e1.1.co hc (by decide) (e1.1.1.fR (List.mem_of_getElem? (i := 41) rfl) (by omega) (by omega) rfl)
    · rw [yset_eq]
      exact e1.2 3
    · rw [yset_nj hb2]
      exact e1.2 b
  · refine ⟨_, _, _, rfl, (by
      have l2 : m 2 2 ≤ 60 := (h.1.fO (j := 2) (List.mem_of_getElem? (i := 2) rfl) rfl).2
      have s0 := h.sc
      have s1 := h.2.2.1
      have s2 := h.2.2.2
      have t0 := yTk_b hb (f := f) (c := 108) (by decide) hp
      rw [s0, s1, s2] at p41
      try rw [p41]
      have u1 : m 2 3 = f := s2
      have u2 := yset_ne (g := m) (q := 2) (j := 1) (v := (yTk (ySc g) 108 p f).1) (a := 2) (b := 3) (by decide)
      have u3 := yset_eq (g := m) (q := 2) (j := 1) (v := (yTk (ySc g) 108 p f).1)
      have u4 := yset_ne (g := m) (q := 2) (j := 1) (v := (yTk (ySc g) 108 p f).1) (a := 2) (b := 2) (by decide)
      omega), (by
      have l2 : m 2 2 ≤ 60 := (h.1.fO (j := 2) (List.mem_of_getElem? (i := 2) rfl) rfl).2
      have s0 := h.sc
      have s1 := h.2.2.1
      have s2 := h.2.2.2
      have t0 := yTk_b hb (f := f) (c := 108) (by decide) hp
      rw [s0, s1, s2] at p41
      try rw [p41]
      have u1 : m 2 3 = f := s2
      have u2 := yset_ne (g := m) (q := 2) (j := 1) (v := (yTk (ySc g) 108 p f).1) (a := 2) (b := 3) (by decide)
      have u3 := yset_eq (g := m) (q := 2) (j := 1) (v := (yTk (ySc g) 108 p f).1)
      have u4 := yset_ne (g := m) (q := 2) (j := 1) (v := (yTk (ySc g) 108 p f).1) (a := 2) (b := 2) (by decide)
      omega), (by
      have l2 : m 2 2 ≤ 60 := (h.1.fO (j := 2) (List.mem_of_getElem? (i := 2) rfl) rfl).2
      have s0 := h.sc
      have s1 := h.2.2.1
      have s2 := h.2.2.2
      have t0 := yTk_b hb (f := f) (c := 108) (by decide) hp
      rw [s0, s1, s2] at p41
      try rw [p41]
      have u1 : m 2 3 = f := s2
      have u2 := yset_ne (g := m) (q := 2) (j := 1) (v := (yTk (ySc g) 108 p f).1) (a := 2) (b := 3) (by decide)
      have u3 := yset_eq (g := m) (q := 2) (j := 1) (v := (yTk (ySc g) 108 p f).1)
      have u4 := yset_ne (g := m) (q := 2) (j := 1) (v := (yTk (ySc g) 108 p f).1) (a := 2) (b := 2) (by decide)
      omega), ?_⟩
    intro r9 g10 p110 p111 p112
    have l2 : m 2 2 ≤ 60 := (h.1.fO (j := 2) (List.mem_of_getElem? (i := 2) rfl) rfl).2
    have s0 := h.sc
    have s1 := h.2.2.1
    have s2 := h.2.2.2
    rw [s0, s1, s2] at p40 p41
    have t0 := yTk_b hb (f := f) (c := 108) (by decide) hp
    have a9 : _ = yset (yset m 2 1 (yTk (ySc g) 108 p f).1) 2 3 f := p41.trans (by rw [← s2]; exact (yset_ot m _ _ (by decide)).symm)
    have e1 := h.tp a9 t0.1 hf
    have u0 := e1.1.sc
    have u1 := e1.1.2.2.1
    have u2 := e1.1.2.2.2
    have t3 : Int.toNat 1 = 1 := rfl
    rw [u0, u1, u2, t3] at p110 p111
    have et : (yTk (ySc g) 108 p f).2 = 1 := by omega
    have e := yRn_b hb (d := 1) (lo := 0) (hi := 3) t0.1 hf
    have e2 := e1.1.tp p110 e.1 e.2.1
    rw [if_pos et] at hK
    refine hK _ r9 ?_ yset_eq (fun b hb2 => ?_) p111
    · exact e2.1.co hc (by decide) ⟨by omega, by omega⟩
    · rw [yset_nj hb2, e2.2 b]
      exact e1.2 b
theorem yand_nn (x : Int) : 0 ≤ yb (fun x y => x &&& y) x 255 := (zandI (x := Int32.ofInt x) (y := Int32.ofInt 255) (by decide)).1
set_option maxRecDepth 8000 in
theorem yt_RI175 {K : List yV → yM → Prop} {Y : yNx} {g m : yM} {c p f : Int} (hY : yCl zpD56 (zpZ, zpRS, zpP4, zpMT, [yC_RW, yC_RN, yC_EP, yC_AP, yC_SG, yC_SP], (4, 102), 1) K Y) (hc : 0 ≤ c ∧ c < 40) (hz : g 1 1 ≤ c) (hb : ySb (ySc g)) (h : yRi g c p f m) (hp : 0 ≤ p ∧ p ≤ 60) (hf : -1 ≤ f ∧ f ≤ 60) (hK : ∀ (m' : yM) (r : Int), r = (if f = -1 ∧ p < g 2 2 then p else f) → yTy zpZ m' → (∀ a b : Nat, ¬ (a = 2 ∧ (b = 1 ∨ b = 3)) → ¬ (a = 50 + Int.toNat c ∧ 1 ≤ b ∧ b ≤ 7) → m' a b = g a b) → (∀ b : Nat, m' (50 + Int.toNat c) b = m (50 + Int.toNat c) b) → K [(1, r)] m') : Y 175 [(3, 3), (141, c)] [] m := by
  refine yrun_ok (sp := fun pc => false) hY 12 175 _ [] _ ?_
  show ([(3, 2)] = [(3, 2)] ∧ (0 ≤ m 2 1) ∧ (m 2 2 ≤ 60) ∧ (∀ (r1 : Int), (m 2 3 = -1 → r1 = ySc m (m 2 1)) → (m 2 3 ≠ -1 → r1 = -1) → ((r1 = (-1) → (K [(1, (m 2 3))] m)) ∧ (¬ (r1 = (-1)) → ([(3, 2)] = [(3, 2)] ∧ (0 ≤ m 2 1 ∧ m 2 1 ≤ 60) ∧ (∀ (g4 : yM), (m 2 3 = -1 → g4 = yset m 2 3 (m 2 1)) → (m 2 3 ≠ -1 → g4 = m) → (K [(1, (g4 2 3))] g4)))))))
  refine ⟨rfl, (by
      have l2 : m 2 2 ≤ 60 := (h.1.fO (j := 2) (List.mem_of_getElem? (i := 2) rfl) rfl).2
      have s0 := h.sc
      have s1 := h.2.2.1
      have s2 := h.2.2.2
      omega), (by
      have l2 : m 2 2 ≤ 60 := (h.1.fO (j := 2) (List.mem_of_getElem? (i := 2) rfl) rfl).2
      have s0 := h.sc
      have s1 := h.2.2.1
      have s2 := h.2.2.2
      omega), ?_⟩
  intro r1 p20 p21
  refine ⟨fun h3 => ?_, fun h3 => ?_⟩
  · have l2 : m 2 2 ≤ 60 := (h.1.fO (j := 2) (List.mem_of_getElem? (i := 2) rfl) rfl).2
    have s0 := h.sc
    have s1 := h.2.2.1
    have s2 := h.2.2.2
    have sl : m 2 2 = g 2 2 := h.2.1 2 2 (by omega) (by omega)
    rw [s0, s1, s2] at p20
    rw [s2] at p21
    refine hK _ _ ?_ h.1 h.2.1 (fun b => rfl)
    have hn : ¬ (f = -1 ∧ p < g 2 2) := fun z => by
      have e := p20 z.1
      unfold ySc at e
      rw [if_pos z.2] at e
      have := yand_nn (g 18 (Int.toNat p))
      omega
    rw [if_neg hn]
    exact s2
  · refine ⟨rfl, (by
      have l2 : m 2 2 ≤ 60 := (h.1.fO (j := 2) (List.mem_of_getElem? (i := 2) rfl) rfl).2
      have s0 := h.sc
      have s1 := h.2.2.1
      have s2 := h.2.2.2
      omega), ?_⟩
    intro g4 p50 p51
    have l2 : m 2 2 ≤ 60 := (h.1.fO (j := 2) (List.mem_of_getElem? (i := 2) rfl) rfl).2
    have s0 := h.sc
    have s1 := h.2.2.1
    have s2 := h.2.2.2
    have sl : m 2 2 = g 2 2 := h.2.1 2 2 (by omega) (by omega)
    rw [s0, s1, s2] at p20
    rw [s2] at p21
    rw [s1, s2] at p50
    rw [s2] at p51
    have hf1 : f = -1 := by
      by_cases e : f = -1
      · exact e
      · exact absurd (p21 e) (by omega)
    have hp1 : p < g 2 2 := by
      by_cases e : p < g 2 2
      · exact e
      · have e2 := p20 hf1
        unfold ySc at e2
        rw [if_neg e] at e2
        omega
    have e3 := p50 hf1
    have e4 : _ = yset (yset m 2 1 p) 2 3 p := e3.trans (by rw [← s1, yset_id])
    have e5 := h.tp e4 hp ⟨by omega, by omega⟩
    refine hK _ _ ?_ e5.1.1 e5.1.2.1 e5.2
    rw [if_pos ⟨hf1, hp1⟩]
    exact e5.1.2.2.2
set_option maxRecDepth 8000 in
theorem yv_RI {K : List yV → yM → Prop} {Y : yNx} {g : yM} {c : Int} (hY : yCl zpD56 (zpZ, zpRS, zpP4, zpMT, [yC_RW, yC_RN, yC_EP, yC_AP, yC_SG, yC_SP], (4, 102), 1) K Y) (hp0 : 0 ≤ c ∧ c < 40) (hp1 : g 1 1 ≤ c) (hp2 : yTy zpZ g) (hK : ∀ (r : Int) (g' : yM), (r = yPf (ySc g) (g 2 2)) → (yTy zpZ g') → (∀ a b : Nat, ¬ (a = 2 ∧ (b = 1 ∨ b = 3)) → ¬ (a = 50 + Int.toNat c ∧ 1 ≤ b ∧ b ≤ 7) → g' a b = g a b) → (r = -1 → ∀ j : Nat, 1 ≤ j → j ≤ 7 → g' (50 + Int.toNat c) j = yPv (ySc g) j) → K [(1, r)] g') : Y 0 [(3, 3), (141, c)] [] g := by
  refine yrun_ok (sp := fun pc => Nat.beq pc 7) hY 4 0 _ [] g ?_
  show ([(3, 2)] = [(3, 2)] ∧ (∀ (g1 : yM), (g1 = yset (yset g 2 1 0) 2 3 (-1)) → (Y 7 [(3, 3), (141, c)] [] g1)))
  refine ⟨rfl, ?_⟩
  intro g1 p20
  subst p20
  have hb : ySb (ySc g) := ySc_sb hp2
  have hr0 : yRi g c (g 2 1) (g 2 3) g := ⟨hp2, fun _ _ _ _ => rfl, rfl, rfl⟩
  have h0 := (hr0.tp rfl (A := 0) (B := -1) ⟨by decide, by decide⟩ ⟨by decide, by decide⟩).1
  skip
  refine yt_RI7 hY hp0 hp1 hb h0 ⟨by decide, by decide⟩ ⟨by decide, by decide⟩ (fun m1 v1 h1 k1 r1 w1 => ?_)
  refine yt_RI23 hY hp0 hp1 hb (p := (yS1 (ySc g)).1) (f := (yS1 (ySc g)).2.1) h1 (yS1_b hb).1 (yS1_b hb).2.1 (fun m2 h2 r2 => ?_)
  refine yt_RI29 hY hp0 hp1 hb (lo := (yS1 (ySc g)).2.2 + 1) (p := (yS2 (ySc g)).1) (f := (yS2 (ySc g)).2) h2 (yS2_b hb).1 (yS2_b hb).2.1 (fun e => by
      have e1 := (yS2_b hb).2.2 e
      have b1 := ((yS1_b hb).2.2 e1).2
      rw [((r2 1).trans (k1)), w1 e1]
      exact yw_s ((yS1 (ySc g)).2.2 + 1) (by omega) (by omega)) (fun m3 v3 h3 k3 r3 w3 => ?_)
  refine yt_RI50 hY hp0 hp1 hb (p := (yS3 (ySc g)).1) (f := (yS3 (ySc g)).2.1) h3 (yS3_b hb).1 (yS3_b hb).2.1 (fun m4 h4 r4 => ?_)
  refine yt_RI56 hY hp0 hp1 hb (p := (yS4 (ySc g)).1) (f := (yS4 (ySc g)).2) h4 (yS4_b hb).1 (yS4_b hb).2.1 (fun m5 v5 h5 k5 r5 w5 => ?_)
  refine yt_RI70 hY hp0 hp1 hb (p := (yS5 (ySc g)).1) (f := (yS5 (ySc g)).2.1) h5 (yS5_b hb).1 (yS5_b hb).2.1 (fun m6 h6 r6 => ?_)
  refine yt_RI76 hY hp0 hp1 hb (p := (yS6 (ySc g)).1) (f := (yS6 (ySc g)).2) h6 (yS6_b hb).1 (yS6_b hb).2.1 (fun m7 v7 h7 k7 r7 w7 => ?_)
  refine yt_RI90 hY hp0 hp1 hb (p := (yS7 (ySc g)).1) (f := (yS7 (ySc g)).2.1) h7 (yS7_b hb).1 (yS7_b hb).2.1 (fun m8 h8 r8 => ?_)
  refine yt_RI96 hY hp0 hp1 hb (p := (yS8 (ySc g)).1) (f := (yS8 (ySc g)).2) h8 (yS8_b hb).1 (yS8_b hb).2.1 (fun m9 v9 h9 k9 r9 w9 => ?_)
  refine yt_RI111 hY hp0 hp1 hb (p := (yS9 (ySc g)).1) (f := (yS9 (ySc g)).2.1) h9 (yS9_b hb).1 (yS9_b hb).2.1 (fun m11 v11 h11 k11 r11 w11 => ?_)
  refine yt_RI142 hY hp0 hp1 hb (u := (yS5 (ySc g)).2.2) (p := (yS11 (ySc g)).1) (f := (yS11 (ySc g)).2.1) h11 (yS11_b hb).1 (yS11_b hb).2.1 (fun e => by
      have e9 := ((yS11_b hb).2.2 e).1
      have e8 := ((yS9_b hb).2.2 e9).1
      have e7 := (yS8_b hb).2.2 e8
      have e6 := ((yS7_b hb).2.2 e7).1
      have e5 := (yS6_b hb).2.2 e6
      rw [((r11 3 (by decide)).trans ((r9 3 (by decide)).trans ((r8 3).trans ((r7 3 (by decide)).trans ((r6 3).trans (k5))))))]
      exact w5 e5) (fun m13 v13 h13 k13 r13 w13 => ?_)
  refine yt_RI175 hY hp0 hp1 hb (p := (yS13 (ySc g)).1) (f := (yS13 (ySc g)).2.1) h13 (yS13_b hb).1 (yS13_b hb).2.1 (fun m' r hr ht hfr hfd => ?_)
  refine hK _ _ hr ht hfr (fun e j j1 j7 => ?_)
  obtain ⟨e13, e11, e9, e7, e5, e3, e1⟩ := yPf_no hb (hr.symm.trans e)
  have hj : j = 1 ∨ j = 2 ∨ j = 3 ∨ j = 4 ∨ j = 5 ∨ j = 6 ∨ j = 7 := by omega
  rcases hj with rfl | rfl | rfl | rfl | rfl | rfl | rfl
  · exact ((hfd 1).trans ((r13 1 (by decide)).trans ((r11 1 (by decide)).trans ((r9 1 (by decide)).trans ((r8 1).trans ((r7 1 (by decide)).trans ((r6 1).trans ((r5 1 (by decide)).trans ((r4 1).trans ((r3 1 (by decide)).trans ((r2 1).trans (k1)))))))))))).trans (w1 e1)
  · exact ((hfd 2).trans ((r13 2 (by decide)).trans ((r11 2 (by decide)).trans ((r9 2 (by decide)).trans ((r8 2).trans ((r7 2 (by decide)).trans ((r6 2).trans ((r5 2 (by decide)).trans ((r4 2).trans (k3)))))))))).trans (w3 e3)
  · exact ((hfd 3).trans ((r13 3 (by decide)).trans ((r11 3 (by decide)).trans ((r9 3 (by decide)).trans ((r8 3).trans ((r7 3 (by decide)).trans ((r6 3).trans (k5)))))))).trans (w5 e5)
  · exact ((hfd 4).trans ((r13 4 (by decide)).trans ((r11 4 (by decide)).trans ((r9 4 (by decide)).trans ((r8 4).trans (k7)))))).trans (w7 e7)
  · exact ((hfd 5).trans ((r13 5 (by decide)).trans ((r11 5 (by decide)).trans (k9)))).trans (w9 e9)
  · exact ((hfd 6).trans ((r13 6 (by decide)).trans (k11))).trans (w11 e11)
  · exact ((hfd 7).trans (k13)).trans (w13 e13)
theorem yM_RI {l : Launch} {Ts : List Cond} {cl : List vw_C} {RO : zRO} (H : zHyp Ts cl RO) : yMet l Ts cl zpZ RO zpMT yC_RI := ymet_of2 H.1 H.2.1 zpDj H.2.2.1 yRb H.p4 (ymets_cons (yM_RW H) (ymets_cons (yM_RN H) (ymets_cons (yM_EP H) (ymets_cons (yM_AP H) (ymets_cons (yM_SG H) (ymets_cons (yM_SP H) ymets_nil)))))) (zrc1 rfl) (plainFor_of_name zpy4) zpDk56 (fun as g K Y h hA hY => by
  obtain ⟨c, rfl, hp0, hp1, hp2, hK⟩ := h
  exact yv_RI hY  hp0 hp1 hp2 hK)
