/-! PLACES AND RULES OF THE CLASS -/
def yP_W : yPT := fun as g K => ∃ (v b : Int), as = [(1, v), (1, b)] ∧ (∀ (r : Int), ((r = 1 ∧ 0 ≤ v ∧ v < b) ∨ (r = 0 ∧ (v < 0 ∨ b ≤ v))) → K [(1, r)] g)
def yC_W : yC := (39, (1, 40), yP_W)
set_option maxRecDepth 8000 in
theorem yv_W {K : List yV → yM → Prop} {Y : yNx} {g : yM} {v b : Int} (hY : yCl zpD39 (zpZ, zpRS, zpP0, zpMT, [], (1, 40), 2) K Y) (hr_v : -2147483648 ≤ v ∧ v ≤ 2147483647) (hr_b : -2147483648 ≤ b ∧ b ≤ 2147483647) (hK : ∀ (r : Int), ((r = 1 ∧ 0 ≤ v ∧ v < b) ∨ (r = 0 ∧ (v < 0 ∨ b ≤ v))) → K [(1, r)] g) : Y 0 [(1, v), (1, b)] [] g := by
  refine yrun_ok (sp := fun pc => false) hY 8 0 _ [] g ?_
  show ((v < 0 → (((0 : Int) ≤ 0 ∧ 0 ≤ (1 : Int)) ∧ (K [(1, 0)] g))) ∧ (¬ (v < 0) → ((b ≤ v → (((0 : Int) ≤ 0 ∧ 0 ≤ (1 : Int)) ∧ (K [(1, 0)] g))) ∧ (¬ (b ≤ v) → (((0 : Int) ≤ 1 ∧ 1 ≤ (1 : Int)) ∧ (K [(1, 1)] g))))))
  refine ⟨fun h1 => ?_, fun h1 => ?_⟩
  · refine ⟨(by omega), ?_⟩
    exact hK _ (by first | omega | exact fun _ => rfl | exact fun h => absurd h (by omega) | exact rfl | exact fun _ _ => rfl | exact fun h _ => absurd h (by omega) | exact fun _ h => absurd h (by omega))
  · refine ⟨fun h2 => ?_, fun h2 => ?_⟩
    · refine ⟨(by omega), ?_⟩
      exact hK _ (by first | omega | exact fun _ => rfl | exact fun h => absurd h (by omega) | exact rfl | exact fun _ _ => rfl | exact fun h _ => absurd h (by omega) | exact fun _ h => absurd h (by omega))
    · refine ⟨(by omega), ?_⟩
      exact hK _ (by first | omega | exact fun _ => rfl | exact fun h => absurd h (by omega) | exact rfl | exact fun _ _ => rfl | exact fun h _ => absurd h (by omega) | exact fun _ h => absurd h (by omega))
theorem yM_W {l : Launch} {Ts : List Cond} {cl : List vw_C} {RO : zRO} (H : zHyp Ts cl RO) : yMet l Ts cl zpZ RO zpMT yC_W := ymet_of2 H.1 H.2.1 zpDj H.2.2.1 yRb H.p0 ymets_nil (zrc2 rfl) (plainFor_of_name zpy0) zpDk39 (fun as g K Y h hA hY => by
  obtain ⟨v, b, rfl, hK⟩ := h
  exact yv_W hY (yAr1 hA (by simp)) (yAr1 hA (by simp)) hK)
def yP_HN : yPT := fun as g K => ∃ (p : Int), as = [(3, 9), (1, p)] ∧ (0 ≤ p ∧ p < 6) ∧ (∀ (r : Int), ((r = 1 ∧ g 40 (Int.toNat p) = -1) ∨ (r = 0 ∧ g 40 (Int.toNat p) ≠ -1)) → K [(1, r)] g)
def yC_HN : yC := (71, (1, 40), yP_HN)
set_option maxRecDepth 8000 in
theorem yv_HN {K : List yV → yM → Prop} {Y : yNx} {g : yM} {p : Int} (hY : yCl zpD71 (zpZ, zpRS, zpP6, zpMT, [], (1, 40), 2) K Y) (hr_p : -2147483648 ≤ p ∧ p ≤ 2147483647) (hp0 : 0 ≤ p ∧ p < 6) (hK : ∀ (r : Int), ((r = 1 ∧ g 40 (Int.toNat p) = -1) ∨ (r = 0 ∧ g 40 (Int.toNat p) ≠ -1)) → K [(1, r)] g) : Y 0 [(3, 9), (1, p)] [] g := by
  refine yrun_ok (sp := fun pc => false) hY 9 0 _ [] g ?_
  show (((0 : Int) ≤ p ∧ p < ((6 : Nat) : Int)) ∧ (((g 40 (Int.toNat p)) ≠ (-1) → (((0 : Int) ≤ 0 ∧ 0 ≤ (1 : Int)) ∧ (K [(1, 0)] g))) ∧ (¬ ((g 40 (Int.toNat p)) ≠ (-1)) → (((0 : Int) ≤ 1 ∧ 1 ≤ (1 : Int)) ∧ (K [(1, 1)] g)))))
  refine ⟨(by omega), ?_⟩
  refine ⟨fun h1 => ?_, fun h1 => ?_⟩
  · refine ⟨(by omega), ?_⟩
    exact hK _ (by first | omega | exact fun _ => rfl | exact fun h => absurd h (by omega) | exact rfl | exact fun _ _ => rfl | exact fun h _ => absurd h (by omega) | exact fun _ h => absurd h (by omega))
  · refine ⟨(by omega), ?_⟩
    exact hK _ (by first | omega | exact fun _ => rfl | exact fun h => absurd h (by omega) | exact rfl | exact fun _ _ => rfl | exact fun h _ => absurd h (by omega) | exact fun _ h => absurd h (by omega))
theorem yM_HN {l : Launch} {Ts : List Cond} {cl : List vw_C} {RO : zRO} (H : zHyp Ts cl RO) : yMet l Ts cl zpZ RO zpMT yC_HN := ymet_of2 H.1 H.2.1 zpDj H.2.2.1 yRb H.p6 ymets_nil (zrc2 rfl) (plainFor_of_name zpy6) zpDk71 (fun as g K Y h hA hY => by
  obtain ⟨p, rfl, hp0, hK⟩ := h
  exact yv_HN hY (yAr1 hA (by simp)) hp0 hK)
def yP_RB : yPT := fun as g K => ∃ (p q : Int), as = [(3, 9), (1, p), (1, q)] ∧ (∀ (r : Int), ((r = -1 ∧ ¬ (0 ≤ p ∧ p < 6 ∧ 0 ≤ q ∧ q < 6)) ∨ ((0 ≤ p ∧ p < 6 ∧ 0 ≤ q ∧ q < 6) ∧ ((r = -11 ∧ (g 40 (Int.toNat p) = -1 ∨ g 40 (Int.toNat q) = -1)) ∨ (g 40 (Int.toNat p) ≠ -1 ∧ g 40 (Int.toNat q) ≠ -1 ∧ ((r = -12 ∧ (g 40 (Int.toNat p) = -2 ∨ g 40 (Int.toNat p) ≠ g 40 (Int.toNat q))) ∨ (r = 0 ∧ g 40 (Int.toNat p) ≠ -2 ∧ g 40 (Int.toNat p) = g 40 (Int.toNat q))))))) → K [(1, r)] g)
def yC_RB : yC := (76, (2, 61), yP_RB)
set_option maxRecDepth 8000 in
theorem yv_RB {K : List yV → yM → Prop} {Y : yNx} {g : yM} {p q : Int} (hY : yCl zpD76 (zpZ, zpRS, zpP6, zpMT, [yC_W, yC_HN], (2, 61), 1) K Y) (hr_p : -2147483648 ≤ p ∧ p ≤ 2147483647) (hr_q : -2147483648 ≤ q ∧ q ≤ 2147483647) (hK : ∀ (r : Int), ((r = -1 ∧ ¬ (0 ≤ p ∧ p < 6 ∧ 0 ≤ q ∧ q < 6)) ∨ ((0 ≤ p ∧ p < 6 ∧ 0 ≤ q ∧ q < 6) ∧ ((r = -11 ∧ (g 40 (Int.toNat p) = -1 ∨ g 40 (Int.toNat q) = -1)) ∨ (g 40 (Int.toNat p) ≠ -1 ∧ g 40 (Int.toNat q) ≠ -1 ∧ ((r = -12 ∧ (g 40 (Int.toNat p) = -2 ∨ g 40 (Int.toNat p) ≠ g 40 (Int.toNat q))) ∨ (r = 0 ∧ g 40 (Int.toNat p) ≠ -2 ∧ g 40 (Int.toNat p) = g 40 (Int.toNat q))))))) → K [(1, r)] g) : Y 0 [(3, 9), (1, p), (1, q)] [] g := by
  refine yrun_ok (sp := fun pc => false) hY 34 0 _ [] g ?_
  show (∃ (v1 b2 : Int), [(1, p), (1, 6)] = [(1, v1), (1, b2)] ∧ (∀ (r3 : Int), ((r3 = 1 ∧ 0 ≤ v1 ∧ v1 < b2) ∨ (r3 = 0 ∧ (v1 < 0 ∨ b2 ≤ v1))) → ((r3 = 0 → (K [(1, (-1))] g)) ∧ (¬ (r3 = 0) → (∃ (v6 b7 : Int), [(1, q), (1, 6)] = [(1, v6), (1, b7)] ∧ (∀ (r8 : Int), ((r8 = 1 ∧ 0 ≤ v6 ∧ v6 < b7) ∨ (r8 = 0 ∧ (v6 < 0 ∨ b7 ≤ v6))) → ((r8 ≠ 0 → (∃ (p11 : Int), [(3, 9), (1, p)] = [(3, 9), (1, p11)] ∧ (0 ≤ p11 ∧ p11 < 6) ∧ (∀ (r12 : Int), ((r12 = 1 ∧ g 40 (Int.toNat p11) = -1) ∨ (r12 = 0 ∧ g 40 (Int.toNat p11) ≠ -1)) → ((r12 ≠ 0 → (K [(1, (-11))] g)) ∧ (¬ (r12 ≠ 0) → (∃ (p15 : Int), [(3, 9), (1, q)] = [(3, 9), (1, p15)] ∧ (0 ≤ p15 ∧ p15 < 6) ∧ (∀ (r16 : Int), ((r16 = 1 ∧ g 40 (Int.toNat p15) = -1) ∨ (r16 = 0 ∧ g 40 (Int.toNat p15) ≠ -1)) → ((r16 = 0 → (((0 : Int) ≤ p ∧ p < ((6 : Nat) : Int)) ∧ (((g 40 (Int.toNat p)) = (-2) → (K [(1, (-12))] g)) ∧ (¬ ((g 40 (Int.toNat p)) = (-2)) → (((0 : Int) ≤ p ∧ p < ((6 : Nat) : Int)) ∧ (((0 : Int) ≤ q ∧ q < ((6 : Nat) : Int)) ∧ (((g 40 (Int.toNat p)) = (g 40 (Int.toNat q)) → (K [(1, 0)] g)) ∧ (¬ ((g 40 (Int.toNat p)) = (g 40 (Int.toNat q))) → (K [(1, (-12))] g))))))))) ∧ (¬ (r16 = 0) → (K [(1, (-11))] g)))))))))) ∧ (¬ (r8 ≠ 0) → (K [(1, (-1))] g)))))))))
  refine ⟨_, _, rfl, ?_⟩
  intro r3 p40
  refine ⟨fun h5 => ?_, fun h5 => ?_⟩
  · exact hK _ (by first | omega | exact fun _ => rfl | exact fun h => absurd h (by omega) | exact rfl | exact fun _ _ => rfl | exact fun h _ => absurd h (by omega) | exact fun _ h => absurd h (by omega))
  · refine ⟨_, _, rfl, ?_⟩
    intro r8 p90
    refine ⟨fun h10 => ?_, fun h10 => ?_⟩
    · refine ⟨_, rfl, (by omega), ?_⟩
      intro r12 p130
      refine ⟨fun h14 => ?_, fun h14 => ?_⟩
      · exact hK _ (by first | omega | exact fun _ => rfl | exact fun h => absurd h (by omega) | exact rfl | exact fun _ _ => rfl | exact fun h _ => absurd h (by omega) | exact fun _ h => absurd h (by omega))
      · refine ⟨_, rfl, (by omega), ?_⟩
        intro r16 p170
        refine ⟨fun h18 => ?_, fun h18 => ?_⟩
        · refine ⟨(by omega), ?_⟩
          refine ⟨fun h19 => ?_, fun h19 => ?_⟩
          · exact hK _ (by first | omega | exact fun _ => rfl | exact fun h => absurd h (by omega) | exact rfl | exact fun _ _ => rfl | exact fun h _ => absurd h (by omega) | exact fun _ h => absurd h (by omega))
          · refine ⟨(by omega), ?_⟩
            refine ⟨(by omega), ?_⟩
            refine ⟨fun h20 => ?_, fun h20 => ?_⟩
            · exact hK _ (by first | omega | exact fun _ => rfl | exact fun h => absurd h (by omega) | exact rfl | exact fun _ _ => rfl | exact fun h _ => absurd h (by omega) | exact fun _ h => absurd h (by omega))
            · exact hK _ (by first | omega | exact fun _ => rfl | exact fun h => absurd h (by omega) | exact rfl | exact fun _ _ => rfl | exact fun h _ => absurd h (by omega) | exact fun _ h => absurd h (by omega))
        · exact hK _ (by first | omega | exact fun _ => rfl | exact fun h => absurd h (by omega) | exact rfl | exact fun _ _ => rfl | exact fun h _ => absurd h (by omega) | exact fun _ h => absurd h (by omega))
    · exact hK _ (by first | omega | exact fun _ => rfl | exact fun h => absurd h (by omega) | exact rfl | exact fun _ _ => rfl | exact fun h _ => absurd h (by omega) | exact fun _ h => absurd h (by omega))
theorem yM_RB {l : Launch} {Ts : List Cond} {cl : List vw_C} {RO : zRO} (H : zHyp Ts cl RO) : yMet l Ts cl zpZ RO zpMT yC_RB := ymet_of2 H.1 H.2.1 zpDj H.2.2.1 yRb H.p6 (ymets_cons (yM_W H) (ymets_cons (yM_HN H) ymets_nil)) (zrc1 rfl) (plainFor_of_name zpy6) zpDk76 (fun as g K Y h hA hY => by
  obtain ⟨p, q, rfl, hK⟩ := h
  exact yv_RB hY (yAr1 hA (by simp)) (yAr1 hA (by simp)) hK)
def yP_RF : yPT := fun as g K => ∃ (p i : Int), as = [(3, 9), (1, p), (1, i)] ∧ (∀ (r : Int), ((r = -1 ∧ ¬ (0 ≤ p ∧ p < 6)) ∨ ((0 ≤ p ∧ p < 6) ∧ ((r = -11 ∧ g 40 (Int.toNat p) = -1) ∨ (g 40 (Int.toNat p) ≠ -1 ∧ ((r = -12 ∧ g 40 (Int.toNat p) = -2) ∨ (g 40 (Int.toNat p) ≠ -2 ∧ ((r = -13 ∧ (i < 0 ∨ g 42 (Int.toNat p) ≤ i)) ∨ (r = 0 ∧ 0 ≤ i ∧ i < g 42 (Int.toNat p))))))))) → K [(1, r)] g)
def yC_RF : yC := (75, (3, 83), yP_RF)
set_option maxRecDepth 8000 in
theorem yv_RF {K : List yV → yM → Prop} {Y : yNx} {g : yM} {p i : Int} (hY : yCl zpD75 (zpZ, zpRS, zpP6, zpMT, [yC_W, yC_RB], (3, 83), 1) K Y) (hr_p : -2147483648 ≤ p ∧ p ≤ 2147483647) (hr_i : -2147483648 ≤ i ∧ i ≤ 2147483647) (hK : ∀ (r : Int), ((r = -1 ∧ ¬ (0 ≤ p ∧ p < 6)) ∨ ((0 ≤ p ∧ p < 6) ∧ ((r = -11 ∧ g 40 (Int.toNat p) = -1) ∨ (g 40 (Int.toNat p) ≠ -1 ∧ ((r = -12 ∧ g 40 (Int.toNat p) = -2) ∨ (g 40 (Int.toNat p) ≠ -2 ∧ ((r = -13 ∧ (i < 0 ∨ g 42 (Int.toNat p) ≤ i)) ∨ (r = 0 ∧ 0 ≤ i ∧ i < g 42 (Int.toNat p))))))))) → K [(1, r)] g) : Y 0 [(3, 9), (1, p), (1, i), (0, 0)] [] g := by
  refine yrun_ok (sp := fun pc => false) hY 17 0 _ [] g ?_
  show (∃ (p1 q2 : Int), [(3, 9), (1, p), (1, p)] = [(3, 9), (1, p1), (1, q2)] ∧ (∀ (r3 : Int), ((r3 = -1 ∧ ¬ (0 ≤ p1 ∧ p1 < 6 ∧ 0 ≤ q2 ∧ q2 < 6)) ∨ ((0 ≤ p1 ∧ p1 < 6 ∧ 0 ≤ q2 ∧ q2 < 6) ∧ ((r3 = -11 ∧ (g 40 (Int.toNat p1) = -1 ∨ g 40 (Int.toNat q2) = -1)) ∨ (g 40 (Int.toNat p1) ≠ -1 ∧ g 40 (Int.toNat q2) ≠ -1 ∧ ((r3 = -12 ∧ (g 40 (Int.toNat p1) = -2 ∨ g 40 (Int.toNat p1) ≠ g 40 (Int.toNat q2))) ∨ (r3 = 0 ∧ g 40 (Int.toNat p1) ≠ -2 ∧ g 40 (Int.toNat p1) = g 40 (Int.toNat q2))))))) → ((r3 = 0 → (((0 : Int) ≤ p ∧ p < ((6 : Nat) : Int)) ∧ (∃ (v6 b7 : Int), [(1, i), (1, (g 42 (Int.toNat p)))] = [(1, v6), (1, b7)] ∧ (∀ (r8 : Int), ((r8 = 1 ∧ 0 ≤ v6 ∧ v6 < b7) ∨ (r8 = 0 ∧ (v6 < 0 ∨ b7 ≤ v6))) → ((r8 = 0 → (K [(1, (-13))] g)) ∧ (¬ (r8 = 0) → (K [(1, 0)] g))))))) ∧ (¬ (r3 = 0) → (K [(1, r3)] g)))))
  refine ⟨_, _, rfl, ?_⟩
  intro r3 p40
  refine ⟨fun h5 => ?_, fun h5 => ?_⟩
  · refine ⟨(by omega), ?_⟩
    refine ⟨_, _, rfl, ?_⟩
    intro r8 p90
    refine ⟨fun h10 => ?_, fun h10 => ?_⟩
    · exact hK _ (by first | omega | exact fun _ => rfl | exact fun h => absurd h (by omega) | exact rfl | exact fun _ _ => rfl | exact fun h _ => absurd h (by omega) | exact fun _ h => absurd h (by omega))
    · exact hK _ (by first | omega | exact fun _ => rfl | exact fun h => absurd h (by omega) | exact rfl | exact fun _ _ => rfl | exact fun h _ => absurd h (by omega) | exact fun _ h => absurd h (by omega))
  · exact hK _ (by first | omega | exact fun _ => rfl | exact fun h => absurd h (by omega) | exact rfl | exact fun _ _ => rfl | exact fun h _ => absurd h (by omega) | exact fun _ h => absurd h (by omega))
theorem yM_RF {l : Launch} {Ts : List Cond} {cl : List vw_C} {RO : zRO} (H : zHyp Ts cl RO) : yMet l Ts cl zpZ RO zpMT yC_RF := ymet_of2 H.1 H.2.1 zpDj H.2.2.1 yRb H.p6 (ymets_cons (yM_W H) (ymets_cons (yM_RB H) ymets_nil)) (zrc1 rfl) (plainFor_of_name zpy6) zpDk75 (fun as g K Y h hA hY => by
  obtain ⟨p, i, rfl, hK⟩ := h
  exact yv_RF hY (yAr1 hA (by simp)) (yAr1 hA (by simp)) hK)
def yP_HR : yPT := fun as g K => ∃ (p i n : Int), as = [(3, 9), (1, p), (1, i), (1, n)] ∧ (0 ≤ p ∧ p < 6) ∧ (0 ≤ g 42 (Int.toNat p) ∧ g 42 (Int.toNat p) ≤ 60) ∧ (∀ (r : Int), ((r = 1 ∧ 0 ≤ n ∧ 0 ≤ i ∧ i + n ≤ g 42 (Int.toNat p)) ∨ (r = 0 ∧ (n < 0 ∨ i < 0 ∨ g 42 (Int.toNat p) < i + n))) → K [(1, r)] g)
def yC_HR : yC := (68, (1, 40), yP_HR)
set_option maxRecDepth 8000 in
theorem yv_HR {K : List yV → yM → Prop} {Y : yNx} {g : yM} {p i n : Int} (hY : yCl zpD68 (zpZ, zpRS, zpP6, zpMT, [], (1, 40), 2) K Y) (hr_p : -2147483648 ≤ p ∧ p ≤ 2147483647) (hr_i : -2147483648 ≤ i ∧ i ≤ 2147483647) (hr_n : -2147483648 ≤ n ∧ n ≤ 2147483647) (hp0 : 0 ≤ p ∧ p < 6) (hp1 : 0 ≤ g 42 (Int.toNat p) ∧ g 42 (Int.toNat p) ≤ 60) (hK : ∀ (r : Int), ((r = 1 ∧ 0 ≤ n ∧ 0 ≤ i ∧ i + n ≤ g 42 (Int.toNat p)) ∨ (r = 0 ∧ (n < 0 ∨ i < 0 ∨ g 42 (Int.toNat p) < i + n))) → K [(1, r)] g) : Y 0 [(3, 9), (1, p), (1, i), (1, n)] [] g := by
  refine yrun_ok (sp := fun pc => false) hY 15 0 _ [] g ?_
  show ((n < 0 → (((0 : Int) ≤ 0 ∧ 0 ≤ (1 : Int)) ∧ (K [(1, 0)] g))) ∧ (¬ (n < 0) → ((i < 0 → (((0 : Int) ≤ 0 ∧ 0 ≤ (1 : Int)) ∧ (K [(1, 0)] g))) ∧ (¬ (i < 0) → (((0 : Int) ≤ p ∧ p < ((6 : Nat) : Int)) ∧ (((yw ((g 42 (Int.toNat p)) - n)) < i → (((0 : Int) ≤ 0 ∧ 0 ≤ (1 : Int)) ∧ (K [(1, 0)] g))) ∧ (¬ ((yw ((g 42 (Int.toNat p)) - n)) < i) → (((0 : Int) ≤ 1 ∧ 1 ≤ (1 : Int)) ∧ (K [(1, 1)] g)))))))))
  refine ⟨fun h1 => ?_, fun h1 => ?_⟩
  · refine ⟨(by omega), ?_⟩
    exact hK _ (by first | omega | exact fun _ => rfl | exact fun h => absurd h (by omega) | exact rfl | exact fun _ _ => rfl | exact fun h _ => absurd h (by omega) | exact fun _ h => absurd h (by omega))
  · refine ⟨fun h2 => ?_, fun h2 => ?_⟩
    · refine ⟨(by omega), ?_⟩
      exact hK _ (by first | omega | exact fun _ => rfl | exact fun h => absurd h (by omega) | exact rfl | exact fun _ _ => rfl | exact fun h _ => absurd h (by omega) | exact fun _ h => absurd h (by omega))
    · refine ⟨(by omega), ?_⟩
      refine ⟨fun h3 => ?_, fun h3 => ?_⟩
      · refine ⟨(by have := yw_s ((g 42 (Int.toNat p)) - n); omega), ?_⟩
        have := yw_s ((g 42 (Int.toNat p)) - n)
        exact hK _ (by first | omega | exact fun _ => rfl | exact fun h => absurd h (by omega) | exact rfl | exact fun _ _ => rfl | exact fun h _ => absurd h (by omega) | exact fun _ h => absurd h (by omega))
      · refine ⟨(by have := yw_s ((g 42 (Int.toNat p)) - n); omega), ?_⟩
        have := yw_s ((g 42 (Int.toNat p)) - n)
        exact hK _ (by first | omega | exact fun _ => rfl | exact fun h => absurd h (by omega) | exact rfl | exact fun _ _ => rfl | exact fun h _ => absurd h (by omega) | exact fun _ h => absurd h (by omega))
theorem yM_HR {l : Launch} {Ts : List Cond} {cl : List vw_C} {RO : zRO} (H : zHyp Ts cl RO) : yMet l Ts cl zpZ RO zpMT yC_HR := ymet_of2 H.1 H.2.1 zpDj H.2.2.1 yRb H.p6 ymets_nil (zrc2 rfl) (plainFor_of_name zpy6) zpDk68 (fun as g K Y h hA hY => by
  obtain ⟨p, i, n, rfl, hp0, hp1, hK⟩ := h
  exact yv_HR hY (yAr1 hA (by simp)) (yAr1 hA (by simp)) (yAr1 hA (by simp)) hp0 hp1 hK)
def ynar (h v : Int) : Int := if h = 0 then Int.bmod (yw v) 256 else if h = 1 then Int.bmod (yw v) 65536 else if h = 2 then yw v else if h = 4 then (if v = 0 then 0 else 1) else v
def yP_NA : yPT := fun as g K => ∃ (p v : Int), as = [(3, 9), (1, p), (2, v)] ∧ (0 ≤ p ∧ p < 6) ∧ (∀ (r : Int), (r = ynar (g 40 (Int.toNat p)) v) → K [(2, r)] g)
def yC_NA : yC := (73, (1, 40), yP_NA)
set_option maxRecDepth 8000 in
theorem yv_NA {K : List yV → yM → Prop} {Y : yNx} {g : yM} {p v : Int} (hY : yCl zpD73 (zpZ, zpRS, zpP6, zpMT, [], (1, 40), 3) K Y) (hr_p : -2147483648 ≤ p ∧ p ≤ 2147483647) (hr_v : -9223372036854775808 ≤ v ∧ v ≤ 9223372036854775807) (hp0 : 0 ≤ p ∧ p < 6) (hK : ∀ (r : Int), (r = ynar (g 40 (Int.toNat p)) v) → K [(2, r)] g) : Y 0 [(3, 9), (1, p), (2, v), (0, 0)] [] g := by
  refine yrun_ok (sp := fun pc => false) hY 12 0 _ [] g ?_
  show (((0 : Int) ≤ p ∧ p < ((6 : Nat) : Int)) ∧ (((5 : Nat) : Int) = (4 : Int) - 0 + 1 ∧ ((g 40 (Int.toNat p)) < 0 ∨ 4 < (g 40 (Int.toNat p)) → (K [(2, v)] g)) ∧ ((g 40 (Int.toNat p)) = 0 → (K [(2, (Int.bmod (yw v) 256))] g)) ∧ ((g 40 (Int.toNat p)) = 0 + 1 → (K [(2, (Int.bmod (yw v) 65536))] g)) ∧ ((g 40 (Int.toNat p)) = 0 + 1 + 1 → (K [(2, (yw v))] g)) ∧ ((g 40 (Int.toNat p)) = 0 + 1 + 1 + 1 → (K [(2, v)] g)) ∧ ((g 40 (Int.toNat p)) = 0 + 1 + 1 + 1 + 1 → (((ycmp v 0) = 0 → (K [(2, 0)] g)) ∧ (¬ ((ycmp v 0) = 0) → (K [(2, 1)] g)))) ∧ True))
  refine ⟨(by omega), ?_⟩
  refine ⟨by decide, fun h1 => ?_, fun h1 => ?_, fun h1 => ?_, fun h1 => ?_, fun h1 => ?_, fun h1 => ?_, trivial⟩
  · refine hK _ ?_
    unfold ynar
    rw [if_neg (by omega), if_neg (by omega), if_neg (by omega), if_neg (by omega)]
  · refine hK _ ?_
    unfold ynar
    rw [if_pos (by omega)]
  · refine hK _ ?_
    unfold ynar
    rw [if_neg (by omega), if_pos (by omega)]
  · refine hK _ ?_
    unfold ynar
    rw [if_neg (by omega), if_neg (by omega), if_pos (by omega)]
  · refine hK _ ?_
    unfold ynar
    rw [if_neg (by omega), if_neg (by omega), if_neg (by omega), if_neg (by omega)]
  · refine ⟨fun h2 => ?_, fun h2 => ?_⟩
    · refine hK _ ?_
      unfold ynar
      have := ycmp_s v 0
      rw [if_neg (by omega), if_neg (by omega), if_neg (by omega), if_pos (by omega), if_pos (by omega)]
    · refine hK _ ?_
      unfold ynar
      have := ycmp_s v 0
      rw [if_neg (by omega), if_neg (by omega), if_neg (by omega), if_pos (by omega), if_neg (by omega)]
theorem yM_NA {l : Launch} {Ts : List Cond} {cl : List vw_C} {RO : zRO} (H : zHyp Ts cl RO) : yMet l Ts cl zpZ RO zpMT yC_NA := ymet_of2 H.1 H.2.1 zpDj H.2.2.1 yRb H.p6 ymets_nil (zrc3 rfl) (plainFor_of_name zpy6) zpDk73 (fun as g K Y h hA hY => by
  obtain ⟨p, v, rfl, hp0, hK⟩ := h
  exact yv_NA hY (yAr1 hA (by simp)) (yAr2 hA (by simp)) hp0 hK)
def yP_EL : yPT := fun as g K => ∃ (p i : Int), as = [(3, 0), (1, p), (1, i)] ∧ (∀ p : Int, 0 ≤ p → p < 6 → 0 ≤ g 42 (Int.toNat p) ∧ g 42 (Int.toNat p) ≤ 60) ∧ (∀ (r : Int), (∃ r0 : Int, ((r0 = -1 ∧ ¬ (0 ≤ p ∧ p < 6)) ∨ ((0 ≤ p ∧ p < 6) ∧ ((r0 = -11 ∧ g 40 (Int.toNat p) = -1) ∨ (g 40 (Int.toNat p) ≠ -1 ∧ ((r0 = -12 ∧ g 40 (Int.toNat p) = -2) ∨ (g 40 (Int.toNat p) ≠ -2 ∧ ((r0 = -13 ∧ (i < 0 ∨ g 42 (Int.toNat p) ≤ i)) ∨ (r0 = 0 ∧ 0 ≤ i ∧ i < g 42 (Int.toNat p))))))))) ∧ (r0 = 0 → r = g (44 + Int.toNat p) (Int.toNat i)) ∧ (r0 ≠ 0 → r = -9223372036854775808)) → K [(2, r)] g)
def yC_EL : yC := (10, (4, 106), yP_EL)
set_option maxRecDepth 8000 in
theorem yv_EL {K : List yV → yM → Prop} {Y : yNx} {g : yM} {p i : Int} (hY : yCl zpD10 (zpZ, zpRS, zpP0, zpMT, [yC_RF], (4, 106), 3) K Y) (hr_p : -2147483648 ≤ p ∧ p ≤ 2147483647) (hr_i : -2147483648 ≤ i ∧ i ≤ 2147483647) (hp0 : ∀ p : Int, 0 ≤ p → p < 6 → 0 ≤ g 42 (Int.toNat p) ∧ g 42 (Int.toNat p) ≤ 60) (hK : ∀ (r : Int), (∃ r0 : Int, ((r0 = -1 ∧ ¬ (0 ≤ p ∧ p < 6)) ∨ ((0 ≤ p ∧ p < 6) ∧ ((r0 = -11 ∧ g 40 (Int.toNat p) = -1) ∨ (g 40 (Int.toNat p) ≠ -1 ∧ ((r0 = -12 ∧ g 40 (Int.toNat p) = -2) ∨ (g 40 (Int.toNat p) ≠ -2 ∧ ((r0 = -13 ∧ (i < 0 ∨ g 42 (Int.toNat p) ≤ i)) ∨ (r0 = 0 ∧ 0 ≤ i ∧ i < g 42 (Int.toNat p))))))))) ∧ (r0 = 0 → r = g (44 + Int.toNat p) (Int.toNat i)) ∧ (r0 ≠ 0 → r = -9223372036854775808)) → K [(2, r)] g) : Y 0 [(3, 0), (1, p), (1, i)] [] g := by
  refine yrun_ok (sp := fun pc => false) hY 15 0 _ [] g ?_
  show (∃ (p1 i2 : Int), [(3, 9), (1, p), (1, i)] = [(3, 9), (1, p1), (1, i2)] ∧ (∀ (r3 : Int), ((r3 = -1 ∧ ¬ (0 ≤ p1 ∧ p1 < 6)) ∨ ((0 ≤ p1 ∧ p1 < 6) ∧ ((r3 = -11 ∧ g 40 (Int.toNat p1) = -1) ∨ (g 40 (Int.toNat p1) ≠ -1 ∧ ((r3 = -12 ∧ g 40 (Int.toNat p1) = -2) ∨ (g 40 (Int.toNat p1) ≠ -2 ∧ ((r3 = -13 ∧ (i2 < 0 ∨ g 42 (Int.toNat p1) ≤ i2)) ∨ (r3 = 0 ∧ 0 ≤ i2 ∧ i2 < g 42 (Int.toNat p1))))))))) → ((r3 ≠ 0 → (K [(2, (-9223372036854775808))] g)) ∧ (¬ (r3 ≠ 0) → (((0 : Int) ≤ p ∧ p < ((6 : Nat) : Int)) ∧ (((0 : Int) ≤ i ∧ i < ((60 : Nat) : Int)) ∧ (K [(2, (g (44 + Int.toNat p) (Int.toNat i)))] g)))))))
  refine ⟨_, _, rfl, ?_⟩
  intro r3 p40
  refine ⟨fun h5 => ?_, fun h5 => ?_⟩
  · exact hK _ ⟨_, p40, fun h => absurd h (by omega), fun _ => rfl⟩
  · refine ⟨(by have := hp0 p; omega), ?_⟩
    refine ⟨(by have := hp0 p; omega), ?_⟩
    exact hK _ ⟨_, p40, fun _ => rfl, fun h => absurd h (by omega)⟩
theorem yM_EL {l : Launch} {Ts : List Cond} {cl : List vw_C} {RO : zRO} (H : zHyp Ts cl RO) : yMet l Ts cl zpZ RO zpMT yC_EL := ymet_of2 H.1 H.2.1 zpDj H.2.2.1 yRb H.p0 (ymets_cons (yM_RF H) ymets_nil) (zrc3 rfl) (plainFor_of_name zpy0) zpDk10 (fun as g K Y h hA hY => by
  obtain ⟨p, i, rfl, hp0, hK⟩ := h
  exact yv_EL hY (yAr1 hA (by simp)) (yAr1 hA (by simp)) hp0 hK)
def yP_PU : yPT := fun as g K => ∃ (p i v : Int), as = [(3, 0), (1, p), (1, i), (2, v)] ∧ (∀ p : Int, 0 ≤ p → p < 6 → 0 ≤ g 42 (Int.toNat p) ∧ g 42 (Int.toNat p) ≤ 60) ∧ (∀ (r : Int) (g' : yM), (∃ r0 : Int, ((r0 = -1 ∧ ¬ (0 ≤ p ∧ p < 6)) ∨ ((0 ≤ p ∧ p < 6) ∧ ((r0 = -11 ∧ g 40 (Int.toNat p) = -1) ∨ (g 40 (Int.toNat p) ≠ -1 ∧ ((r0 = -12 ∧ g 40 (Int.toNat p) = -2) ∨ (g 40 (Int.toNat p) ≠ -2 ∧ ((r0 = -13 ∧ (i < 0 ∨ g 42 (Int.toNat p) ≤ i)) ∨ (r0 = 0 ∧ 0 ≤ i ∧ i < g 42 (Int.toNat p))))))))) ∧ (r0 = 0 → r = 1 ∧ g' = yset g (44 + Int.toNat p) (Int.toNat i) (ynar (g 40 (Int.toNat p)) v)) ∧ (r0 ≠ 0 → r = r0 ∧ g' = g)) → K [(1, r)] g')
def yC_PU : yC := (26, (4, 106), yP_PU)
set_option maxRecDepth 8000 in
theorem yv_PU {K : List yV → yM → Prop} {Y : yNx} {g : yM} {p i v : Int} (hY : yCl zpD26 (zpZ, zpRS, zpP0, zpMT, [yC_RF, yC_NA], (4, 106), 1) K Y) (hr_p : -2147483648 ≤ p ∧ p ≤ 2147483647) (hr_i : -2147483648 ≤ i ∧ i ≤ 2147483647) (hr_v : -9223372036854775808 ≤ v ∧ v ≤ 9223372036854775807) (hp0 : ∀ p : Int, 0 ≤ p → p < 6 → 0 ≤ g 42 (Int.toNat p) ∧ g 42 (Int.toNat p) ≤ 60) (hK : ∀ (r : Int) (g' : yM), (∃ r0 : Int, ((r0 = -1 ∧ ¬ (0 ≤ p ∧ p < 6)) ∨ ((0 ≤ p ∧ p < 6) ∧ ((r0 = -11 ∧ g 40 (Int.toNat p) = -1) ∨ (g 40 (Int.toNat p) ≠ -1 ∧ ((r0 = -12 ∧ g 40 (Int.toNat p) = -2) ∨ (g 40 (Int.toNat p) ≠ -2 ∧ ((r0 = -13 ∧ (i < 0 ∨ g 42 (Int.toNat p) ≤ i)) ∨ (r0 = 0 ∧ 0 ≤ i ∧ i < g 42 (Int.toNat p))))))))) ∧ (r0 = 0 → r = 1 ∧ g' = yset g (44 + Int.toNat p) (Int.toNat i) (ynar (g 40 (Int.toNat p)) v)) ∧ (r0 ≠ 0 → r = r0 ∧ g' = g)) → K [(1, r)] g') : Y 0 [(3, 0), (1, p), (1, i), (2, v), (0, 0), (0, 0)] [] g := by
  refine yrun_ok (sp := fun pc => false) hY 22 0 _ [] g ?_
  show (∃ (p1 i2 : Int), [(3, 9), (1, p), (1, i)] = [(3, 9), (1, p1), (1, i2)] ∧ (∀ (r3 : Int), ((r3 = -1 ∧ ¬ (0 ≤ p1 ∧ p1 < 6)) ∨ ((0 ≤ p1 ∧ p1 < 6) ∧ ((r3 = -11 ∧ g 40 (Int.toNat p1) = -1) ∨ (g 40 (Int.toNat p1) ≠ -1 ∧ ((r3 = -12 ∧ g 40 (Int.toNat p1) = -2) ∨ (g 40 (Int.toNat p1) ≠ -2 ∧ ((r3 = -13 ∧ (i2 < 0 ∨ g 42 (Int.toNat p1) ≤ i2)) ∨ (r3 = 0 ∧ 0 ≤ i2 ∧ i2 < g 42 (Int.toNat p1))))))))) → ((r3 = 0 → (((0 : Int) ≤ p ∧ p < ((6 : Nat) : Int)) ∧ (∃ (p6 v7 : Int), [(3, 9), (1, p), (2, v)] = [(3, 9), (1, p6), (2, v7)] ∧ (0 ≤ p6 ∧ p6 < 6) ∧ (∀ (r8 : Int), (r8 = ynar (g 40 (Int.toNat p6)) v7) → (((0 : Int) ≤ i ∧ i < ((60 : Nat) : Int)) ∧ (K [(1, 1)] (yset g (44 + Int.toNat p) (Int.toNat i) r8))))))) ∧ (¬ (r3 = 0) → (K [(1, r3)] g)))))
  refine ⟨_, _, rfl, ?_⟩
  intro r3 p40
  refine ⟨fun h5 => ?_, fun h5 => ?_⟩
  · refine ⟨(by have := hp0 p; omega), ?_⟩
    refine ⟨_, _, rfl, (by have := hp0 p; omega), ?_⟩
    intro r8 p90
    refine ⟨(by have := hp0 p; omega), ?_⟩
    exact hK _ _ ⟨_, p40, fun _ => ⟨rfl, by rw [p90]⟩, fun h => absurd h (by omega)⟩
  · exact hK _ _ ⟨_, p40, fun h => absurd h (by omega), fun _ => ⟨rfl, rfl⟩⟩
theorem yM_PU {l : Launch} {Ts : List Cond} {cl : List vw_C} {RO : zRO} (H : zHyp Ts cl RO) : yMet l Ts cl zpZ RO zpMT yC_PU := ymet_of2 H.1 H.2.1 zpDj H.2.2.1 yRb H.p0 (ymets_cons (yM_RF H) (ymets_cons (yM_NA H) ymets_nil)) (zrc1 rfl) (plainFor_of_name zpy0) zpDk26 (fun as g K Y h hA hY => by
  obtain ⟨p, i, v, rfl, hp0, hK⟩ := h
  exact yv_PU hY (yAr1 hA (by simp)) (yAr1 hA (by simp)) (yAr2 hA (by simp)) hp0 hK)
def yP_SH : yPT := fun as g K => ∃ (p i q j n : Int), as = [(3, 0), (1, p), (1, i), (1, q), (1, j), (1, n)] ∧ (∀ p : Int, 0 ≤ p → p < 6 → 0 ≤ g 42 (Int.toNat p) ∧ g 42 (Int.toNat p) ≤ 60) ∧ (∀ (r : Int) (g' : yM), (∃ r0 : Int, ((r0 = -1 ∧ ¬ (0 ≤ p ∧ p < 6 ∧ 0 ≤ q ∧ q < 6)) ∨ ((0 ≤ p ∧ p < 6 ∧ 0 ≤ q ∧ q < 6) ∧ ((r0 = -11 ∧ (g 40 (Int.toNat p) = -1 ∨ g 40 (Int.toNat q) = -1)) ∨ (g 40 (Int.toNat p) ≠ -1 ∧ g 40 (Int.toNat q) ≠ -1 ∧ ((r0 = -12 ∧ (g 40 (Int.toNat p) = -2 ∨ g 40 (Int.toNat p) ≠ g 40 (Int.toNat q))) ∨ (r0 = 0 ∧ g 40 (Int.toNat p) ≠ -2 ∧ g 40 (Int.toNat p) = g 40 (Int.toNat q))))))) ∧ (r0 ≠ 0 → r = r0 ∧ g' = g) ∧ (r0 = 0 → ¬ (0 ≤ n ∧ 0 ≤ i ∧ 0 ≤ j ∧ i + n ≤ g 42 (Int.toNat p) ∧ j + n ≤ g 42 (Int.toNat q)) → r = -13 ∧ g' = g) ∧ (r0 = 0 → (0 ≤ n ∧ 0 ≤ i ∧ 0 ≤ j ∧ i + n ≤ g 42 (Int.toNat p) ∧ j + n ≤ g 42 (Int.toNat q)) → r = n ∧ g' = ycpy g (44 + Int.toNat q) (44 + Int.toNat p) (Int.toNat i) (Int.toNat j) (Int.toNat n))) → K [(1, r)] g')
def yC_SH : yC := (31, (3, 1000), yP_SH)
set_option maxRecDepth 8000 in
theorem yv_SH {K : List yV → yM → Prop} {Y : yNx} {g : yM} {p i q j n : Int} (hY : yCl zpD31 (zpZ, zpRS, zpP0, zpMT, [yC_RB, yC_HR], (3, 1000), 1) K Y) (hr_p : -2147483648 ≤ p ∧ p ≤ 2147483647) (hr_i : -2147483648 ≤ i ∧ i ≤ 2147483647) (hr_q : -2147483648 ≤ q ∧ q ≤ 2147483647) (hr_j : -2147483648 ≤ j ∧ j ≤ 2147483647) (hr_n : -2147483648 ≤ n ∧ n ≤ 2147483647) (hp0 : ∀ p : Int, 0 ≤ p → p < 6 → 0 ≤ g 42 (Int.toNat p) ∧ g 42 (Int.toNat p) ≤ 60) (hK : ∀ (r : Int) (g' : yM), (∃ r0 : Int, ((r0 = -1 ∧ ¬ (0 ≤ p ∧ p < 6 ∧ 0 ≤ q ∧ q < 6)) ∨ ((0 ≤ p ∧ p < 6 ∧ 0 ≤ q ∧ q < 6) ∧ ((r0 = -11 ∧ (g 40 (Int.toNat p) = -1 ∨ g 40 (Int.toNat q) = -1)) ∨ (g 40 (Int.toNat p) ≠ -1 ∧ g 40 (Int.toNat q) ≠ -1 ∧ ((r0 = -12 ∧ (g 40 (Int.toNat p) = -2 ∨ g 40 (Int.toNat p) ≠ g 40 (Int.toNat q))) ∨ (r0 = 0 ∧ g 40 (Int.toNat p) ≠ -2 ∧ g 40 (Int.toNat p) = g 40 (Int.toNat q))))))) ∧ (r0 ≠ 0 → r = r0 ∧ g' = g) ∧ (r0 = 0 → ¬ (0 ≤ n ∧ 0 ≤ i ∧ 0 ≤ j ∧ i + n ≤ g 42 (Int.toNat p) ∧ j + n ≤ g 42 (Int.toNat q)) → r = -13 ∧ g' = g) ∧ (r0 = 0 → (0 ≤ n ∧ 0 ≤ i ∧ 0 ≤ j ∧ i + n ≤ g 42 (Int.toNat p) ∧ j + n ≤ g 42 (Int.toNat q)) → r = n ∧ g' = ycpy g (44 + Int.toNat q) (44 + Int.toNat p) (Int.toNat i) (Int.toNat j) (Int.toNat n))) → K [(1, r)] g') : Y 0 [(3, 0), (1, p), (1, i), (1, q), (1, j), (1, n), (0, 0)] [] g := by
  refine yrun_ok (sp := fun pc => false) hY 38 0 _ [] g ?_
  show (∃ (p1 q2 : Int), [(3, 9), (1, p), (1, q)] = [(3, 9), (1, p1), (1, q2)] ∧ (∀ (r3 : Int), ((r3 = -1 ∧ ¬ (0 ≤ p1 ∧ p1 < 6 ∧ 0 ≤ q2 ∧ q2 < 6)) ∨ ((0 ≤ p1 ∧ p1 < 6 ∧ 0 ≤ q2 ∧ q2 < 6) ∧ ((r3 = -11 ∧ (g 40 (Int.toNat p1) = -1 ∨ g 40 (Int.toNat q2) = -1)) ∨ (g 40 (Int.toNat p1) ≠ -1 ∧ g 40 (Int.toNat q2) ≠ -1 ∧ ((r3 = -12 ∧ (g 40 (Int.toNat p1) = -2 ∨ g 40 (Int.toNat p1) ≠ g 40 (Int.toNat q2))) ∨ (r3 = 0 ∧ g 40 (Int.toNat p1) ≠ -2 ∧ g 40 (Int.toNat p1) = g 40 (Int.toNat q2))))))) → ((r3 = 0 → (∃ (p6 i7 n8 : Int), [(3, 9), (1, p), (1, i), (1, n)] = [(3, 9), (1, p6), (1, i7), (1, n8)] ∧ (0 ≤ p6 ∧ p6 < 6) ∧ (0 ≤ g 42 (Int.toNat p6) ∧ g 42 (Int.toNat p6) ≤ 60) ∧ (∀ (r9 : Int), ((r9 = 1 ∧ 0 ≤ n8 ∧ 0 ≤ i7 ∧ i7 + n8 ≤ g 42 (Int.toNat p6)) ∨ (r9 = 0 ∧ (n8 < 0 ∨ i7 < 0 ∨ g 42 (Int.toNat p6) < i7 + n8))) → ((r9 = 0 → (K [(1, (-13))] g)) ∧ (¬ (r9 = 0) → (∃ (p12 i13 n14 : Int), [(3, 9), (1, q), (1, j), (1, n)] = [(3, 9), (1, p12), (1, i13), (1, n14)] ∧ (0 ≤ p12 ∧ p12 < 6) ∧ (0 ≤ g 42 (Int.toNat p12) ∧ g 42 (Int.toNat p12) ≤ 60) ∧ (∀ (r15 : Int), ((r15 = 1 ∧ 0 ≤ n14 ∧ 0 ≤ i13 ∧ i13 + n14 ≤ g 42 (Int.toNat p12)) ∨ (r15 = 0 ∧ (n14 < 0 ∨ i13 < 0 ∨ g 42 (Int.toNat p12) < i13 + n14))) → ((r15 ≠ 0 → (((0 : Int) ≤ p ∧ p < ((6 : Nat) : Int)) ∧ (((0 : Int) ≤ q ∧ q < ((6 : Nat) : Int)) ∧ (((0 : Int) ≤ n ∧ (0 : Int) ≤ j ∧ (0 : Int) ≤ i ∧ i + n ≤ ((60 : Nat) : Int) ∧ j + n ≤ ((60 : Nat) : Int)) ∧ (K [(1, n)] (ycpy g (44 + Int.toNat q) (44 + Int.toNat p) (Int.toNat i) (Int.toNat j) (Int.toNat n))))))) ∧ (¬ (r15 ≠ 0) → (K [(1, (-13))] g)))))))))) ∧ (¬ (r3 = 0) → (K [(1, r3)] g)))))
  refine ⟨_, _, rfl, ?_⟩
  intro r3 p40
  refine ⟨fun h5 => ?_, fun h5 => ?_⟩
  · refine ⟨_, _, _, rfl, (by have := hp0 p; have := hp0 q; omega), (by have := hp0 p; have := hp0 q; omega), ?_⟩
    intro r9 p100
    refine ⟨fun h11 => ?_, fun h11 => ?_⟩
    · exact hK _ _ ⟨_, p40, fun h => absurd h (by omega), fun _ _ => ⟨rfl, rfl⟩, fun _ h => absurd h (by omega)⟩
    · refine ⟨_, _, _, rfl, (by have := hp0 p; have := hp0 q; omega), (by have := hp0 p; have := hp0 q; omega), ?_⟩
      intro r15 p160
      refine ⟨fun h17 => ?_, fun h17 => ?_⟩
      · refine ⟨(by have := hp0 p; have := hp0 q; omega), ?_⟩
        refine ⟨(by have := hp0 p; have := hp0 q; omega), ?_⟩
        refine ⟨(by have := hp0 p; have := hp0 q; omega), ?_⟩
        exact hK _ _ ⟨_, p40, fun h => absurd h (by omega), fun _ h => absurd (by omega) h, fun _ _ => ⟨rfl, rfl⟩⟩
      · exact hK _ _ ⟨_, p40, fun h => absurd h (by omega), fun _ _ => ⟨rfl, rfl⟩, fun _ h => absurd h (by omega)⟩
  · exact hK _ _ ⟨_, p40, fun _ => ⟨rfl, rfl⟩, fun h => absurd h (by omega), fun h => absurd h (by omega)⟩
theorem yM_SH {l : Launch} {Ts : List Cond} {cl : List vw_C} {RO : zRO} (H : zHyp Ts cl RO) : yMet l Ts cl zpZ RO zpMT yC_SH := ymet_of2 H.1 H.2.1 zpDj H.2.2.1 yRb H.p0 (ymets_cons (yM_RB H) (ymets_cons (yM_HR H) ymets_nil)) (zrc1 rfl) (plainFor_of_name zpy0) zpDk31 (fun as g K Y h hA hY => by
  obtain ⟨p, i, q, j, n, rfl, hp0, hK⟩ := h
  exact yv_SH hY (yAr1 hA (by simp)) (yAr1 hA (by simp)) (yAr1 hA (by simp)) (yAr1 hA (by simp)) (yAr1 hA (by simp)) hp0 hK)
def yP_CL : yPT := fun as g K => ∃ (p : Int), as = [(3, 9), (1, p)] ∧ (0 ≤ p ∧ p < 6) ∧ (∀ (g' : yM), (g' = yset g 40 (Int.toNat p) (-1)) → K [] g')
def yC_CL : yC := (67, (1, 40), yP_CL)
set_option maxRecDepth 8000 in
theorem yv_CL {K : List yV → yM → Prop} {Y : yNx} {g : yM} {p : Int} (hY : yCl zpD67 (zpZ, zpRS, zpP6, zpMT, [], (1, 40), 0) K Y) (hr_p : -2147483648 ≤ p ∧ p ≤ 2147483647) (hp0 : 0 ≤ p ∧ p < 6) (hK : ∀ (g' : yM), (g' = yset g 40 (Int.toNat p) (-1)) → K [] g') : Y 0 [(3, 9), (1, p)] [] g := by
  refine yrun_ok (sp := fun pc => false) hY 6 0 _ [] g ?_
  show (((0 : Int) ≤ p ∧ p < ((6 : Nat) : Int)) ∧ (K [] (yset g 40 (Int.toNat p) (-1))))
  refine ⟨(by omega), ?_⟩
  exact hK _ (by first | omega | exact fun _ => rfl | exact fun h => absurd h (by omega) | exact rfl | exact fun _ _ => rfl | exact fun h _ => absurd h (by omega) | exact fun _ h => absurd h (by omega))
theorem yM_CL {l : Launch} {Ts : List Cond} {cl : List vw_C} {RO : zRO} (H : zHyp Ts cl RO) : yMet l Ts cl zpZ RO zpMT yC_CL := ymet_of2 H.1 H.2.1 zpDj H.2.2.1 yRb H.p6 ymets_nil (zrc0 rfl) (plainFor_of_name zpy6) zpDk67 (fun as g K Y h hA hY => by
  obtain ⟨p, rfl, hp0, hK⟩ := h
  exact yv_CL hY (yAr1 hA (by simp)) hp0 hK)
def yP_HU : yPT := fun as g K => ∃ (p w : Int), as = [(3, 9), (1, p), (1, w)] ∧ (0 ≤ p ∧ p < 6) ∧ (∀ (g' : yM), (g' = yset (yset g 40 (Int.toNat p) (-2)) 41 (Int.toNat p) w) → K [] g')
def yC_HU : yC := (70, (1, 40), yP_HU)
set_option maxRecDepth 8000 in
theorem yv_HU {K : List yV → yM → Prop} {Y : yNx} {g : yM} {p w : Int} (hY : yCl zpD70 (zpZ, zpRS, zpP6, zpMT, [], (1, 40), 0) K Y) (hr_p : -2147483648 ≤ p ∧ p ≤ 2147483647) (hr_w : -2147483648 ≤ w ∧ w ≤ 2147483647) (hp0 : 0 ≤ p ∧ p < 6) (hK : ∀ (g' : yM), (g' = yset (yset g 40 (Int.toNat p) (-2)) 41 (Int.toNat p) w) → K [] g') : Y 0 [(3, 9), (1, p), (1, w)] [] g := by
  refine yrun_ok (sp := fun pc => false) hY 11 0 _ [] g ?_
  show (((0 : Int) ≤ p ∧ p < ((6 : Nat) : Int)) ∧ (((0 : Int) ≤ p ∧ p < ((6 : Nat) : Int)) ∧ (K [] (yset (yset g 40 (Int.toNat p) (-2)) 41 (Int.toNat p) w))))
  refine ⟨(by omega), ?_⟩
  refine ⟨(by omega), ?_⟩
  exact hK _ (by first | omega | exact fun _ => rfl | exact fun h => absurd h (by omega) | exact rfl | exact fun _ _ => rfl | exact fun h _ => absurd h (by omega) | exact fun _ h => absurd h (by omega))
theorem yM_HU {l : Launch} {Ts : List Cond} {cl : List vw_C} {RO : zRO} (H : zHyp Ts cl RO) : yMet l Ts cl zpZ RO zpMT yC_HU := ymet_of2 H.1 H.2.1 zpDj H.2.2.1 yRb H.p6 ymets_nil (zrc0 rfl) (plainFor_of_name zpy6) zpDk70 (fun as g K Y h hA hY => by
  obtain ⟨p, w, rfl, hp0, hK⟩ := h
  exact yv_HU hY (yAr1 hA (by simp)) (yAr1 hA (by simp)) hp0 hK)
def yP_HO : yPT := fun as g K => ∃ (p s n : Int), as = [(3, 9), (1, p), (1, s), (1, n)] ∧ (0 ≤ p ∧ p < 6) ∧ (∀ (g' : yM), (g' = yzr (yset (yset g 40 (Int.toNat p) s) 42 (Int.toNat p) n) (44 + Int.toNat p) 0 60) → K [] g')
def yC_HO : yC := (69, (1, 40), yP_HO)
set_option maxRecDepth 8000 in
theorem yl_HO {K : List yV → yM → Prop} {Y : yNx} {g : yM} {p s n : Int} (hY : yCl zpD69 (zpZ, zpRS, zpP6, zpMT, [], (1, 40), 0) K Y) (hp0 : 0 ≤ p ∧ p < 6) (hK : K [] (yzr g (44 + Int.toNat p) 0 60)) : ∀ (d : Nat) (i : Int), i + d = 60 → 0 ≤ i → Y 17 [(3, 9), (1, p), (1, s), (1, n), (1, i)] [] (yzr g (44 + Int.toNat p) 0 (Int.toNat i)) := by
  intro d
  induction d with
  | zero =>
    intro i hi h0
    refine yrun_ok (sp := fun pc => Nat.beq pc 17) hY 13 17 _ [] (yzr g (44 + Int.toNat p) 0 (Int.toNat i)) ?_
    show ((60 ≤ i → (K [] (yzr g (44 + Int.toNat p) 0 (Int.toNat i)))) ∧ (¬ (60 ≤ i) → (((0 : Int) ≤ p ∧ p < ((6 : Nat) : Int)) ∧ (((0 : Int) ≤ i ∧ i < ((60 : Nat) : Int)) ∧ (Y 17 [(3, 9), (1, p), (1, s), (1, n), (1, (yw (i + 1)))] [] (yset (yzr g (44 + Int.toNat p) 0 (Int.toNat i)) (44 + Int.toNat p) (Int.toNat i) 0))))))
    refine ⟨fun h1 => ?_, fun h1 => ?_⟩
    · have e : Int.toNat i = 60 := by omega
      rw [e]
      exact hK
    · refine ⟨(by omega), ?_⟩
      refine ⟨(by omega), ?_⟩
      omega
  | succ d ih =>
    intro i hi h0
    refine yrun_ok (sp := fun pc => Nat.beq pc 17) hY 13 17 _ [] (yzr g (44 + Int.toNat p) 0 (Int.toNat i)) ?_
    show ((60 ≤ i → (K [] (yzr g (44 + Int.toNat p) 0 (Int.toNat i)))) ∧ (¬ (60 ≤ i) → (((0 : Int) ≤ p ∧ p < ((6 : Nat) : Int)) ∧ (((0 : Int) ≤ i ∧ i < ((60 : Nat) : Int)) ∧ (Y 17 [(3, 9), (1, p), (1, s), (1, n), (1, (yw (i + 1)))] [] (yset (yzr g (44 + Int.toNat p) 0 (Int.toNat i)) (44 + Int.toNat p) (Int.toNat i) 0))))))
    refine ⟨fun h1 => ?_, fun h1 => ?_⟩
    · have e : Int.toNat i = 60 := by omega
      rw [e]
      exact hK
    · refine ⟨(by omega), ?_⟩
      refine ⟨(by omega), ?_⟩
      rw [show (yw (i + 1)) = (i + 1) from by have := yw_s (i + 1); omega]
      have e : Int.toNat i + 1 = Int.toNat (i + 1) := by omega
      have e2 := yzr_step g (44 + Int.toNat p) 0 (Int.toNat i)
      rw [Nat.zero_add, e] at e2
      rw [e2]
      exact ih (i + 1) (by omega) (by omega)
set_option maxRecDepth 8000 in
theorem yv_HO {K : List yV → yM → Prop} {Y : yNx} {g : yM} {p s n : Int} (hY : yCl zpD69 (zpZ, zpRS, zpP6, zpMT, [], (1, 40), 0) K Y) (hr_p : -2147483648 ≤ p ∧ p ≤ 2147483647) (hr_s : -2147483648 ≤ s ∧ s ≤ 2147483647) (hr_n : -2147483648 ≤ n ∧ n ≤ 2147483647) (hp0 : 0 ≤ p ∧ p < 6) (hK : ∀ (g' : yM), (g' = yzr (yset (yset g 40 (Int.toNat p) s) 42 (Int.toNat p) n) (44 + Int.toNat p) 0 60) → K [] g') : Y 0 [(3, 9), (1, p), (1, s), (1, n), (0, 0)] [] g := by
  refine yrun_ok (sp := fun pc => Nat.beq pc 17) hY 13 0 _ [] g ?_
  show (((0 : Int) ≤ p ∧ p < ((6 : Nat) : Int)) ∧ (((0 : Int) ≤ p ∧ p < ((6 : Nat) : Int)) ∧ (Y 17 [(3, 9), (1, p), (1, s), (1, n), (1, 0)] [] (yset (yset g 40 (Int.toNat p) s) 42 (Int.toNat p) n))))
  refine ⟨(by omega), ?_⟩
  refine ⟨(by omega), ?_⟩
  have e := yl_HO (s := s) (n := n) hY hp0 (hK _ rfl) 60 0 (by omega) (by omega)
  rw [show Int.toNat 0 = 0 from rfl, yzr_0] at e
  exact e
theorem yM_HO {l : Launch} {Ts : List Cond} {cl : List vw_C} {RO : zRO} (H : zHyp Ts cl RO) : yMet l Ts cl zpZ RO zpMT yC_HO := ymet_of2 H.1 H.2.1 zpDj H.2.2.1 yRb H.p6 ymets_nil (zrc0 rfl) (plainFor_of_name zpy6) zpDk69 (fun as g K Y h hA hY => by
  obtain ⟨p, s, n, rfl, hp0, hK⟩ := h
  exact yv_HO hY (yAr1 hA (by simp)) (yAr1 hA (by simp)) (yAr1 hA (by simp)) hp0 hK)
def yP_RO : yPT := fun as g K => ∃ (p s n : Int), as = [(3, 0), (1, p), (1, s), (1, n)] ∧ (∀ (r : Int) (g' : yM), ((r = -1 ∧ ¬ (0 ≤ p ∧ p < 6 ∧ 0 ≤ s ∧ s < 5 ∧ n ≤ 60)) ∨ ((0 ≤ p ∧ p < 6 ∧ 0 ≤ s ∧ s < 5 ∧ n ≤ 60) ∧ ((r = -14 ∧ n < 0) ∨ (r = 1 ∧ 0 ≤ n)))) → (r ≠ 1 → g' = g) → (r = 1 → g' = yzr (yset (yset g 40 (Int.toNat p) s) 42 (Int.toNat p) n) (44 + Int.toNat p) 0 60) → K [(1, r)] g')
def yC_RO : yC := (28, (2, 64), yP_RO)
set_option maxRecDepth 8000 in
theorem yv_RO {K : List yV → yM → Prop} {Y : yNx} {g : yM} {p s n : Int} (hY : yCl zpD28 (zpZ, zpRS, zpP0, zpMT, [yC_W, yC_HO], (2, 64), 1) K Y) (hr_p : -2147483648 ≤ p ∧ p ≤ 2147483647) (hr_s : -2147483648 ≤ s ∧ s ≤ 2147483647) (hr_n : -2147483648 ≤ n ∧ n ≤ 2147483647) (hK : ∀ (r : Int) (g' : yM), ((r = -1 ∧ ¬ (0 ≤ p ∧ p < 6 ∧ 0 ≤ s ∧ s < 5 ∧ n ≤ 60)) ∨ ((0 ≤ p ∧ p < 6 ∧ 0 ≤ s ∧ s < 5 ∧ n ≤ 60) ∧ ((r = -14 ∧ n < 0) ∨ (r = 1 ∧ 0 ≤ n)))) → (r ≠ 1 → g' = g) → (r = 1 → g' = yzr (yset (yset g 40 (Int.toNat p) s) 42 (Int.toNat p) n) (44 + Int.toNat p) 0 60) → K [(1, r)] g') : Y 0 [(3, 0), (1, p), (1, s), (1, n)] [] g := by
  refine yrun_ok (sp := fun pc => false) hY 21 0 _ [] g ?_
  show (∃ (v1 b2 : Int), [(1, p), (1, 6)] = [(1, v1), (1, b2)] ∧ (∀ (r3 : Int), ((r3 = 1 ∧ 0 ≤ v1 ∧ v1 < b2) ∨ (r3 = 0 ∧ (v1 < 0 ∨ b2 ≤ v1))) → ((r3 = 0 → (K [(1, (-1))] g)) ∧ (¬ (r3 = 0) → (∃ (v6 b7 : Int), [(1, s), (1, 5)] = [(1, v6), (1, b7)] ∧ (∀ (r8 : Int), ((r8 = 1 ∧ 0 ≤ v6 ∧ v6 < b7) ∨ (r8 = 0 ∧ (v6 < 0 ∨ b7 ≤ v6))) → ((r8 = 0 → (K [(1, (-1))] g)) ∧ (¬ (r8 = 0) → ((n ≤ 60 → ((0 ≤ n → (∃ (p13 s14 n15 : Int), [(3, 9), (1, p), (1, s), (1, n)] = [(3, 9), (1, p13), (1, s14), (1, n15)] ∧ (0 ≤ p13 ∧ p13 < 6) ∧ (∀ (g16 : yM), (g16 = yzr (yset (yset g 40 (Int.toNat p13) s14) 42 (Int.toNat p13) n15) (44 + Int.toNat p13) 0 60) → (K [(1, 1)] g16)))) ∧ (¬ (0 ≤ n) → (K [(1, (-14))] g)))) ∧ (¬ (n ≤ 60) → (K [(1, (-1))] g)))))))))))
  refine ⟨_, _, rfl, ?_⟩
  intro r3 p40
  refine ⟨fun h5 => ?_, fun h5 => ?_⟩
  · exact hK _ _ (by first | omega | exact fun _ => rfl | exact fun h => absurd h (by omega) | exact rfl | exact fun _ _ => rfl | exact fun h _ => absurd h (by omega) | exact fun _ h => absurd h (by omega)) (by first | omega | exact fun _ => rfl | exact fun h => absurd h (by omega) | exact rfl | exact fun _ _ => rfl | exact fun h _ => absurd h (by omega) | exact fun _ h => absurd h (by omega)) (by first | omega | exact fun _ => rfl | exact fun h => absurd h (by omega) | exact rfl | exact fun _ _ => rfl | exact fun h _ => absurd h (by omega) | exact fun _ h => absurd h (by omega))
  · refine ⟨_, _, rfl, ?_⟩
    intro r8 p90
    refine ⟨fun h10 => ?_, fun h10 => ?_⟩
    · exact hK _ _ (by first | omega | exact fun _ => rfl | exact fun h => absurd h (by omega) | exact rfl | exact fun _ _ => rfl | exact fun h _ => absurd h (by omega) | exact fun _ h => absurd h (by omega)) (by first | omega | exact fun _ => rfl | exact fun h => absurd h (by omega) | exact rfl | exact fun _ _ => rfl | exact fun h _ => absurd h (by omega) | exact fun _ h => absurd h (by omega)) (by first | omega | exact fun _ => rfl | exact fun h => absurd h (by omega) | exact rfl | exact fun _ _ => rfl | exact fun h _ => absurd h (by omega) | exact fun _ h => absurd h (by omega))
    · refine ⟨fun h11 => ?_, fun h11 => ?_⟩
      · refine ⟨fun h12 => ?_, fun h12 => ?_⟩
        · refine ⟨_, _, _, rfl, (by omega), ?_⟩
          intro g16 p170
          subst p170
          exact hK _ _ (by first | omega | exact fun _ => rfl | exact fun h => absurd h (by omega) | exact rfl | exact fun _ _ => rfl | exact fun h _ => absurd h (by omega) | exact fun _ h => absurd h (by omega)) (by first | omega | exact fun _ => rfl | exact fun h => absurd h (by omega) | exact rfl | exact fun _ _ => rfl | exact fun h _ => absurd h (by omega) | exact fun _ h => absurd h (by omega)) (by first | omega | exact fun _ => rfl | exact fun h => absurd h (by omega) | exact rfl | exact fun _ _ => rfl | exact fun h _ => absurd h (by omega) | exact fun _ h => absurd h (by omega))
        · exact hK _ _ (by first | omega | exact fun _ => rfl | exact fun h => absurd h (by omega) | exact rfl | exact fun _ _ => rfl | exact fun h _ => absurd h (by omega) | exact fun _ h => absurd h (by omega)) (by first | omega | exact fun _ => rfl | exact fun h => absurd h (by omega) | exact rfl | exact fun _ _ => rfl | exact fun h _ => absurd h (by omega) | exact fun _ h => absurd h (by omega)) (by first | omega | exact fun _ => rfl | exact fun h => absurd h (by omega) | exact rfl | exact fun _ _ => rfl | exact fun h _ => absurd h (by omega) | exact fun _ h => absurd h (by omega))
      · exact hK _ _ (by first | omega | exact fun _ => rfl | exact fun h => absurd h (by omega) | exact rfl | exact fun _ _ => rfl | exact fun h _ => absurd h (by omega) | exact fun _ h => absurd h (by omega)) (by first | omega | exact fun _ => rfl | exact fun h => absurd h (by omega) | exact rfl | exact fun _ _ => rfl | exact fun h _ => absurd h (by omega) | exact fun _ h => absurd h (by omega)) (by first | omega | exact fun _ => rfl | exact fun h => absurd h (by omega) | exact rfl | exact fun _ _ => rfl | exact fun h _ => absurd h (by omega) | exact fun _ h => absurd h (by omega))
theorem yM_RO {l : Launch} {Ts : List Cond} {cl : List vw_C} {RO : zRO} (H : zHyp Ts cl RO) : yMet l Ts cl zpZ RO zpMT yC_RO := ymet_of2 H.1 H.2.1 zpDj H.2.2.1 yRb H.p0 (ymets_cons (yM_W H) (ymets_cons (yM_HO H) ymets_nil)) (zrc1 rfl) (plainFor_of_name zpy0) zpDk28 (fun as g K Y h hA hY => by
  obtain ⟨p, s, n, rfl, hK⟩ := h
  exact yv_RO hY (yAr1 hA (by simp)) (yAr1 hA (by simp)) (yAr1 hA (by simp)) hK)
def yP_HS : yPT := fun as g K => ∃ (w : Int), as = [(3, 6), (1, w)] ∧ (∀ (r : Int), ((r = 1 ∧ 0 ≤ w ∧ w < g 6 8) ∨ (r = 0 ∧ (w < 0 ∨ g 6 8 ≤ w))) → K [(1, r)] g)
def yC_HS : yC := (82, (2, 61), yP_HS)
set_option maxRecDepth 8000 in
theorem yv_HS {K : List yV → yM → Prop} {Y : yNx} {g : yM} {w : Int} (hY : yCl zpD82 (zpZ, zpRS, zpP7, zpMT, [yC_W], (2, 61), 2) K Y) (hr_w : -2147483648 ≤ w ∧ w ≤ 2147483647) (hK : ∀ (r : Int), ((r = 1 ∧ 0 ≤ w ∧ w < g 6 8) ∨ (r = 0 ∧ (w < 0 ∨ g 6 8 ≤ w))) → K [(1, r)] g) : Y 0 [(3, 6), (1, w)] [] g := by
  refine yrun_ok (sp := fun pc => false) hY 5 0 _ [] g ?_
  show (∃ (v1 b2 : Int), [(1, w), (1, (g 6 8))] = [(1, v1), (1, b2)] ∧ (∀ (r3 : Int), ((r3 = 1 ∧ 0 ≤ v1 ∧ v1 < b2) ∨ (r3 = 0 ∧ (v1 < 0 ∨ b2 ≤ v1))) → (((0 : Int) ≤ r3 ∧ r3 ≤ (1 : Int)) ∧ (K [(1, r3)] g))))
  refine ⟨_, _, rfl, ?_⟩
  intro r3 p40
  refine ⟨(by omega), ?_⟩
  exact hK _ (by first | omega | exact fun _ => rfl | exact fun h => absurd h (by omega) | exact rfl | exact fun _ _ => rfl | exact fun h _ => absurd h (by omega) | exact fun _ h => absurd h (by omega))
theorem yM_HS {l : Launch} {Ts : List Cond} {cl : List vw_C} {RO : zRO} (H : zHyp Ts cl RO) : yMet l Ts cl zpZ RO zpMT yC_HS := ymet_of2 H.1 H.2.1 zpDj H.2.2.1 yRb H.p7 (ymets_cons (yM_W H) ymets_nil) (zrc2 rfl) (plainFor_of_name zpy7) zpDk82 (fun as g K Y h hA hY => by
  obtain ⟨w, rfl, hK⟩ := h
  exact yv_HS hY (yAr1 hA (by simp)) hK)
def yP_KE : yPT := fun as g K => ∃ (p w : Int), as = [(3, 0), (1, p), (1, w)] ∧ (∀ (r : Int) (g' : yM), ((r = -1 ∧ ¬ (0 ≤ p ∧ p < 6 ∧ (w = -1 ∨ (0 ≤ w ∧ w < g 6 8)))) ∨ (r = 1 ∧ 0 ≤ p ∧ p < 6 ∧ (w = -1 ∨ (0 ≤ w ∧ w < g 6 8)))) → (r ≠ 1 → g' = g) → (r = 1 → w = -1 → g' = yset g 40 (Int.toNat p) (-1)) → (r = 1 → w ≠ -1 → g' = yset (yset g 40 (Int.toNat p) (-2)) 41 (Int.toNat p) w) → K [(1, r)] g')
def yC_KE : yC := (18, (3, 82), yP_KE)
set_option maxRecDepth 8000 in
theorem yv_KE {K : List yV → yM → Prop} {Y : yNx} {g : yM} {p w : Int} (hY : yCl zpD18 (zpZ, zpRS, zpP0, zpMT, [yC_W, yC_HS, yC_CL, yC_HU], (3, 82), 1) K Y) (hr_p : -2147483648 ≤ p ∧ p ≤ 2147483647) (hr_w : -2147483648 ≤ w ∧ w ≤ 2147483647) (hK : ∀ (r : Int) (g' : yM), ((r = -1 ∧ ¬ (0 ≤ p ∧ p < 6 ∧ (w = -1 ∨ (0 ≤ w ∧ w < g 6 8)))) ∨ (r = 1 ∧ 0 ≤ p ∧ p < 6 ∧ (w = -1 ∨ (0 ≤ w ∧ w < g 6 8)))) → (r ≠ 1 → g' = g) → (r = 1 → w = -1 → g' = yset g 40 (Int.toNat p) (-1)) → (r = 1 → w ≠ -1 → g' = yset (yset g 40 (Int.toNat p) (-2)) 41 (Int.toNat p) w) → K [(1, r)] g') : Y 0 [(3, 0), (1, p), (1, w)] [] g := by
  refine yrun_ok (sp := fun pc => false) hY 22 0 _ [] g ?_
  show (∃ (v1 b2 : Int), [(1, p), (1, 6)] = [(1, v1), (1, b2)] ∧ (∀ (r3 : Int), ((r3 = 1 ∧ 0 ≤ v1 ∧ v1 < b2) ∨ (r3 = 0 ∧ (v1 < 0 ∨ b2 ≤ v1))) → ((r3 = 0 → (K [(1, (-1))] g)) ∧ (¬ (r3 = 0) → ((w = (-1) → ((w ≠ (-1) → (∃ (p8 w9 : Int), [(3, 9), (1, p), (1, w)] = [(3, 9), (1, p8), (1, w9)] ∧ (0 ≤ p8 ∧ p8 < 6) ∧ (∀ (g10 : yM), (g10 = yset (yset g 40 (Int.toNat p8) (-2)) 41 (Int.toNat p8) w9) → (K [(1, 1)] g10)))) ∧ (¬ (w ≠ (-1)) → (∃ (p12 : Int), [(3, 9), (1, p)] = [(3, 9), (1, p12)] ∧ (0 ≤ p12 ∧ p12 < 6) ∧ (∀ (g13 : yM), (g13 = yset g 40 (Int.toNat p12) (-1)) → (K [(1, 1)] g13)))))) ∧ (¬ (w = (-1)) → (∃ (w15 : Int), [(3, 6), (1, w)] = [(3, 6), (1, w15)] ∧ (∀ (r16 : Int), ((r16 = 1 ∧ 0 ≤ w15 ∧ w15 < g 6 8) ∨ (r16 = 0 ∧ (w15 < 0 ∨ g 6 8 ≤ w15))) → ((r16 ≠ 0 → ((w ≠ (-1) → (∃ (p20 w21 : Int), [(3, 9), (1, p), (1, w)] = [(3, 9), (1, p20), (1, w21)] ∧ (0 ≤ p20 ∧ p20 < 6) ∧ (∀ (g22 : yM), (g22 = yset (yset g 40 (Int.toNat p20) (-2)) 41 (Int.toNat p20) w21) → (K [(1, 1)] g22)))) ∧ (¬ (w ≠ (-1)) → (∃ (p24 : Int), [(3, 9), (1, p)] = [(3, 9), (1, p24)] ∧ (0 ≤ p24 ∧ p24 < 6) ∧ (∀ (g25 : yM), (g25 = yset g 40 (Int.toNat p24) (-1)) → (K [(1, 1)] g25)))))) ∧ (¬ (r16 ≠ 0) → (K [(1, (-1))] g)))))))))))
  refine ⟨_, _, rfl, ?_⟩
  intro r3 p40
  refine ⟨fun h5 => ?_, fun h5 => ?_⟩
  · exact hK _ _ (by first | omega | exact fun _ => rfl | exact fun h => absurd h (by omega) | exact rfl | exact fun _ _ => rfl | exact fun h _ => absurd h (by omega) | exact fun _ h => absurd h (by omega)) (by first | omega | exact fun _ => rfl | exact fun h => absurd h (by omega) | exact rfl | exact fun _ _ => rfl | exact fun h _ => absurd h (by omega) | exact fun _ h => absurd h (by omega)) (by first | omega | exact fun _ => rfl | exact fun h => absurd h (by omega) | exact rfl | exact fun _ _ => rfl | exact fun h _ => absurd h (by omega) | exact fun _ h => absurd h (by omega)) (by first | omega | exact fun _ => rfl | exact fun h => absurd h (by omega) | exact rfl | exact fun _ _ => rfl | exact fun h _ => absurd h (by omega) | exact fun _ h => absurd h (by omega))
  · refine ⟨fun h6 => ?_, fun h6 => ?_⟩
    · refine ⟨fun h7 => ?_, fun h7 => ?_⟩
      · refine ⟨_, _, rfl, (by omega), ?_⟩
        intro g10 p110
        subst p110
        exact hK _ _ (by first | omega | exact fun _ => rfl | exact fun h => absurd h (by omega) | exact rfl | exact fun _ _ => rfl | exact fun h _ => absurd h (by omega) | exact fun _ h => absurd h (by omega)) (by first | omega | exact fun _ => rfl | exact fun h => absurd h (by omega) | exact rfl | exact fun _ _ => rfl | exact fun h _ => absurd h (by omega) | exact fun _ h => absurd h (by omega)) (by first | omega | exact fun _ => rfl | exact fun h => absurd h (by omega) | exact rfl | exact fun _ _ => rfl | exact fun h _ => absurd h (by omega) | exact fun _ h => absurd h (by omega)) (by first | omega | exact fun _ => rfl | exact fun h => absurd h (by omega) | exact rfl | exact fun _ _ => rfl | exact fun h _ => absurd h (by omega) | exact fun _ h => absurd h (by omega))
      · refine ⟨_, rfl, (by omega), ?_⟩
        intro g13 p140
        subst p140
        exact hK _ _ (by first | omega | exact fun _ => rfl | exact fun h => absurd h (by omega) | exact rfl | exact fun _ _ => rfl | exact fun h _ => absurd h (by omega) | exact fun _ h => absurd h (by omega)) (by first | omega | exact fun _ => rfl | exact fun h => absurd h (by omega) | exact rfl | exact fun _ _ => rfl | exact fun h _ => absurd h (by omega) | exact fun _ h => absurd h (by omega)) (by first | omega | exact fun _ => rfl | exact fun h => absurd h (by omega) | exact rfl | exact fun _ _ => rfl | exact fun h _ => absurd h (by omega) | exact fun _ h => absurd h (by omega)) (by first | omega | exact fun _ => rfl | exact fun h => absurd h (by omega) | exact rfl | exact fun _ _ => rfl | exact fun h _ => absurd h (by omega) | exact fun _ h => absurd h (by omega))
    · refine ⟨_, rfl, ?_⟩
      intro r16 p170
      refine ⟨fun h18 => ?_, fun h18 => ?_⟩
      · refine ⟨fun h19 => ?_, fun h19 => ?_⟩
        · refine ⟨_, _, rfl, (by omega), ?_⟩
          intro g22 p230
          subst p230
          exact hK _ _ (by first | omega | exact fun _ => rfl | exact fun h => absurd h (by omega) | exact rfl | exact fun _ _ => rfl | exact fun h _ => absurd h (by omega) | exact fun _ h => absurd h (by omega)) (by first | omega | exact fun _ => rfl | exact fun h => absurd h (by omega) | exact rfl | exact fun _ _ => rfl | exact fun h _ => absurd h (by omega) | exact fun _ h => absurd h (by omega)) (by first | omega | exact fun _ => rfl | exact fun h => absurd h (by omega) | exact rfl | exact fun _ _ => rfl | exact fun h _ => absurd h (by omega) | exact fun _ h => absurd h (by omega)) (by first | omega | exact fun _ => rfl | exact fun h => absurd h (by omega) | exact rfl | exact fun _ _ => rfl | exact fun h _ => absurd h (by omega) | exact fun _ h => absurd h (by omega))
        · refine ⟨_, rfl, (by omega), ?_⟩
          intro g25 p260
          subst p260
          exact hK _ _ (by first | omega | exact fun _ => rfl | exact fun h => absurd h (by omega) | exact rfl | exact fun _ _ => rfl | exact fun h _ => absurd h (by omega) | exact fun _ h => absurd h (by omega)) (by first | omega | exact fun _ => rfl | exact fun h => absurd h (by omega) | exact rfl | exact fun _ _ => rfl | exact fun h _ => absurd h (by omega) | exact fun _ h => absurd h (by omega)) (by first | omega | exact fun _ => rfl | exact fun h => absurd h (by omega) | exact rfl | exact fun _ _ => rfl | exact fun h _ => absurd h (by omega) | exact fun _ h => absurd h (by omega)) (by first | omega | exact fun _ => rfl | exact fun h => absurd h (by omega) | exact rfl | exact fun _ _ => rfl | exact fun h _ => absurd h (by omega) | exact fun _ h => absurd h (by omega))
      · exact hK _ _ (by first | omega | exact fun _ => rfl | exact fun h => absurd h (by omega) | exact rfl | exact fun _ _ => rfl | exact fun h _ => absurd h (by omega) | exact fun _ h => absurd h (by omega)) (by first | omega | exact fun _ => rfl | exact fun h => absurd h (by omega) | exact rfl | exact fun _ _ => rfl | exact fun h _ => absurd h (by omega) | exact fun _ h => absurd h (by omega)) (by first | omega | exact fun _ => rfl | exact fun h => absurd h (by omega) | exact rfl | exact fun _ _ => rfl | exact fun h _ => absurd h (by omega) | exact fun _ h => absurd h (by omega)) (by first | omega | exact fun _ => rfl | exact fun h => absurd h (by omega) | exact rfl | exact fun _ _ => rfl | exact fun h _ => absurd h (by omega) | exact fun _ h => absurd h (by omega))
theorem yM_KE {l : Launch} {Ts : List Cond} {cl : List vw_C} {RO : zRO} (H : zHyp Ts cl RO) : yMet l Ts cl zpZ RO zpMT yC_KE := ymet_of2 H.1 H.2.1 zpDj H.2.2.1 yRb H.p0 (ymets_cons (yM_W H) (ymets_cons (yM_HS H) (ymets_cons (yM_CL H) (ymets_cons (yM_HU H) ymets_nil)))) (zrc1 rfl) (plainFor_of_name zpy0) zpDk18 (fun as g K Y h hA hY => by
  obtain ⟨p, w, rfl, hK⟩ := h
  exact yv_KE hY (yAr1 hA (by simp)) (yAr1 hA (by simp)) hK)
def yP_AD : yPT := fun as g K => ∃ (c a b w : Int), as = [(3, 6), (1, c), (1, a), (1, b), (1, w)] ∧ (0 ≤ g 6 8 ∧ g 6 8 < 20) ∧ (∀ (g' : yM), (g' = yset (yset (yset (yset (yset g 30 (Int.toNat (g 6 8)) c) 27 (Int.toNat (g 6 8)) a) 28 (Int.toNat (g 6 8)) b) 29 (Int.toNat (g 6 8)) w) 6 8 (g 6 8 + 1)) → K [] g')
def yC_AD : yC := (78, (1, 40), yP_AD)
set_option maxRecDepth 8000 in
theorem yv_AD {K : List yV → yM → Prop} {Y : yNx} {g : yM} {c a b w : Int} (hY : yCl zpD78 (zpZ, zpRS, zpP7, zpMT, [], (1, 40), 0) K Y) (hr_c : -2147483648 ≤ c ∧ c ≤ 2147483647) (hr_a : -2147483648 ≤ a ∧ a ≤ 2147483647) (hr_b : -2147483648 ≤ b ∧ b ≤ 2147483647) (hr_w : -2147483648 ≤ w ∧ w ≤ 2147483647) (hp0 : 0 ≤ g 6 8 ∧ g 6 8 < 20) (hK : ∀ (g' : yM), (g' = yset (yset (yset (yset (yset g 30 (Int.toNat (g 6 8)) c) 27 (Int.toNat (g 6 8)) a) 28 (Int.toNat (g 6 8)) b) 29 (Int.toNat (g 6 8)) w) 6 8 (g 6 8 + 1)) → K [] g') : Y 0 [(3, 6), (1, c), (1, a), (1, b), (1, w)] [] g := by
  refine yrun_ok (sp := fun pc => false) hY 35 0 _ [] g ?_
  show ((20 ≤ (g 6 8) → (K [] g)) ∧ (¬ (20 ≤ (g 6 8)) → (((0 : Int) ≤ (g 6 8) ∧ (g 6 8) < ((20 : Nat) : Int)) ∧ (((0 : Int) ≤ ((yset g 30 (Int.toNat (g 6 8)) c) 6 8) ∧ ((yset g 30 (Int.toNat (g 6 8)) c) 6 8) < ((20 : Nat) : Int)) ∧ (((0 : Int) ≤ ((yset (yset g 30 (Int.toNat (g 6 8)) c) 27 (Int.toNat ((yset g 30 (Int.toNat (g 6 8)) c) 6 8)) a) 6 8) ∧ ((yset (yset g 30 (Int.toNat (g 6 8)) c) 27 (Int.toNat ((yset g 30 (Int.toNat (g 6 8)) c) 6 8)) a) 6 8) < ((20 : Nat) : Int)) ∧ (((0 : Int) ≤ ((yset (yset (yset g 30 (Int.toNat (g 6 8)) c) 27 (Int.toNat ((yset g 30 (Int.toNat (g 6 8)) c) 6 8)) a) 28 (Int.toNat ((yset (yset g 30 (Int.toNat (g 6 8)) c) 27 (Int.toNat ((yset g 30 (Int.toNat (g 6 8)) c) 6 8)) a) 6 8)) b) 6 8) ∧ ((yset (yset (yset g 30 (Int.toNat (g 6 8)) c) 27 (Int.toNat ((yset g 30 (Int.toNat (g 6 8)) c) 6 8)) a) 28 (Int.toNat ((yset (yset g 30 (Int.toNat (g 6 8)) c) 27 (Int.toNat ((yset g 30 (Int.toNat (g 6 8)) c) 6 8)) a) 6 8)) b) 6 8) < ((20 : Nat) : Int)) ∧ (K [] (yset (yset (yset (yset (yset g 30 (Int.toNat (g 6 8)) c) 27 (Int.toNat ((yset g 30 (Int.toNat (g 6 8)) c) 6 8)) a) 28 (Int.toNat ((yset (yset g 30 (Int.toNat (g 6 8)) c) 27 (Int.toNat ((yset g 30 (Int.toNat (g 6 8)) c) 6 8)) a) 6 8)) b) 29 (Int.toNat ((yset (yset (yset g 30 (Int.toNat (g 6 8)) c) 27 (Int.toNat ((yset g 30 (Int.toNat (g 6 8)) c) 6 8)) a) 28 (Int.toNat ((yset (yset g 30 (Int.toNat (g 6 8)) c) 27 (Int.toNat ((yset g 30 (Int.toNat (g 6 8)) c) 6 8)) a) 6 8)) b) 6 8)) w) 6 8 (yw (((yset (yset (yset (yset g 30 (Int.toNat (g 6 8)) c) 27 (Int.toNat ((yset g 30 (Int.toNat (g 6 8)) c) 6 8)) a) 28 (Int.toNat ((yset (yset g 30 (Int.toNat (g 6 8)) c) 27 (Int.toNat ((yset g 30 (Int.toNat (g 6 8)) c) 6 8)) a) 6 8)) b) 29 (Int.toNat ((yset (yset (yset g 30 (Int.toNat (g 6 8)) c) 27 (Int.toNat ((yset g 30 (Int.toNat (g 6 8)) c) 6 8)) a) 28 (Int.toNat ((yset (yset g 30 (Int.toNat (g 6 8)) c) 27 (Int.toNat ((yset g 30 (Int.toNat (g 6 8)) c) 6 8)) a) 6 8)) b) 6 8)) w) 6 8) + 1))))))))))
  refine ⟨fun h1 => ?_, fun h1 => ?_⟩
  · exact hK _ (by first | omega | exact fun _ => rfl | exact fun h => absurd h (by omega) | exact rfl | exact fun _ _ => rfl | exact fun h _ => absurd h (by omega) | exact fun _ h => absurd h (by omega))
  · refine ⟨(by omega), ?_⟩
    refine ⟨(by have := show ((yset g 30 (Int.toNat (g 6 8)) c) 6 8) = (g 6 8) from (by simp [yset_ap, ycpy_ap]); omega), ?_⟩
    refine ⟨(by have := show ((yset g 30 (Int.toNat (g 6 8)) c) 6 8) = (g 6 8) from (by simp [yset_ap, ycpy_ap]); have := show ((yset (yset g 30 (Int.toNat (g 6 8)) c) 27 (Int.toNat ((yset g 30 (Int.toNat (g 6 8)) c) 6 8)) a) 6 8) = (g 6 8) from (by simp [yset_ap, ycpy_ap]); omega), ?_⟩
    refine ⟨(by have := show ((yset g 30 (Int.toNat (g 6 8)) c) 6 8) = (g 6 8) from (by simp [yset_ap, ycpy_ap]); have := show ((yset (yset g 30 (Int.toNat (g 6 8)) c) 27 (Int.toNat ((yset g 30 (Int.toNat (g 6 8)) c) 6 8)) a) 6 8) = (g 6 8) from (by simp [yset_ap, ycpy_ap]); have := show ((yset (yset (yset g 30 (Int.toNat (g 6 8)) c) 27 (Int.toNat ((yset g 30 (Int.toNat (g 6 8)) c) 6 8)) a) 28 (Int.toNat ((yset (yset g 30 (Int.toNat (g 6 8)) c) 27 (Int.toNat ((yset g 30 (Int.toNat (g 6 8)) c) 6 8)) a) 6 8)) b) 6 8) = (g 6 8) from (by simp [yset_ap, ycpy_ap]); omega), ?_⟩
    have := show ((yset g 30 (Int.toNat (g 6 8)) c) 6 8) = (g 6 8) from (by simp [yset_ap, ycpy_ap])
    have := show ((yset (yset g 30 (Int.toNat (g 6 8)) c) 27 (Int.toNat ((yset g 30 (Int.toNat (g 6 8)) c) 6 8)) a) 6 8) = (g 6 8) from (by simp [yset_ap, ycpy_ap])
    have := show ((yset (yset (yset g 30 (Int.toNat (g 6 8)) c) 27 (Int.toNat ((yset g 30 (Int.toNat (g 6 8)) c) 6 8)) a) 28 (Int.toNat ((yset (yset g 30 (Int.toNat (g 6 8)) c) 27 (Int.toNat ((yset g 30 (Int.toNat (g 6 8)) c) 6 8)) a) 6 8)) b) 6 8) = (g 6 8) from (by simp [yset_ap, ycpy_ap])
    have := show ((yset (yset (yset (yset g 30 (Int.toNat (g 6 8)) c) 27 (Int.toNat ((yset g 30 (Int.toNat (g 6 8)) c) 6 8)) a) 28 (Int.toNat ((yset (yset g 30 (Int.toNat (g 6 8)) c) 27 (Int.toNat ((yset g 30 (Int.toNat (g 6 8)) c) 6 8)) a) 6 8)) b) 29 (Int.toNat ((yset (yset (yset g 30 (Int.toNat (g 6 8)) c) 27 (Int.toNat ((yset g 30 (Int.toNat (g 6 8)) c) 6 8)) a) 28 (Int.toNat ((yset (yset g 30 (Int.toNat (g 6 8)) c) 27 (Int.toNat ((yset g 30 (Int.toNat (g 6 8)) c) 6 8)) a) 6 8)) b) 6 8)) w) 6 8) = (g 6 8) from (by simp [yset_ap, ycpy_ap])
    rw [show ((yset (yset (yset (yset g 30 (Int.toNat (g 6 8)) c) 27 (Int.toNat ((yset g 30 (Int.toNat (g 6 8)) c) 6 8)) a) 28 (Int.toNat ((yset (yset g 30 (Int.toNat (g 6 8)) c) 27 (Int.toNat ((yset g 30 (Int.toNat (g 6 8)) c) 6 8)) a) 6 8)) b) 29 (Int.toNat ((yset (yset (yset g 30 (Int.toNat (g 6 8)) c) 27 (Int.toNat ((yset g 30 (Int.toNat (g 6 8)) c) 6 8)) a) 28 (Int.toNat ((yset (yset g 30 (Int.toNat (g 6 8)) c) 27 (Int.toNat ((yset g 30 (Int.toNat (g 6 8)) c) 6 8)) a) 6 8)) b) 6 8)) w) 6 8) = (g 6 8) from by simp [yset_ap, ycpy_ap]]
    rw [show ((yset (yset (yset g 30 (Int.toNat (g 6 8)) c) 27 (Int.toNat ((yset g 30 (Int.toNat (g 6 8)) c) 6 8)) a) 28 (Int.toNat ((yset (yset g 30 (Int.toNat (g 6 8)) c) 27 (Int.toNat ((yset g 30 (Int.toNat (g 6 8)) c) 6 8)) a) 6 8)) b) 6 8) = (g 6 8) from by simp [yset_ap, ycpy_ap]]
    rw [show ((yset (yset g 30 (Int.toNat (g 6 8)) c) 27 (Int.toNat ((yset g 30 (Int.toNat (g 6 8)) c) 6 8)) a) 6 8) = (g 6 8) from by simp [yset_ap, ycpy_ap]]
    rw [show ((yset g 30 (Int.toNat (g 6 8)) c) 6 8) = (g 6 8) from by simp [yset_ap, ycpy_ap]]
    rw [show (yw ((g 6 8) + 1)) = ((g 6 8) + 1) from by have := yw_s ((g 6 8) + 1); omega]
    exact hK _ (by first | omega | exact fun _ => rfl | exact fun h => absurd h (by omega) | exact rfl | exact fun _ _ => rfl | exact fun h _ => absurd h (by omega) | exact fun _ h => absurd h (by omega))
theorem yM_AD {l : Launch} {Ts : List Cond} {cl : List vw_C} {RO : zRO} (H : zHyp Ts cl RO) : yMet l Ts cl zpZ RO zpMT yC_AD := ymet_of2 H.1 H.2.1 zpDj H.2.2.1 yRb H.p7 ymets_nil (zrc0 rfl) (plainFor_of_name zpy7) zpDk78 (fun as g K Y h hA hY => by
  obtain ⟨c, a, b, w, rfl, hp0, hK⟩ := h
  exact yv_AD hY (yAr1 hA (by simp)) (yAr1 hA (by simp)) (yAr1 hA (by simp)) (yAr1 hA (by simp)) hp0 hK)
def yP_RU : yPT := fun as g K => ∃ (c a w : Int), as = [(3, 0), (1, c), (1, a), (1, w)] ∧ (0 ≤ g 6 8 ∧ g 6 8 ≤ 20) ∧ (∀ (r : Int) (g' : yM), ((r = -1 ∧ ¬ (0 ≤ c ∧ c < 8 ∧ 0 ≤ a ∧ a < 10000 ∧ 0 ≤ w ∧ w < 100)) ∨ ((0 ≤ c ∧ c < 8 ∧ 0 ≤ a ∧ a < 10000 ∧ 0 ≤ w ∧ w < 100) ∧ ((r = -3 ∧ g 6 8 = 20) ∨ (r = g 6 8 ∧ g 6 8 < 20)))) → (r < 0 → g' = g) → (0 ≤ r → g' = yset (yset (yset (yset (yset g 30 (Int.toNat (g 6 8)) c) 27 (Int.toNat (g 6 8)) (yb (fun x y => x / y) a 100)) 28 (Int.toNat (g 6 8)) (yb (fun x y => x - x / y * y) a 100)) 29 (Int.toNat (g 6 8)) w) 6 8 (g 6 8 + 1)) → K [(1, r)] g')
def yC_RU : yC := (29, (2, 64), yP_RU)
set_option maxRecDepth 8000 in
theorem yv_RU {K : List yV → yM → Prop} {Y : yNx} {g : yM} {c a w : Int} (hY : yCl zpD29 (zpZ, zpRS, zpP0, zpMT, [yC_W, yC_AD], (2, 64), 1) K Y) (hr_c : -2147483648 ≤ c ∧ c ≤ 2147483647) (hr_a : -2147483648 ≤ a ∧ a ≤ 2147483647) (hr_w : -2147483648 ≤ w ∧ w ≤ 2147483647) (hp0 : 0 ≤ g 6 8 ∧ g 6 8 ≤ 20) (hK : ∀ (r : Int) (g' : yM), ((r = -1 ∧ ¬ (0 ≤ c ∧ c < 8 ∧ 0 ≤ a ∧ a < 10000 ∧ 0 ≤ w ∧ w < 100)) ∨ ((0 ≤ c ∧ c < 8 ∧ 0 ≤ a ∧ a < 10000 ∧ 0 ≤ w ∧ w < 100) ∧ ((r = -3 ∧ g 6 8 = 20) ∨ (r = g 6 8 ∧ g 6 8 < 20)))) → (r < 0 → g' = g) → (0 ≤ r → g' = yset (yset (yset (yset (yset g 30 (Int.toNat (g 6 8)) c) 27 (Int.toNat (g 6 8)) (yb (fun x y => x / y) a 100)) 28 (Int.toNat (g 6 8)) (yb (fun x y => x - x / y * y) a 100)) 29 (Int.toNat (g 6 8)) w) 6 8 (g 6 8 + 1)) → K [(1, r)] g') : Y 0 [(3, 0), (1, c), (1, a), (1, w)] [] g := by
  refine yrun_ok (sp := fun pc => false) hY 34 0 _ [] g ?_
  show (∃ (v1 b2 : Int), [(1, c), (1, 8)] = [(1, v1), (1, b2)] ∧ (∀ (r3 : Int), ((r3 = 1 ∧ 0 ≤ v1 ∧ v1 < b2) ∨ (r3 = 0 ∧ (v1 < 0 ∨ b2 ≤ v1))) → ((r3 = 0 → (K [(1, (-1))] g)) ∧ (¬ (r3 = 0) → (∃ (v6 b7 : Int), [(1, a), (1, 10000)] = [(1, v6), (1, b7)] ∧ (∀ (r8 : Int), ((r8 = 1 ∧ 0 ≤ v6 ∧ v6 < b7) ∨ (r8 = 0 ∧ (v6 < 0 ∨ b7 ≤ v6))) → ((r8 = 0 → (K [(1, (-1))] g)) ∧ (¬ (r8 = 0) → (∃ (v11 b12 : Int), [(1, w), (1, 100)] = [(1, v11), (1, b12)] ∧ (∀ (r13 : Int), ((r13 = 1 ∧ 0 ≤ v11 ∧ v11 < b12) ∨ (r13 = 0 ∧ (v11 < 0 ∨ b12 ≤ v11))) → ((r13 ≠ 0 → (((g 6 8) < 20 → ((100 : Int) ≠ 0 ∧ ((100 : Int) ≠ 0 ∧ (∃ (c17 a18 b19 w20 : Int), [(3, 6), (1, c), (1, (yb (fun x y => x / y) a 100)), (1, (yb (fun x y => x - x / y * y) a 100)), (1, w)] = [(3, 6), (1, c17), (1, a18), (1, b19), (1, w20)] ∧ (0 ≤ g 6 8 ∧ g 6 8 < 20) ∧ (∀ (g21 : yM), (g21 = yset (yset (yset (yset (yset g 30 (Int.toNat (g 6 8)) c17) 27 (Int.toNat (g 6 8)) a18) 28 (Int.toNat (g 6 8)) b19) 29 (Int.toNat (g 6 8)) w20) 6 8 (g 6 8 + 1)) → (K [(1, (yw ((g21 6 8) - 1)))] g21)))))) ∧ (¬ ((g 6 8) < 20) → (K [(1, (-3))] g)))) ∧ (¬ (r13 ≠ 0) → (K [(1, (-1))] g)))))))))))))
  refine ⟨_, _, rfl, ?_⟩
  intro r3 p40
  refine ⟨fun h5 => ?_, fun h5 => ?_⟩
  · exact hK _ _ (by first | omega | exact fun _ => rfl | exact fun h => absurd h (by omega) | exact rfl | exact fun _ _ => rfl | exact fun h _ => absurd h (by omega) | exact fun _ h => absurd h (by omega)) (by first | omega | exact fun _ => rfl | exact fun h => absurd h (by omega) | exact rfl | exact fun _ _ => rfl | exact fun h _ => absurd h (by omega) | exact fun _ h => absurd h (by omega)) (by first | omega | exact fun _ => rfl | exact fun h => absurd h (by omega) | exact rfl | exact fun _ _ => rfl | exact fun h _ => absurd h (by omega) | exact fun _ h => absurd h (by omega))
  · refine ⟨_, _, rfl, ?_⟩
    intro r8 p90
    refine ⟨fun h10 => ?_, fun h10 => ?_⟩
    · exact hK _ _ (by first | omega | exact fun _ => rfl | exact fun h => absurd h (by omega) | exact rfl | exact fun _ _ => rfl | exact fun h _ => absurd h (by omega) | exact fun _ h => absurd h (by omega)) (by first | omega | exact fun _ => rfl | exact fun h => absurd h (by omega) | exact rfl | exact fun _ _ => rfl | exact fun h _ => absurd h (by omega) | exact fun _ h => absurd h (by omega)) (by first | omega | exact fun _ => rfl | exact fun h => absurd h (by omega) | exact rfl | exact fun _ _ => rfl | exact fun h _ => absurd h (by omega) | exact fun _ h => absurd h (by omega))
    · refine ⟨_, _, rfl, ?_⟩
      intro r13 p140
      refine ⟨fun h15 => ?_, fun h15 => ?_⟩
      · refine ⟨fun h16 => ?_, fun h16 => ?_⟩
        · refine ⟨(by omega), ?_⟩
          refine ⟨(by omega), ?_⟩
          refine ⟨_, _, _, _, rfl, (by omega), ?_⟩
          intro g21 p220
          subst p220
          have e : ((yset (yset (yset (yset (yset g 30 (Int.toNat (g 6 8)) c) 27 (Int.toNat (g 6 8)) (yb (fun x y => x / y) a 100)) 28 (Int.toNat (g 6 8)) (yb (fun x y => x - x / y * y) a 100)) 29 (Int.toNat (g 6 8)) w) 6 8 (g 6 8 + 1)) 6 8) = g 6 8 + 1 := by simp [yset_ap]
          rw [e, show yw (g 6 8 + 1 - 1) = g 6 8 from by have := yw_s (g 6 8 + 1 - 1); omega]
          exact hK _ _ (by omega) (fun h => absurd h (by omega)) (fun _ => rfl)
        · exact hK _ _ (by first | omega | exact fun _ => rfl | exact fun h => absurd h (by omega) | exact rfl | exact fun _ _ => rfl | exact fun h _ => absurd h (by omega) | exact fun _ h => absurd h (by omega)) (by first | omega | exact fun _ => rfl | exact fun h => absurd h (by omega) | exact rfl | exact fun _ _ => rfl | exact fun h _ => absurd h (by omega) | exact fun _ h => absurd h (by omega)) (by first | omega | exact fun _ => rfl | exact fun h => absurd h (by omega) | exact rfl | exact fun _ _ => rfl | exact fun h _ => absurd h (by omega) | exact fun _ h => absurd h (by omega))
      · exact hK _ _ (by first | omega | exact fun _ => rfl | exact fun h => absurd h (by omega) | exact rfl | exact fun _ _ => rfl | exact fun h _ => absurd h (by omega) | exact fun _ h => absurd h (by omega)) (by first | omega | exact fun _ => rfl | exact fun h => absurd h (by omega) | exact rfl | exact fun _ _ => rfl | exact fun h _ => absurd h (by omega) | exact fun _ h => absurd h (by omega)) (by first | omega | exact fun _ => rfl | exact fun h => absurd h (by omega) | exact rfl | exact fun _ _ => rfl | exact fun h _ => absurd h (by omega) | exact fun _ h => absurd h (by omega))
theorem yM_RU {l : Launch} {Ts : List Cond} {cl : List vw_C} {RO : zRO} (H : zHyp Ts cl RO) : yMet l Ts cl zpZ RO zpMT yC_RU := ymet_of2 H.1 H.2.1 zpDj H.2.2.1 yRb H.p0 (ymets_cons (yM_W H) (ymets_cons (yM_AD H) ymets_nil)) (zrc1 rfl) (plainFor_of_name zpy0) zpDk29 (fun as g K Y h hA hY => by
  obtain ⟨c, a, w, rfl, hp0, hK⟩ := h
  exact yv_RU hY (yAr1 hA (by simp)) (yAr1 hA (by simp)) (yAr1 hA (by simp)) hp0 hK)
