/-! PLACES AND RULES OF THE REFERENCE -/
def yP_WM : yPT := fun as g K => ∃ (v a b : Int), as = [(2, v), (2, a), (2, b)] ∧ (∀ (r : Int), ((r = 1 ∧ a ≤ v ∧ v ≤ b) ∨ (r = 0 ∧ (v < a ∨ b < v))) → K [(1, r)] g)
def yC_WM : yC := (212, (1, 40), yP_WM)
set_option maxRecDepth 8000 in
theorem yv_WM {K : List yV → yM → Prop} {Y : yNx} {g : yM} {v a b : Int} (hY : yCl zpD212 (zpZ, zpRS, zpP12, zpMT, [], (1, 40), 2) K Y) (hr_v : -9223372036854775808 ≤ v ∧ v ≤ 9223372036854775807) (hr_a : -9223372036854775808 ≤ a ∧ a ≤ 9223372036854775807) (hr_b : -9223372036854775808 ≤ b ∧ b ≤ 9223372036854775807) (hK : ∀ (r : Int), ((r = 1 ∧ a ≤ v ∧ v ≤ b) ∨ (r = 0 ∧ (v < a ∨ b < v))) → K [(1, r)] g) : Y 0 [(2, v), (0, 0), (2, a), (0, 0), (2, b), (0, 0)] [] g := by
  refine yrun_ok (sp := fun pc => false) hY 11 0 _ [] g ?_
  show (((ycmp v a) < 0 → (((0 : Int) ≤ 0 ∧ 0 ≤ (1 : Int)) ∧ (K [(1, 0)] g))) ∧ (¬ ((ycmp v a) < 0) → ((0 < (ycmp v b) → (((0 : Int) ≤ 0 ∧ 0 ≤ (1 : Int)) ∧ (K [(1, 0)] g))) ∧ (¬ (0 < (ycmp v b)) → (((0 : Int) ≤ 1 ∧ 1 ≤ (1 : Int)) ∧ (K [(1, 1)] g))))))
  refine ⟨fun h1 => ?_, fun h1 => ?_⟩
  · refine ⟨(by have := ycmp_s v a; omega), ?_⟩
    have := ycmp_s v a
    exact hK _ (by first | omega | exact fun _ => rfl | exact fun h => absurd h (by omega) | exact rfl | exact fun _ _ => rfl | exact fun h _ => absurd h (by omega) | exact fun _ h => absurd h (by omega))
  · refine ⟨fun h2 => ?_, fun h2 => ?_⟩
    · refine ⟨(by have := ycmp_s v a; have := ycmp_s v b; omega), ?_⟩
      have := ycmp_s v a
      have := ycmp_s v b
      exact hK _ (by first | omega | exact fun _ => rfl | exact fun h => absurd h (by omega) | exact rfl | exact fun _ _ => rfl | exact fun h _ => absurd h (by omega) | exact fun _ h => absurd h (by omega))
    · refine ⟨(by have := ycmp_s v a; have := ycmp_s v b; omega), ?_⟩
      have := ycmp_s v a
      have := ycmp_s v b
      exact hK _ (by first | omega | exact fun _ => rfl | exact fun h => absurd h (by omega) | exact rfl | exact fun _ _ => rfl | exact fun h _ => absurd h (by omega) | exact fun _ h => absurd h (by omega))
theorem yM_WM {l : Launch} {Ts : List Cond} {cl : List vw_C} {RO : zRO} (H : zHyp Ts cl RO) : yMet l Ts cl zpZ RO zpMT yC_WM := ymet_of2 H.1 H.2.1 zpDj H.2.2.1 yRb H.p12 ymets_nil (zrc2 rfl) (plainFor_of_name zpy12) zpDk212 (fun as g K Y h hA hY => by
  obtain ⟨v, a, b, rfl, hK⟩ := h
  exact yv_WM hY (yAr2 hA (by simp)) (yAr2 hA (by simp)) (yAr2 hA (by simp)) hK)
def yP_IS : yPT := fun as g K => ∃ (d : Int), as = [(1, d)] ∧ (∀ (r : Int), ((r = 1 ∧ 0 ≤ d ∧ d < 6) ∨ (r = 0 ∧ (d < 0 ∨ 6 ≤ d))) → K [(1, r)] g)
def yC_IS : yC := (170, (2, 65), yP_IS)
set_option maxRecDepth 8000 in
theorem yv_IS {K : List yV → yM → Prop} {Y : yNx} {g : yM} {d : Int} (hY : yCl zpD170 (zpZ, zpRS, zpP12, zpMT, [yC_WM], (2, 65), 2) K Y) (hr_d : -2147483648 ≤ d ∧ d ≤ 2147483647) (hK : ∀ (r : Int), ((r = 1 ∧ 0 ≤ d ∧ d < 6) ∨ (r = 0 ∧ (d < 0 ∨ 6 ≤ d))) → K [(1, r)] g) : Y 0 [(1, d)] [] g := by
  refine yrun_ok (sp := fun pc => false) hY 6 0 _ [] g ?_
  show (∃ (v1 a2 b3 : Int), [(2, d), (2, 0), (2, 5)] = [(2, v1), (2, a2), (2, b3)] ∧ (∀ (r4 : Int), ((r4 = 1 ∧ a2 ≤ v1 ∧ v1 ≤ b3) ∨ (r4 = 0 ∧ (v1 < a2 ∨ b3 < v1))) → (((0 : Int) ≤ r4 ∧ r4 ≤ (1 : Int)) ∧ (K [(1, r4)] g))))
  refine ⟨_, _, _, rfl, ?_⟩
  intro r4 p50
  refine ⟨(by omega), ?_⟩
  exact hK _ (by first | omega | exact fun _ => rfl | exact fun h => absurd h (by omega) | exact rfl | exact fun _ _ => rfl | exact fun h _ => absurd h (by omega) | exact fun _ h => absurd h (by omega))
theorem yM_IS {l : Launch} {Ts : List Cond} {cl : List vw_C} {RO : zRO} (H : zHyp Ts cl RO) : yMet l Ts cl zpZ RO zpMT yC_IS := ymet_of2 H.1 H.2.1 zpDj H.2.2.1 yRb H.p12 (ymets_cons (yM_WM H) ymets_nil) (zrc2 rfl) (plainFor_of_name zpy12) zpDk170 (fun as g K Y h hA hY => by
  obtain ⟨d, rfl, hK⟩ := h
  exact yv_IS hY (yAr1 hA (by simp)) hK)
def yP_IR : yPT := fun as g K => ∃ (w : Int), as = [(3, 90), (1, w)] ∧ (0 ≤ g 90 38 ∧ g 90 38 ≤ 20) ∧ (∀ (r : Int), ((r = 1 ∧ 0 ≤ w ∧ w < g 90 38) ∨ (r = 0 ∧ (w < 0 ∨ g 90 38 ≤ w))) → K [(1, r)] g)
def yC_IR : yC := (169, (2, 65), yP_IR)
set_option maxRecDepth 8000 in
theorem yv_IR {K : List yV → yM → Prop} {Y : yNx} {g : yM} {w : Int} (hY : yCl zpD169 (zpZ, zpRS, zpP12, zpMT, [yC_WM], (2, 65), 2) K Y) (hr_w : -2147483648 ≤ w ∧ w ≤ 2147483647) (hp0 : 0 ≤ g 90 38 ∧ g 90 38 ≤ 20) (hK : ∀ (r : Int), ((r = 1 ∧ 0 ≤ w ∧ w < g 90 38) ∨ (r = 0 ∧ (w < 0 ∨ g 90 38 ≤ w))) → K [(1, r)] g) : Y 0 [(3, 90), (1, w)] [] g := by
  refine yrun_ok (sp := fun pc => false) hY 10 0 _ [] g ?_
  show (∃ (v1 a2 b3 : Int), [(2, w), (2, 0), (2, (yw ((g 90 38) - 1)))] = [(2, v1), (2, a2), (2, b3)] ∧ (∀ (r4 : Int), ((r4 = 1 ∧ a2 ≤ v1 ∧ v1 ≤ b3) ∨ (r4 = 0 ∧ (v1 < a2 ∨ b3 < v1))) → (((0 : Int) ≤ r4 ∧ r4 ≤ (1 : Int)) ∧ (K [(1, r4)] g))))
  refine ⟨_, _, _, rfl, ?_⟩
  intro r4 p50
  refine ⟨(by have := yw_s ((g 90 38) - 1); omega), ?_⟩
  have := yw_s ((g 90 38) - 1)
  exact hK _ (by first | omega | exact fun _ => rfl | exact fun h => absurd h (by omega) | exact rfl | exact fun _ _ => rfl | exact fun h _ => absurd h (by omega) | exact fun _ h => absurd h (by omega))
theorem yM_IR {l : Launch} {Ts : List Cond} {cl : List vw_C} {RO : zRO} (H : zHyp Ts cl RO) : yMet l Ts cl zpZ RO zpMT yC_IR := ymet_of2 H.1 H.2.1 zpDj H.2.2.1 yRb H.p12 (ymets_cons (yM_WM H) ymets_nil) (zrc2 rfl) (plainFor_of_name zpy12) zpDk169 (fun as g K Y h hA hY => by
  obtain ⟨w, rfl, hp0, hK⟩ := h
  exact yv_IR hY (yAr1 hA (by simp)) hp0 hK)
def yP_MR : yPT := fun as g K => ∃ (p i : Int), as = [(3, 90), (1, p), (1, i)] ∧ (∀ (r : Int), ((r = -1 ∧ ¬ (0 ≤ p ∧ p < 6)) ∨ ((0 ≤ p ∧ p < 6) ∧ ((r = -11 ∧ g 121 (Int.toNat p) < 0) ∨ (0 ≤ g 121 (Int.toNat p) ∧ ((r = -12 ∧ g 121 (Int.toNat p) < 20) ∨ (20 ≤ g 121 (Int.toNat p) ∧ ((r = -13 ∧ (i < 0 ∨ g 122 (Int.toNat p) ≤ i)) ∨ (r = 0 ∧ 0 ≤ i ∧ i < g 122 (Int.toNat p))))))))) → K [(1, r)] g)
def yC_MR : yC := (192, (3, 85), yP_MR)
set_option maxRecDepth 8000 in
theorem yv_MR {K : List yV → yM → Prop} {Y : yNx} {g : yM} {p i : Int} (hY : yCl zpD192 (zpZ, zpRS, zpP12, zpMT, [yC_IS], (3, 85), 1) K Y) (hr_p : -2147483648 ≤ p ∧ p ≤ 2147483647) (hr_i : -2147483648 ≤ i ∧ i ≤ 2147483647) (hK : ∀ (r : Int), ((r = -1 ∧ ¬ (0 ≤ p ∧ p < 6)) ∨ ((0 ≤ p ∧ p < 6) ∧ ((r = -11 ∧ g 121 (Int.toNat p) < 0) ∨ (0 ≤ g 121 (Int.toNat p) ∧ ((r = -12 ∧ g 121 (Int.toNat p) < 20) ∨ (20 ≤ g 121 (Int.toNat p) ∧ ((r = -13 ∧ (i < 0 ∨ g 122 (Int.toNat p) ≤ i)) ∨ (r = 0 ∧ 0 ≤ i ∧ i < g 122 (Int.toNat p))))))))) → K [(1, r)] g) : Y 0 [(3, 90), (1, p), (1, i)] [] g := by
  refine yrun_ok (sp := fun pc => false) hY 25 0 _ [] g ?_
  show (∃ (d1 : Int), [(1, p)] = [(1, d1)] ∧ (∀ (r2 : Int), ((r2 = 1 ∧ 0 ≤ d1 ∧ d1 < 6) ∨ (r2 = 0 ∧ (d1 < 0 ∨ 6 ≤ d1))) → ((r2 ≠ 0 → (((0 : Int) ≤ p ∧ p < ((6 : Nat) : Int)) ∧ ((0 ≤ (g 121 (Int.toNat p)) → (((0 : Int) ≤ p ∧ p < ((6 : Nat) : Int)) ∧ ((20 ≤ (g 121 (Int.toNat p)) → ((i < 0 → (K [(1, (-13))] g)) ∧ (¬ (i < 0) → (((0 : Int) ≤ p ∧ p < ((6 : Nat) : Int)) ∧ (((g 122 (Int.toNat p)) ≤ i → (K [(1, (-13))] g)) ∧ (¬ ((g 122 (Int.toNat p)) ≤ i) → (K [(1, 0)] g))))))) ∧ (¬ (20 ≤ (g 121 (Int.toNat p))) → (K [(1, (-12))] g))))) ∧ (¬ (0 ≤ (g 121 (Int.toNat p))) → (K [(1, (-11))] g))))) ∧ (¬ (r2 ≠ 0) → (K [(1, (-1))] g)))))
  refine ⟨_, rfl, ?_⟩
  intro r2 p30
  refine ⟨fun h4 => ?_, fun h4 => ?_⟩
  · refine ⟨(by omega), ?_⟩
    refine ⟨fun h5 => ?_, fun h5 => ?_⟩
    · refine ⟨(by omega), ?_⟩
      refine ⟨fun h6 => ?_, fun h6 => ?_⟩
      · refine ⟨fun h7 => ?_, fun h7 => ?_⟩
        · exact hK _ (by first | omega | exact fun _ => rfl | exact fun h => absurd h (by omega) | exact rfl | exact fun _ _ => rfl | exact fun h _ => absurd h (by omega) | exact fun _ h => absurd h (by omega))
        · refine ⟨(by omega), ?_⟩
          refine ⟨fun h8 => ?_, fun h8 => ?_⟩
          · exact hK _ (by first | omega | exact fun _ => rfl | exact fun h => absurd h (by omega) | exact rfl | exact fun _ _ => rfl | exact fun h _ => absurd h (by omega) | exact fun _ h => absurd h (by omega))
          · exact hK _ (by first | omega | exact fun _ => rfl | exact fun h => absurd h (by omega) | exact rfl | exact fun _ _ => rfl | exact fun h _ => absurd h (by omega) | exact fun _ h => absurd h (by omega))
      · exact hK _ (by first | omega | exact fun _ => rfl | exact fun h => absurd h (by omega) | exact rfl | exact fun _ _ => rfl | exact fun h _ => absurd h (by omega) | exact fun _ h => absurd h (by omega))
    · exact hK _ (by first | omega | exact fun _ => rfl | exact fun h => absurd h (by omega) | exact rfl | exact fun _ _ => rfl | exact fun h _ => absurd h (by omega) | exact fun _ h => absurd h (by omega))
  · exact hK _ (by first | omega | exact fun _ => rfl | exact fun h => absurd h (by omega) | exact rfl | exact fun _ _ => rfl | exact fun h _ => absurd h (by omega) | exact fun _ h => absurd h (by omega))
theorem yM_MR {l : Launch} {Ts : List Cond} {cl : List vw_C} {RO : zRO} (H : zHyp Ts cl RO) : yMet l Ts cl zpZ RO zpMT yC_MR := ymet_of2 H.1 H.2.1 zpDj H.2.2.1 yRb H.p12 (ymets_cons (yM_IS H) ymets_nil) (zrc1 rfl) (plainFor_of_name zpy12) zpDk192 (fun as g K Y h hA hY => by
  obtain ⟨p, i, rfl, hK⟩ := h
  exact yv_MR hY (yAr1 hA (by simp)) (yAr1 hA (by simp)) hK)
def yP_AS : yPT := fun as g K => ∃ (s v : Int), as = [(1, s), (2, v)] ∧ (∀ (r : Int), (r = ynar s v) → K [(2, r)] g)
def yC_AS : yC := (136, (1, 40), yP_AS)
set_option maxRecDepth 8000 in
theorem yv_AS {K : List yV → yM → Prop} {Y : yNx} {g : yM} {s v : Int} (hY : yCl zpD136 (zpZ, zpRS, zpP12, zpMT, [], (1, 40), 3) K Y) (hr_s : -2147483648 ≤ s ∧ s ≤ 2147483647) (hr_v : -9223372036854775808 ≤ v ∧ v ≤ 9223372036854775807) (hK : ∀ (r : Int), (r = ynar s v) → K [(2, r)] g) : Y 0 [(1, s), (2, v), (0, 0)] [] g := by
  refine yrun_ok (sp := fun pc => false) hY 18 0 _ [] g ?_
  show ((s ≠ 0 → ((s ≠ 1 → ((s ≠ 2 → ((s ≠ 4 → (K [(2, v)] g)) ∧ (¬ (s ≠ 4) → (((ycmp v 0) = 0 → (K [(2, 0)] g)) ∧ (¬ ((ycmp v 0) = 0) → (K [(2, 1)] g)))))) ∧ (¬ (s ≠ 2) → (K [(2, (yw v))] g)))) ∧ (¬ (s ≠ 1) → (K [(2, (Int.bmod (yw v) 65536))] g)))) ∧ (¬ (s ≠ 0) → (K [(2, (Int.bmod (yw v) 256))] g)))
  refine ⟨fun h1 => ?_, fun h1 => ?_⟩
  · refine ⟨fun h2 => ?_, fun h2 => ?_⟩
    · refine ⟨fun h3 => ?_, fun h3 => ?_⟩
      · refine ⟨fun h4 => ?_, fun h4 => ?_⟩
        · refine hK _ ?_
          unfold ynar
          rw [if_neg (by omega), if_neg (by omega), if_neg (by omega), if_neg (by omega)]
        · refine ⟨fun h5 => ?_, fun h5 => ?_⟩
          · refine hK _ ?_
            unfold ynar
            have := ycmp_s v 0
            rw [if_neg (by omega), if_neg (by omega), if_neg (by omega), if_pos (by omega), if_pos (by omega)]
          · refine hK _ ?_
            unfold ynar
            have := ycmp_s v 0
            rw [if_neg (by omega), if_neg (by omega), if_neg (by omega), if_pos (by omega), if_neg (by omega)]
      · refine hK _ ?_
        unfold ynar
        rw [if_neg (by omega), if_neg (by omega), if_pos (by omega)]
    · refine hK _ ?_
      unfold ynar
      rw [if_neg (by omega), if_pos (by omega)]
  · refine hK _ ?_
    unfold ynar
    rw [if_pos (by omega)]
theorem yM_AS {l : Launch} {Ts : List Cond} {cl : List vw_C} {RO : zRO} (H : zHyp Ts cl RO) : yMet l Ts cl zpZ RO zpMT yC_AS := ymet_of2 H.1 H.2.1 zpDj H.2.2.1 yRb H.p12 ymets_nil (zrc3 rfl) (plainFor_of_name zpy12) zpDk136 (fun as g K Y h hA hY => by
  obtain ⟨s, v, rfl, hK⟩ := h
  exact yv_AS hY (yAr1 hA (by simp)) (yAr2 hA (by simp)) hK)
def yP_ME : yPT := fun as g K => ∃ (p i : Int), as = [(3, 90), (1, p), (1, i)] ∧ (∀ p : Int, 0 ≤ p → p < 6 → 0 ≤ g 122 (Int.toNat p) ∧ g 122 (Int.toNat p) ≤ 60) ∧ (∀ (r : Int), (∃ r0 : Int, ((r0 = -1 ∧ ¬ (0 ≤ p ∧ p < 6)) ∨ ((0 ≤ p ∧ p < 6) ∧ ((r0 = -11 ∧ g 121 (Int.toNat p) < 0) ∨ (0 ≤ g 121 (Int.toNat p) ∧ ((r0 = -12 ∧ g 121 (Int.toNat p) < 20) ∨ (20 ≤ g 121 (Int.toNat p) ∧ ((r0 = -13 ∧ (i < 0 ∨ g 122 (Int.toNat p) ≤ i)) ∨ (r0 = 0 ∧ 0 ≤ i ∧ i < g 122 (Int.toNat p))))))))) ∧ (r0 = 0 → r = g 123 (Int.toNat (60 * p + i))) ∧ (r0 ≠ 0 → r = -9223372036854775808)) → K [(2, r)] g)
def yC_ME : yC := (155, (4, 107), yP_ME)
set_option maxRecDepth 8000 in
theorem yv_ME {K : List yV → yM → Prop} {Y : yNx} {g : yM} {p i : Int} (hY : yCl zpD155 (zpZ, zpRS, zpP12, zpMT, [yC_MR], (4, 107), 3) K Y) (hr_p : -2147483648 ≤ p ∧ p ≤ 2147483647) (hr_i : -2147483648 ≤ i ∧ i ≤ 2147483647) (hp0 : ∀ p : Int, 0 ≤ p → p < 6 → 0 ≤ g 122 (Int.toNat p) ∧ g 122 (Int.toNat p) ≤ 60) (hK : ∀ (r : Int), (∃ r0 : Int, ((r0 = -1 ∧ ¬ (0 ≤ p ∧ p < 6)) ∨ ((0 ≤ p ∧ p < 6) ∧ ((r0 = -11 ∧ g 121 (Int.toNat p) < 0) ∨ (0 ≤ g 121 (Int.toNat p) ∧ ((r0 = -12 ∧ g 121 (Int.toNat p) < 20) ∨ (20 ≤ g 121 (Int.toNat p) ∧ ((r0 = -13 ∧ (i < 0 ∨ g 122 (Int.toNat p) ≤ i)) ∨ (r0 = 0 ∧ 0 ≤ i ∧ i < g 122 (Int.toNat p))))))))) ∧ (r0 = 0 → r = g 123 (Int.toNat (60 * p + i))) ∧ (r0 ≠ 0 → r = -9223372036854775808)) → K [(2, r)] g) : Y 0 [(3, 90), (1, p), (1, i)] [] g := by
  refine yrun_ok (sp := fun pc => false) hY 14 0 _ [] g ?_
  show (∃ (p1 i2 : Int), [(3, 90), (1, p), (1, i)] = [(3, 90), (1, p1), (1, i2)] ∧ (∀ (r3 : Int), ((r3 = -1 ∧ ¬ (0 ≤ p1 ∧ p1 < 6)) ∨ ((0 ≤ p1 ∧ p1 < 6) ∧ ((r3 = -11 ∧ g 121 (Int.toNat p1) < 0) ∨ (0 ≤ g 121 (Int.toNat p1) ∧ ((r3 = -12 ∧ g 121 (Int.toNat p1) < 20) ∨ (20 ≤ g 121 (Int.toNat p1) ∧ ((r3 = -13 ∧ (i2 < 0 ∨ g 122 (Int.toNat p1) ≤ i2)) ∨ (r3 = 0 ∧ 0 ≤ i2 ∧ i2 < g 122 (Int.toNat p1))))))))) → ((r3 = 0 → (((0 : Int) ≤ (yw ((yw (60 * p)) + i)) ∧ (yw ((yw (60 * p)) + i)) < ((360 : Nat) : Int)) ∧ (K [(2, (g 123 (Int.toNat (yw ((yw (60 * p)) + i)))))] g))) ∧ (¬ (r3 = 0) → (K [(2, (-9223372036854775808))] g)))))
  refine ⟨_, _, rfl, ?_⟩
  intro r3 p40
  refine ⟨fun h5 => ?_, fun h5 => ?_⟩
  · refine ⟨(by have := yw_s ((yw (60 * p)) + i); have := yw_s (60 * p); have := hp0 p; omega), ?_⟩
    have := hp0 p
    rw [show (yw ((yw (60 * p)) + i)) = ((60 * p) + i) from by have := yw_s ((yw (60 * p)) + i); have := yw_s (60 * p); omega]
    exact hK _ ⟨_, p40, fun _ => rfl, fun h => absurd h (by omega)⟩
  · exact hK _ ⟨_, p40, fun h => absurd h (by omega), fun _ => rfl⟩
theorem yM_ME {l : Launch} {Ts : List Cond} {cl : List vw_C} {RO : zRO} (H : zHyp Ts cl RO) : yMet l Ts cl zpZ RO zpMT yC_ME := ymet_of2 H.1 H.2.1 zpDj H.2.2.1 yRb H.p12 (ymets_cons (yM_MR H) ymets_nil) (zrc3 rfl) (plainFor_of_name zpy12) zpDk155 (fun as g K Y h hA hY => by
  obtain ⟨p, i, rfl, hp0, hK⟩ := h
  exact yv_ME hY (yAr1 hA (by simp)) (yAr1 hA (by simp)) hp0 hK)
def yP_MP : yPT := fun as g K => ∃ (p i v : Int), as = [(3, 90), (1, p), (1, i), (2, v)] ∧ (∀ p : Int, 0 ≤ p → p < 6 → 0 ≤ g 122 (Int.toNat p) ∧ g 122 (Int.toNat p) ≤ 60) ∧ (∀ p : Int, 0 ≤ p → p < 6 → -1 ≤ g 121 (Int.toNat p) ∧ g 121 (Int.toNat p) ≤ 24) ∧ (∀ (r : Int) (g' : yM), (∃ r0 : Int, ((r0 = -1 ∧ ¬ (0 ≤ p ∧ p < 6)) ∨ ((0 ≤ p ∧ p < 6) ∧ ((r0 = -11 ∧ g 121 (Int.toNat p) < 0) ∨ (0 ≤ g 121 (Int.toNat p) ∧ ((r0 = -12 ∧ g 121 (Int.toNat p) < 20) ∨ (20 ≤ g 121 (Int.toNat p) ∧ ((r0 = -13 ∧ (i < 0 ∨ g 122 (Int.toNat p) ≤ i)) ∨ (r0 = 0 ∧ 0 ≤ i ∧ i < g 122 (Int.toNat p))))))))) ∧ (r0 = 0 → r = 1 ∧ g' = yset g 123 (Int.toNat (60 * p + i)) (ynar (g 121 (Int.toNat p) - 20) v)) ∧ (r0 ≠ 0 → r = r0 ∧ g' = g)) → K [(1, r)] g')
def yC_MP : yC := (190, (4, 107), yP_MP)
set_option maxRecDepth 8000 in
theorem yv_MP {K : List yV → yM → Prop} {Y : yNx} {g : yM} {p i v : Int} (hY : yCl zpD190 (zpZ, zpRS, zpP12, zpMT, [yC_MR, yC_AS], (4, 107), 1) K Y) (hr_p : -2147483648 ≤ p ∧ p ≤ 2147483647) (hr_i : -2147483648 ≤ i ∧ i ≤ 2147483647) (hr_v : -9223372036854775808 ≤ v ∧ v ≤ 9223372036854775807) (hp0 : ∀ p : Int, 0 ≤ p → p < 6 → 0 ≤ g 122 (Int.toNat p) ∧ g 122 (Int.toNat p) ≤ 60) (hp1 : ∀ p : Int, 0 ≤ p → p < 6 → -1 ≤ g 121 (Int.toNat p) ∧ g 121 (Int.toNat p) ≤ 24) (hK : ∀ (r : Int) (g' : yM), (∃ r0 : Int, ((r0 = -1 ∧ ¬ (0 ≤ p ∧ p < 6)) ∨ ((0 ≤ p ∧ p < 6) ∧ ((r0 = -11 ∧ g 121 (Int.toNat p) < 0) ∨ (0 ≤ g 121 (Int.toNat p) ∧ ((r0 = -12 ∧ g 121 (Int.toNat p) < 20) ∨ (20 ≤ g 121 (Int.toNat p) ∧ ((r0 = -13 ∧ (i < 0 ∨ g 122 (Int.toNat p) ≤ i)) ∨ (r0 = 0 ∧ 0 ≤ i ∧ i < g 122 (Int.toNat p))))))))) ∧ (r0 = 0 → r = 1 ∧ g' = yset g 123 (Int.toNat (60 * p + i)) (ynar (g 121 (Int.toNat p) - 20) v)) ∧ (r0 ≠ 0 → r = r0 ∧ g' = g)) → K [(1, r)] g') : Y 0 [(3, 90), (1, p), (1, i), (2, v), (0, 0), (0, 0)] [] g := by
  refine yrun_ok (sp := fun pc => false) hY 28 0 _ [] g ?_
  show (∃ (p1 i2 : Int), [(3, 90), (1, p), (1, i)] = [(3, 90), (1, p1), (1, i2)] ∧ (∀ (r3 : Int), ((r3 = -1 ∧ ¬ (0 ≤ p1 ∧ p1 < 6)) ∨ ((0 ≤ p1 ∧ p1 < 6) ∧ ((r3 = -11 ∧ g 121 (Int.toNat p1) < 0) ∨ (0 ≤ g 121 (Int.toNat p1) ∧ ((r3 = -12 ∧ g 121 (Int.toNat p1) < 20) ∨ (20 ≤ g 121 (Int.toNat p1) ∧ ((r3 = -13 ∧ (i2 < 0 ∨ g 122 (Int.toNat p1) ≤ i2)) ∨ (r3 = 0 ∧ 0 ≤ i2 ∧ i2 < g 122 (Int.toNat p1))))))))) → ((r3 ≠ 0 → ((r3 ≠ 0 → (K [(1, r3)] g)) ∧ (¬ (r3 ≠ 0) → (K [(1, 1)] g)))) ∧ (¬ (r3 ≠ 0) → (((0 : Int) ≤ p ∧ p < ((6 : Nat) : Int)) ∧ (∃ (s7 v8 : Int), [(1, (yw ((g 121 (Int.toNat p)) - 20))), (2, v)] = [(1, s7), (2, v8)] ∧ (∀ (r9 : Int), (r9 = ynar s7 v8) → (((0 : Int) ≤ (yw ((yw (60 * p)) + i)) ∧ (yw ((yw (60 * p)) + i)) < ((360 : Nat) : Int)) ∧ ((r3 ≠ 0 → (K [(1, r3)] (yset g 123 (Int.toNat (yw ((yw (60 * p)) + i))) r9))) ∧ (¬ (r3 ≠ 0) → (K [(1, 1)] (yset g 123 (Int.toNat (yw ((yw (60 * p)) + i))) r9))))))))))))
  refine ⟨_, _, rfl, ?_⟩
  intro r3 p40
  refine ⟨fun h5 => ?_, fun h5 => ?_⟩
  · refine ⟨fun h6 => ?_, fun h6 => ?_⟩
    · exact hK _ _ ⟨_, p40, fun h => absurd h (by omega), fun _ => ⟨rfl, rfl⟩⟩
    · omega
  · refine ⟨(by have := hp0 p; have := hp1 p; omega), ?_⟩
    refine ⟨_, _, rfl, ?_⟩
    intro r9 p100
    refine ⟨(by have := yw_s ((g 121 (Int.toNat p)) - 20); have := yw_s ((yw (60 * p)) + i); have := yw_s (60 * p); have := hp0 p; have := hp1 p; omega), ?_⟩
    refine ⟨fun h11 => ?_, fun h11 => ?_⟩
    · have := yw_s ((g 121 (Int.toNat p)) - 20)
      have := yw_s ((yw (60 * p)) + i)
      have := yw_s (60 * p)
      omega
    · have := hp0 p
      have := hp1 p
      rw [show (yw ((yw (60 * p)) + i)) = ((60 * p) + i) from by have := yw_s ((yw (60 * p)) + i); have := yw_s (60 * p); omega]
      exact hK _ _ ⟨_, p40, fun _ => ⟨rfl, by rw [p100, show yw (g 121 (Int.toNat p) - 20) = g 121 (Int.toNat p) - 20 from by have := yw_s (g 121 (Int.toNat p) - 20); omega]⟩, fun h => absurd h (by omega)⟩
theorem yM_MP {l : Launch} {Ts : List Cond} {cl : List vw_C} {RO : zRO} (H : zHyp Ts cl RO) : yMet l Ts cl zpZ RO zpMT yC_MP := ymet_of2 H.1 H.2.1 zpDj H.2.2.1 yRb H.p12 (ymets_cons (yM_MR H) (ymets_cons (yM_AS H) ymets_nil)) (zrc1 rfl) (plainFor_of_name zpy12) zpDk190 (fun as g K Y h hA hY => by
  obtain ⟨p, i, v, rfl, hp0, hp1, hK⟩ := h
  exact yv_MP hY (yAr1 hA (by simp)) (yAr1 hA (by simp)) (yAr2 hA (by simp)) hp0 hp1 hK)
def yP_MK : yPT := fun as g K => ∃ (p w : Int), as = [(3, 90), (1, p), (1, w)] ∧ (0 ≤ g 90 38 ∧ g 90 38 ≤ 20) ∧ (∀ (r : Int) (g' : yM), ((r = -1 ∧ ¬ (0 ≤ p ∧ p < 6 ∧ (w = -1 ∨ (0 ≤ w ∧ w < g 90 38)))) ∨ (r = 1 ∧ 0 ≤ p ∧ p < 6 ∧ (w = -1 ∨ (0 ≤ w ∧ w < g 90 38)))) → (r ≠ 1 → g' = g) → (r = 1 → g' = yset (yset g 121 (Int.toNat p) w) 122 (Int.toNat p) 0) → K [(1, r)] g')
def yC_MK : yC := (172, (3, 86), yP_MK)
set_option maxRecDepth 8000 in
theorem yv_MK {K : List yV → yM → Prop} {Y : yNx} {g : yM} {p w : Int} (hY : yCl zpD172 (zpZ, zpRS, zpP12, zpMT, [yC_IS, yC_IR], (3, 86), 1) K Y) (hr_p : -2147483648 ≤ p ∧ p ≤ 2147483647) (hr_w : -2147483648 ≤ w ∧ w ≤ 2147483647) (hp0 : 0 ≤ g 90 38 ∧ g 90 38 ≤ 20) (hK : ∀ (r : Int) (g' : yM), ((r = -1 ∧ ¬ (0 ≤ p ∧ p < 6 ∧ (w = -1 ∨ (0 ≤ w ∧ w < g 90 38)))) ∨ (r = 1 ∧ 0 ≤ p ∧ p < 6 ∧ (w = -1 ∨ (0 ≤ w ∧ w < g 90 38)))) → (r ≠ 1 → g' = g) → (r = 1 → g' = yset (yset g 121 (Int.toNat p) w) 122 (Int.toNat p) 0) → K [(1, r)] g') : Y 0 [(3, 90), (1, p), (1, w)] [] g := by
  refine yrun_ok (sp := fun pc => false) hY 22 0 _ [] g ?_
  show (∃ (d1 : Int), [(1, p)] = [(1, d1)] ∧ (∀ (r2 : Int), ((r2 = 1 ∧ 0 ≤ d1 ∧ d1 < 6) ∨ (r2 = 0 ∧ (d1 < 0 ∨ 6 ≤ d1))) → ((r2 = 0 → (K [(1, (-1))] g)) ∧ (¬ (r2 = 0) → ((w = (-1) → (((0 : Int) ≤ p ∧ p < ((6 : Nat) : Int)) ∧ (((0 : Int) ≤ p ∧ p < ((6 : Nat) : Int)) ∧ (K [(1, 1)] (yset (yset g 121 (Int.toNat p) w) 122 (Int.toNat p) 0))))) ∧ (¬ (w = (-1)) → (∃ (w6 : Int), [(3, 90), (1, w)] = [(3, 90), (1, w6)] ∧ (0 ≤ g 90 38 ∧ g 90 38 ≤ 20) ∧ (∀ (r7 : Int), ((r7 = 1 ∧ 0 ≤ w6 ∧ w6 < g 90 38) ∨ (r7 = 0 ∧ (w6 < 0 ∨ g 90 38 ≤ w6))) → ((r7 ≠ 0 → (((0 : Int) ≤ p ∧ p < ((6 : Nat) : Int)) ∧ (((0 : Int) ≤ p ∧ p < ((6 : Nat) : Int)) ∧ (K [(1, 1)] (yset (yset g 121 (Int.toNat p) w) 122 (Int.toNat p) 0))))) ∧ (¬ (r7 ≠ 0) → (K [(1, (-1))] g)))))))))))
  refine ⟨_, rfl, ?_⟩
  intro r2 p30
  refine ⟨fun h4 => ?_, fun h4 => ?_⟩
  · exact hK _ _ (by first | omega | exact fun _ => rfl | exact fun h => absurd h (by omega) | exact rfl | exact fun _ _ => rfl | exact fun h _ => absurd h (by omega) | exact fun _ h => absurd h (by omega)) (by first | omega | exact fun _ => rfl | exact fun h => absurd h (by omega) | exact rfl | exact fun _ _ => rfl | exact fun h _ => absurd h (by omega) | exact fun _ h => absurd h (by omega)) (by first | omega | exact fun _ => rfl | exact fun h => absurd h (by omega) | exact rfl | exact fun _ _ => rfl | exact fun h _ => absurd h (by omega) | exact fun _ h => absurd h (by omega))
  · refine ⟨fun h5 => ?_, fun h5 => ?_⟩
    · refine ⟨(by omega), ?_⟩
      refine ⟨(by omega), ?_⟩
      exact hK _ _ (by first | omega | exact fun _ => rfl | exact fun h => absurd h (by omega) | exact rfl | exact fun _ _ => rfl | exact fun h _ => absurd h (by omega) | exact fun _ h => absurd h (by omega)) (by first | omega | exact fun _ => rfl | exact fun h => absurd h (by omega) | exact rfl | exact fun _ _ => rfl | exact fun h _ => absurd h (by omega) | exact fun _ h => absurd h (by omega)) (by first | omega | exact fun _ => rfl | exact fun h => absurd h (by omega) | exact rfl | exact fun _ _ => rfl | exact fun h _ => absurd h (by omega) | exact fun _ h => absurd h (by omega))
    · refine ⟨_, rfl, (by omega), ?_⟩
      intro r7 p80
      refine ⟨fun h9 => ?_, fun h9 => ?_⟩
      · refine ⟨(by omega), ?_⟩
        refine ⟨(by omega), ?_⟩
        exact hK _ _ (by first | omega | exact fun _ => rfl | exact fun h => absurd h (by omega) | exact rfl | exact fun _ _ => rfl | exact fun h _ => absurd h (by omega) | exact fun _ h => absurd h (by omega)) (by first | omega | exact fun _ => rfl | exact fun h => absurd h (by omega) | exact rfl | exact fun _ _ => rfl | exact fun h _ => absurd h (by omega) | exact fun _ h => absurd h (by omega)) (by first | omega | exact fun _ => rfl | exact fun h => absurd h (by omega) | exact rfl | exact fun _ _ => rfl | exact fun h _ => absurd h (by omega) | exact fun _ h => absurd h (by omega))
      · exact hK _ _ (by first | omega | exact fun _ => rfl | exact fun h => absurd h (by omega) | exact rfl | exact fun _ _ => rfl | exact fun h _ => absurd h (by omega) | exact fun _ h => absurd h (by omega)) (by first | omega | exact fun _ => rfl | exact fun h => absurd h (by omega) | exact rfl | exact fun _ _ => rfl | exact fun h _ => absurd h (by omega) | exact fun _ h => absurd h (by omega)) (by first | omega | exact fun _ => rfl | exact fun h => absurd h (by omega) | exact rfl | exact fun _ _ => rfl | exact fun h _ => absurd h (by omega) | exact fun _ h => absurd h (by omega))
theorem yM_MK {l : Launch} {Ts : List Cond} {cl : List vw_C} {RO : zRO} (H : zHyp Ts cl RO) : yMet l Ts cl zpZ RO zpMT yC_MK := ymet_of2 H.1 H.2.1 zpDj H.2.2.1 yRb H.p12 (ymets_cons (yM_IS H) (ymets_cons (yM_IR H) ymets_nil)) (zrc1 rfl) (plainFor_of_name zpy12) zpDk172 (fun as g K Y h hA hY => by
  obtain ⟨p, w, rfl, hp0, hK⟩ := h
  exact yv_MK hY (yAr1 hA (by simp)) (yAr1 hA (by simp)) hp0 hK)
def yP_MO : yPT := fun as g K => ∃ (p s n : Int), as = [(3, 90), (1, p), (1, s), (1, n)] ∧ (∀ (r : Int) (g' : yM), ((r = -1 ∧ ¬ (0 ≤ p ∧ p < 6 ∧ 0 ≤ s ∧ s < 5 ∧ n ≤ 60)) ∨ ((0 ≤ p ∧ p < 6 ∧ 0 ≤ s ∧ s < 5 ∧ n ≤ 60) ∧ ((r = -14 ∧ n < 0) ∨ (r = 1 ∧ 0 ≤ n)))) → (r ≠ 1 → g' = g) → (r = 1 → g' = yzr (yset (yset g 121 (Int.toNat p) (20 + s)) 122 (Int.toNat p) n) 123 (Int.toNat (60 * p)) 60) → K [(1, r)] g')
def yC_MO : yC := (193, (3, 85), yP_MO)
set_option maxRecDepth 8000 in
theorem yl_MO {K : List yV → yM → Prop} {Y : yNx} {g : yM} {p s n : Int} (hY : yCl zpD193 (zpZ, zpRS, zpP12, zpMT, [yC_IS, yC_WM], (3, 85), 1) K Y) (hp0 : 0 ≤ p ∧ p < 6) (hK : K [(1, 1)] (yzr g 123 (Int.toNat (60 * p)) 60)) : ∀ (d : Nat) (i : Int), i + d = 60 * p + 60 → 60 * p ≤ i → Y 57 [(3, 90), (1, p), (1, s), (1, n), (1, i)] [] (yzr g 123 (Int.toNat (60 * p)) (Int.toNat (i - 60 * p))) := by
  intro d
  induction d with
  | zero =>
    intro i hi h0
    refine yrun_ok (sp := fun pc => Nat.beq pc 57) hY 15 57 _ [] (yzr g 123 (Int.toNat (60 * p)) (Int.toNat (i - 60 * p))) ?_
    show (((yw ((yw (60 * p)) + 60)) ≤ i → (K [(1, 1)] (yzr g 123 (Int.toNat (60 * p)) (Int.toNat (i - 60 * p))))) ∧ (¬ ((yw ((yw (60 * p)) + 60)) ≤ i) → (((0 : Int) ≤ i ∧ i < ((360 : Nat) : Int)) ∧ (Y 57 [(3, 90), (1, p), (1, s), (1, n), (1, (yw (i + 1)))] [] (yset (yzr g 123 (Int.toNat (60 * p)) (Int.toNat (i - 60 * p))) 123 (Int.toNat i) 0)))))
    refine ⟨fun h1 => ?_, fun h1 => ?_⟩
    · have := yw_s ((yw (60 * p)) + 60)
      have := yw_s (60 * p)
      have e : Int.toNat (i - 60 * p) = 60 := by omega
      rw [e]
      exact hK
    · refine ⟨(by have := yw_s ((yw (60 * p)) + 60); have := yw_s (60 * p); omega), ?_⟩
      have := yw_s ((yw (60 * p)) + 60)
      have := yw_s (60 * p)
      omega
  | succ d ih =>
    intro i hi h0
    refine yrun_ok (sp := fun pc => Nat.beq pc 57) hY 15 57 _ [] (yzr g 123 (Int.toNat (60 * p)) (Int.toNat (i - 60 * p))) ?_
    show (((yw ((yw (60 * p)) + 60)) ≤ i → (K [(1, 1)] (yzr g 123 (Int.toNat (60 * p)) (Int.toNat (i - 60 * p))))) ∧ (¬ ((yw ((yw (60 * p)) + 60)) ≤ i) → (((0 : Int) ≤ i ∧ i < ((360 : Nat) : Int)) ∧ (Y 57 [(3, 90), (1, p), (1, s), (1, n), (1, (yw (i + 1)))] [] (yset (yzr g 123 (Int.toNat (60 * p)) (Int.toNat (i - 60 * p))) 123 (Int.toNat i) 0)))))
    refine ⟨fun h1 => ?_, fun h1 => ?_⟩
    · have := yw_s ((yw (60 * p)) + 60)
      have := yw_s (60 * p)
      have e : Int.toNat (i - 60 * p) = 60 := by omega
      rw [e]
      exact hK
    · refine ⟨(by have := yw_s ((yw (60 * p)) + 60); have := yw_s (60 * p); omega), ?_⟩
      rw [show (yw (i + 1)) = (i + 1) from by have := yw_s (i + 1); omega]
      have e2 := yzr_step g 123 (Int.toNat (60 * p)) (Int.toNat (i - 60 * p))
      rw [show Int.toNat (60 * p) + Int.toNat (i - 60 * p) = Int.toNat i by omega, show Int.toNat (i - 60 * p) + 1 = Int.toNat (i + 1 - 60 * p) by omega] at e2
      rw [e2]
      exact ih (i + 1) (by omega) (by omega)
set_option maxRecDepth 8000 in
theorem yv_MO {K : List yV → yM → Prop} {Y : yNx} {g : yM} {p s n : Int} (hY : yCl zpD193 (zpZ, zpRS, zpP12, zpMT, [yC_IS, yC_WM], (3, 85), 1) K Y) (hr_p : -2147483648 ≤ p ∧ p ≤ 2147483647) (hr_s : -2147483648 ≤ s ∧ s ≤ 2147483647) (hr_n : -2147483648 ≤ n ∧ n ≤ 2147483647) (hK : ∀ (r : Int) (g' : yM), ((r = -1 ∧ ¬ (0 ≤ p ∧ p < 6 ∧ 0 ≤ s ∧ s < 5 ∧ n ≤ 60)) ∨ ((0 ≤ p ∧ p < 6 ∧ 0 ≤ s ∧ s < 5 ∧ n ≤ 60) ∧ ((r = -14 ∧ n < 0) ∨ (r = 1 ∧ 0 ≤ n)))) → (r ≠ 1 → g' = g) → (r = 1 → g' = yzr (yset (yset g 121 (Int.toNat p) (20 + s)) 122 (Int.toNat p) n) 123 (Int.toNat (60 * p)) 60) → K [(1, r)] g') : Y 0 [(3, 90), (1, p), (1, s), (1, n), (0, 0)] [] g := by
  refine yrun_ok (sp := fun pc => Nat.beq pc 57) hY 31 0 _ [] g ?_
  show (∃ (d1 : Int), [(1, p)] = [(1, d1)] ∧ (∀ (r2 : Int), ((r2 = 1 ∧ 0 ≤ d1 ∧ d1 < 6) ∨ (r2 = 0 ∧ (d1 < 0 ∨ 6 ≤ d1))) → ((r2 = 0 → (K [(1, (-1))] g)) ∧ (¬ (r2 = 0) → (∃ (v5 a6 b7 : Int), [(2, s), (2, 0), (2, 4)] = [(2, v5), (2, a6), (2, b7)] ∧ (∀ (r8 : Int), ((r8 = 1 ∧ a6 ≤ v5 ∧ v5 ≤ b7) ∨ (r8 = 0 ∧ (v5 < a6 ∨ b7 < v5))) → ((r8 = 0 → (K [(1, (-1))] g)) ∧ (¬ (r8 = 0) → ((n ≤ 60 → ((0 ≤ n → (((0 : Int) ≤ p ∧ p < ((6 : Nat) : Int)) ∧ (((0 : Int) ≤ p ∧ p < ((6 : Nat) : Int)) ∧ (Y 57 [(3, 90), (1, p), (1, s), (1, n), (1, (yw (60 * p)))] [] (yset (yset g 121 (Int.toNat p) (yw (20 + s))) 122 (Int.toNat p) n))))) ∧ (¬ (0 ≤ n) → (K [(1, (-14))] g)))) ∧ (¬ (n ≤ 60) → (K [(1, (-1))] g)))))))))))
  refine ⟨_, rfl, ?_⟩
  intro r2 p30
  refine ⟨fun h4 => ?_, fun h4 => ?_⟩
  · exact hK _ _ (by first | omega | exact fun _ => rfl | exact fun h => absurd h (by omega) | exact rfl | exact fun _ _ => rfl | exact fun h _ => absurd h (by omega) | exact fun _ h => absurd h (by omega)) (by first | omega | exact fun _ => rfl | exact fun h => absurd h (by omega) | exact rfl | exact fun _ _ => rfl | exact fun h _ => absurd h (by omega) | exact fun _ h => absurd h (by omega)) (by first | omega | exact fun _ => rfl | exact fun h => absurd h (by omega) | exact rfl | exact fun _ _ => rfl | exact fun h _ => absurd h (by omega) | exact fun _ h => absurd h (by omega))
  · refine ⟨_, _, _, rfl, ?_⟩
    intro r8 p90
    refine ⟨fun h10 => ?_, fun h10 => ?_⟩
    · exact hK _ _ (by first | omega | exact fun _ => rfl | exact fun h => absurd h (by omega) | exact rfl | exact fun _ _ => rfl | exact fun h _ => absurd h (by omega) | exact fun _ h => absurd h (by omega)) (by first | omega | exact fun _ => rfl | exact fun h => absurd h (by omega) | exact rfl | exact fun _ _ => rfl | exact fun h _ => absurd h (by omega) | exact fun _ h => absurd h (by omega)) (by first | omega | exact fun _ => rfl | exact fun h => absurd h (by omega) | exact rfl | exact fun _ _ => rfl | exact fun h _ => absurd h (by omega) | exact fun _ h => absurd h (by omega))
    · refine ⟨fun h11 => ?_, fun h11 => ?_⟩
      · refine ⟨fun h12 => ?_, fun h12 => ?_⟩
        · refine ⟨(by omega), ?_⟩
          refine ⟨(by omega), ?_⟩
          rw [show (yw (60 * p)) = (60 * p) from by have := yw_s (60 * p); omega]
          rw [show (yw (20 + s)) = (20 + s) from by have := yw_s (20 + s); omega]
          have e := yl_MO (g := yset (yset g 121 (Int.toNat p) (20 + s)) 122 (Int.toNat p) n) (s := s) (n := n) hY (by omega) (hK _ _ (by omega) (fun h => absurd rfl h) (fun _ => rfl)) 60 (60 * p) (by omega) (by omega)
          rw [show Int.toNat (60 * p - 60 * p) = 0 by omega, yzr_0] at e
          exact e
        · exact hK _ _ (by first | omega | exact fun _ => rfl | exact fun h => absurd h (by omega) | exact rfl | exact fun _ _ => rfl | exact fun h _ => absurd h (by omega) | exact fun _ h => absurd h (by omega)) (by first | omega | exact fun _ => rfl | exact fun h => absurd h (by omega) | exact rfl | exact fun _ _ => rfl | exact fun h _ => absurd h (by omega) | exact fun _ h => absurd h (by omega)) (by first | omega | exact fun _ => rfl | exact fun h => absurd h (by omega) | exact rfl | exact fun _ _ => rfl | exact fun h _ => absurd h (by omega) | exact fun _ h => absurd h (by omega))
      · exact hK _ _ (by first | omega | exact fun _ => rfl | exact fun h => absurd h (by omega) | exact rfl | exact fun _ _ => rfl | exact fun h _ => absurd h (by omega) | exact fun _ h => absurd h (by omega)) (by first | omega | exact fun _ => rfl | exact fun h => absurd h (by omega) | exact rfl | exact fun _ _ => rfl | exact fun h _ => absurd h (by omega) | exact fun _ h => absurd h (by omega)) (by first | omega | exact fun _ => rfl | exact fun h => absurd h (by omega) | exact rfl | exact fun _ _ => rfl | exact fun h _ => absurd h (by omega) | exact fun _ h => absurd h (by omega))
theorem yM_MO {l : Launch} {Ts : List Cond} {cl : List vw_C} {RO : zRO} (H : zHyp Ts cl RO) : yMet l Ts cl zpZ RO zpMT yC_MO := ymet_of2 H.1 H.2.1 zpDj H.2.2.1 yRb H.p12 (ymets_cons (yM_IS H) (ymets_cons (yM_WM H) ymets_nil)) (zrc1 rfl) (plainFor_of_name zpy12) zpDk193 (fun as g K Y h hA hY => by
  obtain ⟨p, s, n, rfl, hK⟩ := h
  exact yv_MO hY (yAr1 hA (by simp)) (yAr1 hA (by simp)) (yAr1 hA (by simp)) hK)
def yP_MU : yPT := fun as g K => ∃ (c a w : Int), as = [(3, 90), (1, c), (1, a), (1, w)] ∧ (0 ≤ g 90 38 ∧ g 90 38 ≤ 20) ∧ (∀ (r : Int) (g' : yM), ((r = -1 ∧ ¬ (0 ≤ c ∧ c < 8 ∧ 0 ≤ a ∧ a < 10000 ∧ 0 ≤ w ∧ w < 100)) ∨ ((0 ≤ c ∧ c < 8 ∧ 0 ≤ a ∧ a < 10000 ∧ 0 ≤ w ∧ w < 100) ∧ ((r = -3 ∧ g 90 38 = 20) ∨ (r = g 90 38 ∧ g 90 38 < 20)))) → (r < 0 → g' = g) → (0 ≤ r → g' = yset (yset (yset (yset (yset g 114 (Int.toNat (g 90 38)) c) 115 (Int.toNat (g 90 38)) (yb (fun x y => x / y) a 100)) 116 (Int.toNat (g 90 38)) (yb (fun x y => x - x / y * y) a 100)) 117 (Int.toNat (g 90 38)) w) 90 38 (g 90 38 + 1)) → K [(1, r)] g')
def yC_MU : yC := (194, (2, 65), yP_MU)
set_option maxRecDepth 8000 in
theorem yv_MU {K : List yV → yM → Prop} {Y : yNx} {g : yM} {c a w : Int} (hY : yCl zpD194 (zpZ, zpRS, zpP12, zpMT, [yC_WM], (2, 65), 1) K Y) (hr_c : -2147483648 ≤ c ∧ c ≤ 2147483647) (hr_a : -2147483648 ≤ a ∧ a ≤ 2147483647) (hr_w : -2147483648 ≤ w ∧ w ≤ 2147483647) (hp0 : 0 ≤ g 90 38 ∧ g 90 38 ≤ 20) (hK : ∀ (r : Int) (g' : yM), ((r = -1 ∧ ¬ (0 ≤ c ∧ c < 8 ∧ 0 ≤ a ∧ a < 10000 ∧ 0 ≤ w ∧ w < 100)) ∨ ((0 ≤ c ∧ c < 8 ∧ 0 ≤ a ∧ a < 10000 ∧ 0 ≤ w ∧ w < 100) ∧ ((r = -3 ∧ g 90 38 = 20) ∨ (r = g 90 38 ∧ g 90 38 < 20)))) → (r < 0 → g' = g) → (0 ≤ r → g' = yset (yset (yset (yset (yset g 114 (Int.toNat (g 90 38)) c) 115 (Int.toNat (g 90 38)) (yb (fun x y => x / y) a 100)) 116 (Int.toNat (g 90 38)) (yb (fun x y => x - x / y * y) a 100)) 117 (Int.toNat (g 90 38)) w) 90 38 (g 90 38 + 1)) → K [(1, r)] g') : Y 0 [(3, 90), (1, c), (1, a), (1, w)] [] g := by
  refine yrun_ok (sp := fun pc => false) hY 61 0 _ [] g ?_
  show (∃ (v1 a2 b3 : Int), [(2, c), (2, 0), (2, 7)] = [(2, v1), (2, a2), (2, b3)] ∧ (∀ (r4 : Int), ((r4 = 1 ∧ a2 ≤ v1 ∧ v1 ≤ b3) ∨ (r4 = 0 ∧ (v1 < a2 ∨ b3 < v1))) → ((r4 = 0 → (K [(1, (-1))] g)) ∧ (¬ (r4 = 0) → (∃ (v7 a8 b9 : Int), [(2, a), (2, 0), (2, 9999)] = [(2, v7), (2, a8), (2, b9)] ∧ (∀ (r10 : Int), ((r10 = 1 ∧ a8 ≤ v7 ∧ v7 ≤ b9) ∨ (r10 = 0 ∧ (v7 < a8 ∨ b9 < v7))) → ((r10 = 0 → (K [(1, (-1))] g)) ∧ (¬ (r10 = 0) → (∃ (v13 a14 b15 : Int), [(2, w), (2, 0), (2, 99)] = [(2, v13), (2, a14), (2, b15)] ∧ (∀ (r16 : Int), ((r16 = 1 ∧ a14 ≤ v13 ∧ v13 ≤ b15) ∨ (r16 = 0 ∧ (v13 < a14 ∨ b15 < v13))) → ((r16 ≠ 0 → (((g 90 38) ≠ 20 → (((0 : Int) ≤ (g 90 38) ∧ (g 90 38) < ((20 : Nat) : Int)) ∧ ((100 : Int) ≠ 0 ∧ (((0 : Int) ≤ ((yset g 114 (Int.toNat (g 90 38)) c) 90 38) ∧ ((yset g 114 (Int.toNat (g 90 38)) c) 90 38) < ((20 : Nat) : Int)) ∧ ((100 : Int) ≠ 0 ∧ (((0 : Int) ≤ ((yset (yset g 114 (Int.toNat (g 90 38)) c) 115 (Int.toNat ((yset g 114 (Int.toNat (g 90 38)) c) 90 38)) (yb (fun x y => x / y) a 100)) 90 38) ∧ ((yset (yset g 114 (Int.toNat (g 90 38)) c) 115 (Int.toNat ((yset g 114 (Int.toNat (g 90 38)) c) 90 38)) (yb (fun x y => x / y) a 100)) 90 38) < ((20 : Nat) : Int)) ∧ (((0 : Int) ≤ ((yset (yset (yset g 114 (Int.toNat (g 90 38)) c) 115 (Int.toNat ((yset g 114 (Int.toNat (g 90 38)) c) 90 38)) (yb (fun x y => x / y) a 100)) 116 (Int.toNat ((yset (yset g 114 (Int.toNat (g 90 38)) c) 115 (Int.toNat ((yset g 114 (Int.toNat (g 90 38)) c) 90 38)) (yb (fun x y => x / y) a 100)) 90 38)) (yb (fun x y => x - x / y * y) a 100)) 90 38) ∧ ((yset (yset (yset g 114 (Int.toNat (g 90 38)) c) 115 (Int.toNat ((yset g 114 (Int.toNat (g 90 38)) c) 90 38)) (yb (fun x y => x / y) a 100)) 116 (Int.toNat ((yset (yset g 114 (Int.toNat (g 90 38)) c) 115 (Int.toNat ((yset g 114 (Int.toNat (g 90 38)) c) 90 38)) (yb (fun x y => x / y) a 100)) 90 38)) (yb (fun x y => x - x / y * y) a 100)) 90 38) < ((20 : Nat) : Int)) ∧ (K [(1, (yw (((yset (yset (yset (yset (yset g 114 (Int.toNat (g 90 38)) c) 115 (Int.toNat ((yset g 114 (Int.toNat (g 90 38)) c) 90 38)) (yb (fun x y => x / y) a 100)) 116 (Int.toNat ((yset (yset g 114 (Int.toNat (g 90 38)) c) 115 (Int.toNat ((yset g 114 (Int.toNat (g 90 38)) c) 90 38)) (yb (fun x y => x / y) a 100)) 90 38)) (yb (fun x y => x - x / y * y) a 100)) 117 (Int.toNat ((yset (yset (yset g 114 (Int.toNat (g 90 38)) c) 115 (Int.toNat ((yset g 114 (Int.toNat (g 90 38)) c) 90 38)) (yb (fun x y => x / y) a 100)) 116 (Int.toNat ((yset (yset g 114 (Int.toNat (g 90 38)) c) 115 (Int.toNat ((yset g 114 (Int.toNat (g 90 38)) c) 90 38)) (yb (fun x y => x / y) a 100)) 90 38)) (yb (fun x y => x - x / y * y) a 100)) 90 38)) w) 90 38 (yw (((yset (yset (yset (yset g 114 (Int.toNat (g 90 38)) c) 115 (Int.toNat ((yset g 114 (Int.toNat (g 90 38)) c) 90 38)) (yb (fun x y => x / y) a 100)) 116 (Int.toNat ((yset (yset g 114 (Int.toNat (g 90 38)) c) 115 (Int.toNat ((yset g 114 (Int.toNat (g 90 38)) c) 90 38)) (yb (fun x y => x / y) a 100)) 90 38)) (yb (fun x y => x - x / y * y) a 100)) 117 (Int.toNat ((yset (yset (yset g 114 (Int.toNat (g 90 38)) c) 115 (Int.toNat ((yset g 114 (Int.toNat (g 90 38)) c) 90 38)) (yb (fun x y => x / y) a 100)) 116 (Int.toNat ((yset (yset g 114 (Int.toNat (g 90 38)) c) 115 (Int.toNat ((yset g 114 (Int.toNat (g 90 38)) c) 90 38)) (yb (fun x y => x / y) a 100)) 90 38)) (yb (fun x y => x - x / y * y) a 100)) 90 38)) w) 90 38) + 1))) 90 38) - 1)))] (yset (yset (yset (yset (yset g 114 (Int.toNat (g 90 38)) c) 115 (Int.toNat ((yset g 114 (Int.toNat (g 90 38)) c) 90 38)) (yb (fun x y => x / y) a 100)) 116 (Int.toNat ((yset (yset g 114 (Int.toNat (g 90 38)) c) 115 (Int.toNat ((yset g 114 (Int.toNat (g 90 38)) c) 90 38)) (yb (fun x y => x / y) a 100)) 90 38)) (yb (fun x y => x - x / y * y) a 100)) 117 (Int.toNat ((yset (yset (yset g 114 (Int.toNat (g 90 38)) c) 115 (Int.toNat ((yset g 114 (Int.toNat (g 90 38)) c) 90 38)) (yb (fun x y => x / y) a 100)) 116 (Int.toNat ((yset (yset g 114 (Int.toNat (g 90 38)) c) 115 (Int.toNat ((yset g 114 (Int.toNat (g 90 38)) c) 90 38)) (yb (fun x y => x / y) a 100)) 90 38)) (yb (fun x y => x - x / y * y) a 100)) 90 38)) w) 90 38 (yw (((yset (yset (yset (yset g 114 (Int.toNat (g 90 38)) c) 115 (Int.toNat ((yset g 114 (Int.toNat (g 90 38)) c) 90 38)) (yb (fun x y => x / y) a 100)) 116 (Int.toNat ((yset (yset g 114 (Int.toNat (g 90 38)) c) 115 (Int.toNat ((yset g 114 (Int.toNat (g 90 38)) c) 90 38)) (yb (fun x y => x / y) a 100)) 90 38)) (yb (fun x y => x - x / y * y) a 100)) 117 (Int.toNat ((yset (yset (yset g 114 (Int.toNat (g 90 38)) c) 115 (Int.toNat ((yset g 114 (Int.toNat (g 90 38)) c) 90 38)) (yb (fun x y => x / y) a 100)) 116 (Int.toNat ((yset (yset g 114 (Int.toNat (g 90 38)) c) 115 (Int.toNat ((yset g 114 (Int.toNat (g 90 38)) c) 90 38)) (yb (fun x y => x / y) a 100)) 90 38)) (yb (fun x y => x - x / y * y) a 100)) 90 38)) w) 90 38) + 1))))))))))) ∧ (¬ ((g 90 38) ≠ 20) → (K [(1, (-3))] g)))) ∧ (¬ (r16 ≠ 0) → (K [(1, (-1))] g)))))))))))))
  refine ⟨_, _, _, rfl, ?_⟩
  intro r4 p50
  refine ⟨fun h6 => ?_, fun h6 => ?_⟩
  · exact hK _ _ (by first | omega | exact fun _ => rfl | exact fun h => absurd h (by omega) | exact rfl | exact fun _ _ => rfl | exact fun h _ => absurd h (by omega) | exact fun _ h => absurd h (by omega)) (by first | omega | exact fun _ => rfl | exact fun h => absurd h (by omega) | exact rfl | exact fun _ _ => rfl | exact fun h _ => absurd h (by omega) | exact fun _ h => absurd h (by omega)) (by first | omega | exact fun _ => rfl | exact fun h => absurd h (by omega) | exact rfl | exact fun _ _ => rfl | exact fun h _ => absurd h (by omega) | exact fun _ h => absurd h (by omega))
  · refine ⟨_, _, _, rfl, ?_⟩
    intro r10 p110
    refine ⟨fun h12 => ?_, fun h12 => ?_⟩
    · exact hK _ _ (by first | omega | exact fun _ => rfl | exact fun h => absurd h (by omega) | exact rfl | exact fun _ _ => rfl | exact fun h _ => absurd h (by omega) | exact fun _ h => absurd h (by omega)) (by first | omega | exact fun _ => rfl | exact fun h => absurd h (by omega) | exact rfl | exact fun _ _ => rfl | exact fun h _ => absurd h (by omega) | exact fun _ h => absurd h (by omega)) (by first | omega | exact fun _ => rfl | exact fun h => absurd h (by omega) | exact rfl | exact fun _ _ => rfl | exact fun h _ => absurd h (by omega) | exact fun _ h => absurd h (by omega))
    · refine ⟨_, _, _, rfl, ?_⟩
      intro r16 p170
      refine ⟨fun h18 => ?_, fun h18 => ?_⟩
      · refine ⟨fun h19 => ?_, fun h19 => ?_⟩
        · refine ⟨(by omega), ?_⟩
          refine ⟨(by omega), ?_⟩
          refine ⟨(by have := show ((yset g 114 (Int.toNat (g 90 38)) c) 90 38) = (g 90 38) from (by simp [yset_ap, ycpy_ap]); omega), ?_⟩
          refine ⟨(by omega), ?_⟩
          refine ⟨(by have := show ((yset g 114 (Int.toNat (g 90 38)) c) 90 38) = (g 90 38) from (by simp [yset_ap, ycpy_ap]); have := show ((yset (yset g 114 (Int.toNat (g 90 38)) c) 115 (Int.toNat ((yset g 114 (Int.toNat (g 90 38)) c) 90 38)) (yb (fun x y => x / y) a 100)) 90 38) = (g 90 38) from (by simp [yset_ap, ycpy_ap]); omega), ?_⟩
          refine ⟨(by have := show ((yset g 114 (Int.toNat (g 90 38)) c) 90 38) = (g 90 38) from (by simp [yset_ap, ycpy_ap]); have := show ((yset (yset g 114 (Int.toNat (g 90 38)) c) 115 (Int.toNat ((yset g 114 (Int.toNat (g 90 38)) c) 90 38)) (yb (fun x y => x / y) a 100)) 90 38) = (g 90 38) from (by simp [yset_ap, ycpy_ap]); have := show ((yset (yset (yset g 114 (Int.toNat (g 90 38)) c) 115 (Int.toNat ((yset g 114 (Int.toNat (g 90 38)) c) 90 38)) (yb (fun x y => x / y) a 100)) 116 (Int.toNat ((yset (yset g 114 (Int.toNat (g 90 38)) c) 115 (Int.toNat ((yset g 114 (Int.toNat (g 90 38)) c) 90 38)) (yb (fun x y => x / y) a 100)) 90 38)) (yb (fun x y => x - x / y * y) a 100)) 90 38) = (g 90 38) from (by simp [yset_ap, ycpy_ap]); omega), ?_⟩
          have := show ((yset g 114 (Int.toNat (g 90 38)) c) 90 38) = (g 90 38) from (by simp [yset_ap, ycpy_ap])
          have := show ((yset (yset g 114 (Int.toNat (g 90 38)) c) 115 (Int.toNat ((yset g 114 (Int.toNat (g 90 38)) c) 90 38)) (yb (fun x y => x / y) a 100)) 90 38) = (g 90 38) from (by simp [yset_ap, ycpy_ap])
          have := show ((yset (yset (yset g 114 (Int.toNat (g 90 38)) c) 115 (Int.toNat ((yset g 114 (Int.toNat (g 90 38)) c) 90 38)) (yb (fun x y => x / y) a 100)) 116 (Int.toNat ((yset (yset g 114 (Int.toNat (g 90 38)) c) 115 (Int.toNat ((yset g 114 (Int.toNat (g 90 38)) c) 90 38)) (yb (fun x y => x / y) a 100)) 90 38)) (yb (fun x y => x - x / y * y) a 100)) 90 38) = (g 90 38) from (by simp [yset_ap, ycpy_ap])
          have := show ((yset (yset (yset (yset g 114 (Int.toNat (g 90 38)) c) 115 (Int.toNat ((yset g 114 (Int.toNat (g 90 38)) c) 90 38)) (yb (fun x y => x / y) a 100)) 116 (Int.toNat ((yset (yset g 114 (Int.toNat (g 90 38)) c) 115 (Int.toNat ((yset g 114 (Int.toNat (g 90 38)) c) 90 38)) (yb (fun x y => x / y) a 100)) 90 38)) (yb (fun x y => x - x / y * y) a 100)) 117 (Int.toNat ((yset (yset (yset g 114 (Int.toNat (g 90 38)) c) 115 (Int.toNat ((yset g 114 (Int.toNat (g 90 38)) c) 90 38)) (yb (fun x y => x / y) a 100)) 116 (Int.toNat ((yset (yset g 114 (Int.toNat (g 90 38)) c) 115 (Int.toNat ((yset g 114 (Int.toNat (g 90 38)) c) 90 38)) (yb (fun x y => x / y) a 100)) 90 38)) (yb (fun x y => x - x / y * y) a 100)) 90 38)) w) 90 38) = (g 90 38) from (by simp [yset_ap, ycpy_ap])
          have := show ((yset (yset (yset (yset (yset g 114 (Int.toNat (g 90 38)) c) 115 (Int.toNat ((yset g 114 (Int.toNat (g 90 38)) c) 90 38)) (yb (fun x y => x / y) a 100)) 116 (Int.toNat ((yset (yset g 114 (Int.toNat (g 90 38)) c) 115 (Int.toNat ((yset g 114 (Int.toNat (g 90 38)) c) 90 38)) (yb (fun x y => x / y) a 100)) 90 38)) (yb (fun x y => x - x / y * y) a 100)) 117 (Int.toNat ((yset (yset (yset g 114 (Int.toNat (g 90 38)) c) 115 (Int.toNat ((yset g 114 (Int.toNat (g 90 38)) c) 90 38)) (yb (fun x y => x / y) a 100)) 116 (Int.toNat ((yset (yset g 114 (Int.toNat (g 90 38)) c) 115 (Int.toNat ((yset g 114 (Int.toNat (g 90 38)) c) 90 38)) (yb (fun x y => x / y) a 100)) 90 38)) (yb (fun x y => x - x / y * y) a 100)) 90 38)) w) 90 38 (yw (((yset (yset (yset (yset g 114 (Int.toNat (g 90 38)) c) 115 (Int.toNat ((yset g 114 (Int.toNat (g 90 38)) c) 90 38)) (yb (fun x y => x / y) a 100)) 116 (Int.toNat ((yset (yset g 114 (Int.toNat (g 90 38)) c) 115 (Int.toNat ((yset g 114 (Int.toNat (g 90 38)) c) 90 38)) (yb (fun x y => x / y) a 100)) 90 38)) (yb (fun x y => x - x / y * y) a 100)) 117 (Int.toNat ((yset (yset (yset g 114 (Int.toNat (g 90 38)) c) 115 (Int.toNat ((yset g 114 (Int.toNat (g 90 38)) c) 90 38)) (yb (fun x y => x / y) a 100)) 116 (Int.toNat ((yset (yset g 114 (Int.toNat (g 90 38)) c) 115 (Int.toNat ((yset g 114 (Int.toNat (g 90 38)) c) 90 38)) (yb (fun x y => x / y) a 100)) 90 38)) (yb (fun x y => x - x / y * y) a 100)) 90 38)) w) 90 38) + 1))) 90 38) = (yw (((yset (yset (yset (yset g 114 (Int.toNat (g 90 38)) c) 115 (Int.toNat ((yset g 114 (Int.toNat (g 90 38)) c) 90 38)) (yb (fun x y => x / y) a 100)) 116 (Int.toNat ((yset (yset g 114 (Int.toNat (g 90 38)) c) 115 (Int.toNat ((yset g 114 (Int.toNat (g 90 38)) c) 90 38)) (yb (fun x y => x / y) a 100)) 90 38)) (yb (fun x y => x - x / y * y) a 100)) 117 (Int.toNat ((yset (yset (yset g 114 (Int.toNat (g 90 38)) c) 115 (Int.toNat ((yset g 114 (Int.toNat (g 90 38)) c) 90 38)) (yb (fun x y => x / y) a 100)) 116 (Int.toNat ((yset (yset g 114 (Int.toNat (g 90 38)) c) 115 (Int.toNat ((yset g 114 (Int.toNat (g 90 38)) c) 90 38)) (yb (fun x y => x / y) a 100)) 90 38)) (yb (fun x y => x - x / y * y) a 100)) 90 38)) w) 90 38) + 1)) from (by simp [yset_ap, ycpy_ap])
          rw [show ((yset (yset (yset (yset (yset g 114 (Int.toNat (g 90 38)) c) 115 (Int.toNat ((yset g 114 (Int.toNat (g 90 38)) c) 90 38)) (yb (fun x y => x / y) a 100)) 116 (Int.toNat ((yset (yset g 114 (Int.toNat (g 90 38)) c) 115 (Int.toNat ((yset g 114 (Int.toNat (g 90 38)) c) 90 38)) (yb (fun x y => x / y) a 100)) 90 38)) (yb (fun x y => x - x / y * y) a 100)) 117 (Int.toNat ((yset (yset (yset g 114 (Int.toNat (g 90 38)) c) 115 (Int.toNat ((yset g 114 (Int.toNat (g 90 38)) c) 90 38)) (yb (fun x y => x / y) a 100)) 116 (Int.toNat ((yset (yset g 114 (Int.toNat (g 90 38)) c) 115 (Int.toNat ((yset g 114 (Int.toNat (g 90 38)) c) 90 38)) (yb (fun x y => x / y) a 100)) 90 38)) (yb (fun x y => x - x / y * y) a 100)) 90 38)) w) 90 38 (yw (((yset (yset (yset (yset g 114 (Int.toNat (g 90 38)) c) 115 (Int.toNat ((yset g 114 (Int.toNat (g 90 38)) c) 90 38)) (yb (fun x y => x / y) a 100)) 116 (Int.toNat ((yset (yset g 114 (Int.toNat (g 90 38)) c) 115 (Int.toNat ((yset g 114 (Int.toNat (g 90 38)) c) 90 38)) (yb (fun x y => x / y) a 100)) 90 38)) (yb (fun x y => x - x / y * y) a 100)) 117 (Int.toNat ((yset (yset (yset g 114 (Int.toNat (g 90 38)) c) 115 (Int.toNat ((yset g 114 (Int.toNat (g 90 38)) c) 90 38)) (yb (fun x y => x / y) a 100)) 116 (Int.toNat ((yset (yset g 114 (Int.toNat (g 90 38)) c) 115 (Int.toNat ((yset g 114 (Int.toNat (g 90 38)) c) 90 38)) (yb (fun x y => x / y) a 100)) 90 38)) (yb (fun x y => x - x / y * y) a 100)) 90 38)) w) 90 38) + 1))) 90 38) = (yw (((yset (yset (yset (yset g 114 (Int.toNat (g 90 38)) c) 115 (Int.toNat ((yset g 114 (Int.toNat (g 90 38)) c) 90 38)) (yb (fun x y => x / y) a 100)) 116 (Int.toNat ((yset (yset g 114 (Int.toNat (g 90 38)) c) 115 (Int.toNat ((yset g 114 (Int.toNat (g 90 38)) c) 90 38)) (yb (fun x y => x / y) a 100)) 90 38)) (yb (fun x y => x - x / y * y) a 100)) 117 (Int.toNat ((yset (yset (yset g 114 (Int.toNat (g 90 38)) c) 115 (Int.toNat ((yset g 114 (Int.toNat (g 90 38)) c) 90 38)) (yb (fun x y => x / y) a 100)) 116 (Int.toNat ((yset (yset g 114 (Int.toNat (g 90 38)) c) 115 (Int.toNat ((yset g 114 (Int.toNat (g 90 38)) c) 90 38)) (yb (fun x y => x / y) a 100)) 90 38)) (yb (fun x y => x - x / y * y) a 100)) 90 38)) w) 90 38) + 1)) from by simp [yset_ap, ycpy_ap]]
          rw [show ((yset (yset (yset (yset g 114 (Int.toNat (g 90 38)) c) 115 (Int.toNat ((yset g 114 (Int.toNat (g 90 38)) c) 90 38)) (yb (fun x y => x / y) a 100)) 116 (Int.toNat ((yset (yset g 114 (Int.toNat (g 90 38)) c) 115 (Int.toNat ((yset g 114 (Int.toNat (g 90 38)) c) 90 38)) (yb (fun x y => x / y) a 100)) 90 38)) (yb (fun x y => x - x / y * y) a 100)) 117 (Int.toNat ((yset (yset (yset g 114 (Int.toNat (g 90 38)) c) 115 (Int.toNat ((yset g 114 (Int.toNat (g 90 38)) c) 90 38)) (yb (fun x y => x / y) a 100)) 116 (Int.toNat ((yset (yset g 114 (Int.toNat (g 90 38)) c) 115 (Int.toNat ((yset g 114 (Int.toNat (g 90 38)) c) 90 38)) (yb (fun x y => x / y) a 100)) 90 38)) (yb (fun x y => x - x / y * y) a 100)) 90 38)) w) 90 38) = (g 90 38) from by simp [yset_ap, ycpy_ap]]
          rw [show ((yset (yset (yset g 114 (Int.toNat (g 90 38)) c) 115 (Int.toNat ((yset g 114 (Int.toNat (g 90 38)) c) 90 38)) (yb (fun x y => x / y) a 100)) 116 (Int.toNat ((yset (yset g 114 (Int.toNat (g 90 38)) c) 115 (Int.toNat ((yset g 114 (Int.toNat (g 90 38)) c) 90 38)) (yb (fun x y => x / y) a 100)) 90 38)) (yb (fun x y => x - x / y * y) a 100)) 90 38) = (g 90 38) from by simp [yset_ap, ycpy_ap]]
          rw [show ((yset (yset g 114 (Int.toNat (g 90 38)) c) 115 (Int.toNat ((yset g 114 (Int.toNat (g 90 38)) c) 90 38)) (yb (fun x y => x / y) a 100)) 90 38) = (g 90 38) from by simp [yset_ap, ycpy_ap]]
          rw [show ((yset g 114 (Int.toNat (g 90 38)) c) 90 38) = (g 90 38) from by simp [yset_ap, ycpy_ap]]
          rw [show (yw ((yw ((g 90 38) + 1)) - 1)) = (((g 90 38) + 1) - 1) from by have := yw_s ((yw ((g 90 38) + 1)) - 1); have := yw_s ((g 90 38) + 1); omega]
          rw [show (yw ((g 90 38) + 1)) = ((g 90 38) + 1) from by have := yw_s ((g 90 38) + 1); omega]
          exact hK _ _ (by first | omega | exact fun _ => rfl | exact fun h => absurd h (by omega) | exact rfl | exact fun _ _ => rfl | exact fun h _ => absurd h (by omega) | exact fun _ h => absurd h (by omega)) (by first | omega | exact fun _ => rfl | exact fun h => absurd h (by omega) | exact rfl | exact fun _ _ => rfl | exact fun h _ => absurd h (by omega) | exact fun _ h => absurd h (by omega)) (by first | omega | exact fun _ => rfl | exact fun h => absurd h (by omega) | exact rfl | exact fun _ _ => rfl | exact fun h _ => absurd h (by omega) | exact fun _ h => absurd h (by omega))
        · exact hK _ _ (by first | omega | exact fun _ => rfl | exact fun h => absurd h (by omega) | exact rfl | exact fun _ _ => rfl | exact fun h _ => absurd h (by omega) | exact fun _ h => absurd h (by omega)) (by first | omega | exact fun _ => rfl | exact fun h => absurd h (by omega) | exact rfl | exact fun _ _ => rfl | exact fun h _ => absurd h (by omega) | exact fun _ h => absurd h (by omega)) (by first | omega | exact fun _ => rfl | exact fun h => absurd h (by omega) | exact rfl | exact fun _ _ => rfl | exact fun h _ => absurd h (by omega) | exact fun _ h => absurd h (by omega))
      · exact hK _ _ (by first | omega | exact fun _ => rfl | exact fun h => absurd h (by omega) | exact rfl | exact fun _ _ => rfl | exact fun h _ => absurd h (by omega) | exact fun _ h => absurd h (by omega)) (by first | omega | exact fun _ => rfl | exact fun h => absurd h (by omega) | exact rfl | exact fun _ _ => rfl | exact fun h _ => absurd h (by omega) | exact fun _ h => absurd h (by omega)) (by first | omega | exact fun _ => rfl | exact fun h => absurd h (by omega) | exact rfl | exact fun _ _ => rfl | exact fun h _ => absurd h (by omega) | exact fun _ h => absurd h (by omega))
theorem yM_MU {l : Launch} {Ts : List Cond} {cl : List vw_C} {RO : zRO} (H : zHyp Ts cl RO) : yMet l Ts cl zpZ RO zpMT yC_MU := ymet_of2 H.1 H.2.1 zpDj H.2.2.1 yRb H.p12 (ymets_cons (yM_WM H) ymets_nil) (zrc1 rfl) (plainFor_of_name zpy12) zpDk194 (fun as g K Y h hA hY => by
  obtain ⟨c, a, w, rfl, hp0, hK⟩ := h
  exact yv_MU hY (yAr1 hA (by simp)) (yAr1 hA (by simp)) (yAr1 hA (by simp)) hp0 hK)
