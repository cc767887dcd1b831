/-! TAKEN OF BOTH SIDES -/
def yP_RA : yPT := fun as g K => ∃ (p : Int), as = [(3, 9), (1, p)] ∧ (0 ≤ p ∧ p < 6) ∧ (∀ (r : Int), ((g 40 (Int.toNat p) = -2 → r = g 41 (Int.toNat p)) ∧ (g 40 (Int.toNat p) ≠ -2 → r = -1)) → K [(1, r)] g)
def yC_RA : yC := (77, (1, 40), yP_RA)
set_option maxRecDepth 8000 in
theorem yv_RA {K : List yV → yM → Prop} {Y : yNx} {g : yM} {p : Int} (hY : yCl zpD77 (zpZ, zpRS, zpP6, zpMT, [], (1, 40), 1) K Y) (hr_p : -2147483648 ≤ p ∧ p ≤ 2147483647) (hp0 : 0 ≤ p ∧ p < 6) (hK : ∀ (r : Int), ((g 40 (Int.toNat p) = -2 → r = g 41 (Int.toNat p)) ∧ (g 40 (Int.toNat p) ≠ -2 → r = -1)) → K [(1, r)] g) : Y 0 [(3, 9), (1, p)] [] g := by
  refine yrun_ok (sp := fun pc => false) hY 12 0 _ [] g ?_
  show (((0 : Int) ≤ p ∧ p < ((6 : Nat) : Int)) ∧ (((g 40 (Int.toNat p)) ≠ (-2) → (K [(1, (-1))] g)) ∧ (¬ ((g 40 (Int.toNat p)) ≠ (-2)) → (((0 : Int) ≤ p ∧ p < ((6 : Nat) : Int)) ∧ (K [(1, (g 41 (Int.toNat p)))] g)))))
  refine ⟨(by omega), ?_⟩
  refine ⟨fun h1 => ?_, fun h1 => ?_⟩
  · exact hK _ (by first | omega | exact fun _ => rfl | exact fun h => absurd h (by omega) | exact rfl | exact fun _ _ => rfl | exact fun h _ => absurd h (by omega) | exact fun _ h => absurd h (by omega))
  · refine ⟨(by omega), ?_⟩
    exact hK _ (by first | omega | exact fun _ => rfl | exact fun h => absurd h (by omega) | exact rfl | exact fun _ _ => rfl | exact fun h _ => absurd h (by omega) | exact fun _ h => absurd h (by omega))
theorem yM_RA {l : Launch} {Ts : List Cond} {cl : List vw_C} {RO : zRO} (H : zHyp Ts cl RO) : yMet l Ts cl zpZ RO zpMT yC_RA := ymet_of2 H.1 H.2.1 zpDj H.2.2.1 yRb H.p6 ymets_nil (zrc1 rfl) (plainFor_of_name zpy6) zpDk77 (fun as g K Y h hA hY => by
  obtain ⟨p, rfl, hp0, hK⟩ := h
  exact yv_RA hY (yAr1 hA (by simp)) hp0 hK)
/-- a kind is another one, or under it -/
def yund (c a : Int) : Prop := ((c = 0 ∧ (a = 0)) ∨ (c = 1 ∧ (a = 1 ∨ a = 0)) ∨ (c = 2 ∧ (a = 2 ∨ a = 0)) ∨ (c = 3 ∧ (a = 3 ∨ a = 1 ∨ a = 0)) ∨ (c = 4 ∧ (a = 4 ∨ a = 1 ∨ a = 0)) ∨ (c = 5 ∧ (a = 5 ∨ a = 0)) ∨ (c = 6 ∧ (a = 6 ∨ a = 3 ∨ a = 1 ∨ a = 0)) ∨ (c = 7 ∧ (a = 7 ∨ a = 0)))
def yP_IU : yPT := fun as g K => ∃ (c a : Int), as = [(1, c), (1, a)] ∧ (0 ≤ c ∧ c < 8) ∧ (0 ≤ a ∧ a < 8) ∧ (∀ (r : Int), ((r = 1 ∧ yund c a) ∨ (r = 0 ∧ ¬ yund c a)) → K [(1, r)] g)
def yC_IU : yC := (16, (2, 61), yP_IU)
set_option maxRecDepth 8000 in
theorem yv_IU0 {K : List yV → yM → Prop} {Y : yNx} {g : yM} {a : Int} (hY : yCl zpD16 (zpZ, zpRS, zpP0, zpMT, [yC_W], (2, 61), 2) K Y) (hp1 : 0 ≤ a ∧ a < 8) (hK : ∀ r : Int, (r = 1 ∧ (a = 0)) ∨ (r = 0 ∧ ¬ (a = 0)) → K [(1, r)] g) : Y 0 [(1, 0), (1, a), (0, 0), (0, 0)] [] g := by
  refine yrun_ok (sp := fun pc => false) hY 29 0 _ [] g ?_
  show ((8 ≤ (0 : Int) → _) ∧ (¬ 8 ≤ (0 : Int) → (∃ (v2 b3 : Int), [(1, 0), (1, 8)] = [(1, v2), (1, b3)] ∧ (∀ (r4 : Int), ((r4 = 1 ∧ 0 ≤ v2 ∧ v2 < b3) ∨ (r4 = 0 ∧ (v2 < 0 ∨ b3 ≤ v2))) → ((r4 = 0 → _) ∧ (¬ (r4 = 0) → (((0 : Int) ≠ a → (((0 : Int) ≤ 0 ∧ 0 < ((8 : Nat) : Int)) ∧ ((8 ≤ (1 : Int) → _) ∧ (¬ 8 ≤ (1 : Int) → (∃ (v9 b10 : Int), [(1, (-1)), (1, 8)] = [(1, v9), (1, b10)] ∧ (∀ (r11 : Int), ((r11 = 1 ∧ 0 ≤ v9 ∧ v9 < b10) ∨ (r11 = 0 ∧ (v9 < 0 ∨ b10 ≤ v9))) → ((r11 = 0 → (((0 : Int) ≤ 0 ∧ 0 ≤ (1 : Int)) ∧ (K [(1, 0)] g))) ∧ (¬ (r11 = 0) → _)))))))) ∧ (¬ ((0 : Int) ≠ a) → (((0 : Int) ≤ 1 ∧ 1 ≤ (1 : Int)) ∧ (K [(1, 1)] g))))))))))
  refine ⟨fun h1 => absurd h1 (by decide), fun _ => ?_⟩
  refine ⟨_, _, rfl, ?_⟩
  intro r4 p50
  refine ⟨fun h6 => absurd h6 (by omega), fun h6 => ?_⟩
  refine ⟨fun h7 => ?_, fun h7 => ?_⟩
  · refine ⟨(by decide), ?_⟩
    refine ⟨fun h8 => absurd h8 (by decide), fun _ => ?_⟩
    refine ⟨_, _, rfl, ?_⟩
    intro r11 p120
    refine ⟨fun h13 => ?_, fun h13 => absurd (by omega) h13⟩
    refine ⟨(by omega), ?_⟩
    exact hK _ (by omega)
  · refine ⟨(by omega), ?_⟩
    exact hK _ (by omega)
set_option maxRecDepth 8000 in
theorem yv_IU1 {K : List yV → yM → Prop} {Y : yNx} {g : yM} {a : Int} (hY : yCl zpD16 (zpZ, zpRS, zpP0, zpMT, [yC_W], (2, 61), 2) K Y) (hp1 : 0 ≤ a ∧ a < 8) (hK : ∀ r : Int, (r = 1 ∧ (a = 1 ∨ a = 0)) ∨ (r = 0 ∧ ¬ (a = 1 ∨ a = 0)) → K [(1, r)] g) : Y 0 [(1, 1), (1, a), (0, 0), (0, 0)] [] g := by
  refine yrun_ok (sp := fun pc => false) hY 45 0 _ [] g ?_
  show ((8 ≤ (0 : Int) → _) ∧ (¬ 8 ≤ (0 : Int) → (∃ (v2 b3 : Int), [(1, 1), (1, 8)] = [(1, v2), (1, b3)] ∧ (∀ (r4 : Int), ((r4 = 1 ∧ 0 ≤ v2 ∧ v2 < b3) ∨ (r4 = 0 ∧ (v2 < 0 ∨ b3 ≤ v2))) → ((r4 = 0 → _) ∧ (¬ (r4 = 0) → (((1 : Int) ≠ a → (((0 : Int) ≤ 1 ∧ 1 < ((8 : Nat) : Int)) ∧ ((8 ≤ (1 : Int) → _) ∧ (¬ 8 ≤ (1 : Int) → (∃ (v9 b10 : Int), [(1, 0), (1, 8)] = [(1, v9), (1, b10)] ∧ (∀ (r11 : Int), ((r11 = 1 ∧ 0 ≤ v9 ∧ v9 < b10) ∨ (r11 = 0 ∧ (v9 < 0 ∨ b10 ≤ v9))) → ((r11 = 0 → _) ∧ (¬ (r11 = 0) → (((0 : Int) ≠ a → (((0 : Int) ≤ 0 ∧ 0 < ((8 : Nat) : Int)) ∧ ((8 ≤ (2 : Int) → _) ∧ (¬ 8 ≤ (2 : Int) → (∃ (v16 b17 : Int), [(1, (-1)), (1, 8)] = [(1, v16), (1, b17)] ∧ (∀ (r18 : Int), ((r18 = 1 ∧ 0 ≤ v16 ∧ v16 < b17) ∨ (r18 = 0 ∧ (v16 < 0 ∨ b17 ≤ v16))) → ((r18 = 0 → (((0 : Int) ≤ 0 ∧ 0 ≤ (1 : Int)) ∧ (K [(1, 0)] g))) ∧ (¬ (r18 = 0) → _)))))))) ∧ (¬ ((0 : Int) ≠ a) → (((0 : Int) ≤ 1 ∧ 1 ≤ (1 : Int)) ∧ (K [(1, 1)] g)))))))))))) ∧ (¬ ((1 : Int) ≠ a) → (((0 : Int) ≤ 1 ∧ 1 ≤ (1 : Int)) ∧ (K [(1, 1)] g))))))))))
  refine ⟨fun h1 => absurd h1 (by decide), fun _ => ?_⟩
  refine ⟨_, _, rfl, ?_⟩
  intro r4 p50
  refine ⟨fun h6 => absurd h6 (by omega), fun h6 => ?_⟩
  refine ⟨fun h7 => ?_, fun h7 => ?_⟩
  · refine ⟨(by decide), ?_⟩
    refine ⟨fun h8 => absurd h8 (by decide), fun _ => ?_⟩
    refine ⟨_, _, rfl, ?_⟩
    intro r11 p120
    refine ⟨fun h13 => absurd h13 (by omega), fun h13 => ?_⟩
    refine ⟨fun h14 => ?_, fun h14 => ?_⟩
    · refine ⟨(by decide), ?_⟩
      refine ⟨fun h15 => absurd h15 (by decide), fun _ => ?_⟩
      refine ⟨_, _, rfl, ?_⟩
      intro r18 p190
      refine ⟨fun h20 => ?_, fun h20 => absurd (by omega) h20⟩
      refine ⟨(by omega), ?_⟩
      exact hK _ (by omega)
    · refine ⟨(by omega), ?_⟩
      exact hK _ (by omega)
  · refine ⟨(by omega), ?_⟩
    exact hK _ (by omega)
set_option maxRecDepth 8000 in
theorem yv_IU2 {K : List yV → yM → Prop} {Y : yNx} {g : yM} {a : Int} (hY : yCl zpD16 (zpZ, zpRS, zpP0, zpMT, [yC_W], (2, 61), 2) K Y) (hp1 : 0 ≤ a ∧ a < 8) (hK : ∀ r : Int, (r = 1 ∧ (a = 2 ∨ a = 0)) ∨ (r = 0 ∧ ¬ (a = 2 ∨ a = 0)) → K [(1, r)] g) : Y 0 [(1, 2), (1, a), (0, 0), (0, 0)] [] g := by
  refine yrun_ok (sp := fun pc => false) hY 45 0 _ [] g ?_
  show ((8 ≤ (0 : Int) → _) ∧ (¬ 8 ≤ (0 : Int) → (∃ (v2 b3 : Int), [(1, 2), (1, 8)] = [(1, v2), (1, b3)] ∧ (∀ (r4 : Int), ((r4 = 1 ∧ 0 ≤ v2 ∧ v2 < b3) ∨ (r4 = 0 ∧ (v2 < 0 ∨ b3 ≤ v2))) → ((r4 = 0 → _) ∧ (¬ (r4 = 0) → (((2 : Int) ≠ a → (((0 : Int) ≤ 2 ∧ 2 < ((8 : Nat) : Int)) ∧ ((8 ≤ (1 : Int) → _) ∧ (¬ 8 ≤ (1 : Int) → (∃ (v9 b10 : Int), [(1, 0), (1, 8)] = [(1, v9), (1, b10)] ∧ (∀ (r11 : Int), ((r11 = 1 ∧ 0 ≤ v9 ∧ v9 < b10) ∨ (r11 = 0 ∧ (v9 < 0 ∨ b10 ≤ v9))) → ((r11 = 0 → _) ∧ (¬ (r11 = 0) → (((0 : Int) ≠ a → (((0 : Int) ≤ 0 ∧ 0 < ((8 : Nat) : Int)) ∧ ((8 ≤ (2 : Int) → _) ∧ (¬ 8 ≤ (2 : Int) → (∃ (v16 b17 : Int), [(1, (-1)), (1, 8)] = [(1, v16), (1, b17)] ∧ (∀ (r18 : Int), ((r18 = 1 ∧ 0 ≤ v16 ∧ v16 < b17) ∨ (r18 = 0 ∧ (v16 < 0 ∨ b17 ≤ v16))) → ((r18 = 0 → (((0 : Int) ≤ 0 ∧ 0 ≤ (1 : Int)) ∧ (K [(1, 0)] g))) ∧ (¬ (r18 = 0) → _)))))))) ∧ (¬ ((0 : Int) ≠ a) → (((0 : Int) ≤ 1 ∧ 1 ≤ (1 : Int)) ∧ (K [(1, 1)] g)))))))))))) ∧ (¬ ((2 : Int) ≠ a) → (((0 : Int) ≤ 1 ∧ 1 ≤ (1 : Int)) ∧ (K [(1, 1)] g))))))))))
  refine ⟨fun h1 => absurd h1 (by decide), fun _ => ?_⟩
  refine ⟨_, _, rfl, ?_⟩
  intro r4 p50
  refine ⟨fun h6 => absurd h6 (by omega), fun h6 => ?_⟩
  refine ⟨fun h7 => ?_, fun h7 => ?_⟩
  · refine ⟨(by decide), ?_⟩
    refine ⟨fun h8 => absurd h8 (by decide), fun _ => ?_⟩
    refine ⟨_, _, rfl, ?_⟩
    intro r11 p120
    refine ⟨fun h13 => absurd h13 (by omega), fun h13 => ?_⟩
    refine ⟨fun h14 => ?_, fun h14 => ?_⟩
    · refine ⟨(by decide), ?_⟩
      refine ⟨fun h15 => absurd h15 (by decide), fun _ => ?_⟩
      refine ⟨_, _, rfl, ?_⟩
      intro r18 p190
      refine ⟨fun h20 => ?_, fun h20 => absurd (by omega) h20⟩
      refine ⟨(by omega), ?_⟩
      exact hK _ (by omega)
    · refine ⟨(by omega), ?_⟩
      exact hK _ (by omega)
  · refine ⟨(by omega), ?_⟩
    exact hK _ (by omega)
set_option maxRecDepth 8000 in
theorem yv_IU3 {K : List yV → yM → Prop} {Y : yNx} {g : yM} {a : Int} (hY : yCl zpD16 (zpZ, zpRS, zpP0, zpMT, [yC_W], (2, 61), 2) K Y) (hp1 : 0 ≤ a ∧ a < 8) (hK : ∀ r : Int, (r = 1 ∧ (a = 3 ∨ a = 1 ∨ a = 0)) ∨ (r = 0 ∧ ¬ (a = 3 ∨ a = 1 ∨ a = 0)) → K [(1, r)] g) : Y 0 [(1, 3), (1, a), (0, 0), (0, 0)] [] g := by
  refine yrun_ok (sp := fun pc => false) hY 61 0 _ [] g ?_
  show ((8 ≤ (0 : Int) → _) ∧ (¬ 8 ≤ (0 : Int) → (∃ (v2 b3 : Int), [(1, 3), (1, 8)] = [(1, v2), (1, b3)] ∧ (∀ (r4 : Int), ((r4 = 1 ∧ 0 ≤ v2 ∧ v2 < b3) ∨ (r4 = 0 ∧ (v2 < 0 ∨ b3 ≤ v2))) → ((r4 = 0 → _) ∧ (¬ (r4 = 0) → (((3 : Int) ≠ a → (((0 : Int) ≤ 3 ∧ 3 < ((8 : Nat) : Int)) ∧ ((8 ≤ (1 : Int) → _) ∧ (¬ 8 ≤ (1 : Int) → (∃ (v9 b10 : Int), [(1, 1), (1, 8)] = [(1, v9), (1, b10)] ∧ (∀ (r11 : Int), ((r11 = 1 ∧ 0 ≤ v9 ∧ v9 < b10) ∨ (r11 = 0 ∧ (v9 < 0 ∨ b10 ≤ v9))) → ((r11 = 0 → _) ∧ (¬ (r11 = 0) → (((1 : Int) ≠ a → (((0 : Int) ≤ 1 ∧ 1 < ((8 : Nat) : Int)) ∧ ((8 ≤ (2 : Int) → _) ∧ (¬ 8 ≤ (2 : Int) → (∃ (v16 b17 : Int), [(1, 0), (1, 8)] = [(1, v16), (1, b17)] ∧ (∀ (r18 : Int), ((r18 = 1 ∧ 0 ≤ v16 ∧ v16 < b17) ∨ (r18 = 0 ∧ (v16 < 0 ∨ b17 ≤ v16))) → ((r18 = 0 → _) ∧ (¬ (r18 = 0) → (((0 : Int) ≠ a → (((0 : Int) ≤ 0 ∧ 0 < ((8 : Nat) : Int)) ∧ ((8 ≤ (3 : Int) → _) ∧ (¬ 8 ≤ (3 : Int) → (∃ (v23 b24 : Int), [(1, (-1)), (1, 8)] = [(1, v23), (1, b24)] ∧ (∀ (r25 : Int), ((r25 = 1 ∧ 0 ≤ v23 ∧ v23 < b24) ∨ (r25 = 0 ∧ (v23 < 0 ∨ b24 ≤ v23))) → ((r25 = 0 → (((0 : Int) ≤ 0 ∧ 0 ≤ (1 : Int)) ∧ (K [(1, 0)] g))) ∧ (¬ (r25 = 0) → _)))))))) ∧ (¬ ((0 : Int) ≠ a) → (((0 : Int) ≤ 1 ∧ 1 ≤ (1 : Int)) ∧ (K [(1, 1)] g)))))))))))) ∧ (¬ ((1 : Int) ≠ a) → (((0 : Int) ≤ 1 ∧ 1 ≤ (1 : Int)) ∧ (K [(1, 1)] g)))))))))))) ∧ (¬ ((3 : Int) ≠ a) → (((0 : Int) ≤ 1 ∧ 1 ≤ (1 : Int)) ∧ (K [(1, 1)] g))))))))))
  refine ⟨fun h1 => absurd h1 (by decide), fun _ => ?_⟩
  refine ⟨_, _, rfl, ?_⟩
  intro r4 p50
  refine ⟨fun h6 => absurd h6 (by omega), fun h6 => ?_⟩
  refine ⟨fun h7 => ?_, fun h7 => ?_⟩
  · refine ⟨(by decide), ?_⟩
    refine ⟨fun h8 => absurd h8 (by decide), fun _ => ?_⟩
    refine ⟨_, _, rfl, ?_⟩
    intro r11 p120
    refine ⟨fun h13 => absurd h13 (by omega), fun h13 => ?_⟩
    refine ⟨fun h14 => ?_, fun h14 => ?_⟩
    · refine ⟨(by decide), ?_⟩
      refine ⟨fun h15 => absurd h15 (by decide), fun _ => ?_⟩
      refine ⟨_, _, rfl, ?_⟩
      intro r18 p190
      refine ⟨fun h20 => absurd h20 (by omega), fun h20 => ?_⟩
      refine ⟨fun h21 => ?_, fun h21 => ?_⟩
      · refine ⟨(by decide), ?_⟩
        refine ⟨fun h22 => absurd h22 (by decide), fun _ => ?_⟩
        refine ⟨_, _, rfl, ?_⟩
        intro r25 p260
        refine ⟨fun h27 => ?_, fun h27 => absurd (by omega) h27⟩
        refine ⟨(by omega), ?_⟩
        exact hK _ (by omega)
      · refine ⟨(by omega), ?_⟩
        exact hK _ (by omega)
    · refine ⟨(by omega), ?_⟩
      exact hK _ (by omega)
  · refine ⟨(by omega), ?_⟩
    exact hK _ (by omega)
set_option maxRecDepth 8000 in
theorem yv_IU4 {K : List yV → yM → Prop} {Y : yNx} {g : yM} {a : Int} (hY : yCl zpD16 (zpZ, zpRS, zpP0, zpMT, [yC_W], (2, 61), 2) K Y) (hp1 : 0 ≤ a ∧ a < 8) (hK : ∀ r : Int, (r = 1 ∧ (a = 4 ∨ a = 1 ∨ a = 0)) ∨ (r = 0 ∧ ¬ (a = 4 ∨ a = 1 ∨ a = 0)) → K [(1, r)] g) : Y 0 [(1, 4), (1, a), (0, 0), (0, 0)] [] g := by
  refine yrun_ok (sp := fun pc => false) hY 61 0 _ [] g ?_
  show ((8 ≤ (0 : Int) → _) ∧ (¬ 8 ≤ (0 : Int) → (∃ (v2 b3 : Int), [(1, 4), (1, 8)] = [(1, v2), (1, b3)] ∧ (∀ (r4 : Int), ((r4 = 1 ∧ 0 ≤ v2 ∧ v2 < b3) ∨ (r4 = 0 ∧ (v2 < 0 ∨ b3 ≤ v2))) → ((r4 = 0 → _) ∧ (¬ (r4 = 0) → (((4 : Int) ≠ a → (((0 : Int) ≤ 4 ∧ 4 < ((8 : Nat) : Int)) ∧ ((8 ≤ (1 : Int) → _) ∧ (¬ 8 ≤ (1 : Int) → (∃ (v9 b10 : Int), [(1, 1), (1, 8)] = [(1, v9), (1, b10)] ∧ (∀ (r11 : Int), ((r11 = 1 ∧ 0 ≤ v9 ∧ v9 < b10) ∨ (r11 = 0 ∧ (v9 < 0 ∨ b10 ≤ v9))) → ((r11 = 0 → _) ∧ (¬ (r11 = 0) → (((1 : Int) ≠ a → (((0 : Int) ≤ 1 ∧ 1 < ((8 : Nat) : Int)) ∧ ((8 ≤ (2 : Int) → _) ∧ (¬ 8 ≤ (2 : Int) → (∃ (v16 b17 : Int), [(1, 0), (1, 8)] = [(1, v16), (1, b17)] ∧ (∀ (r18 : Int), ((r18 = 1 ∧ 0 ≤ v16 ∧ v16 < b17) ∨ (r18 = 0 ∧ (v16 < 0 ∨ b17 ≤ v16))) → ((r18 = 0 → _) ∧ (¬ (r18 = 0) → (((0 : Int) ≠ a → (((0 : Int) ≤ 0 ∧ 0 < ((8 : Nat) : Int)) ∧ ((8 ≤ (3 : Int) → _) ∧ (¬ 8 ≤ (3 : Int) → (∃ (v23 b24 : Int), [(1, (-1)), (1, 8)] = [(1, v23), (1, b24)] ∧ (∀ (r25 : Int), ((r25 = 1 ∧ 0 ≤ v23 ∧ v23 < b24) ∨ (r25 = 0 ∧ (v23 < 0 ∨ b24 ≤ v23))) → ((r25 = 0 → (((0 : Int) ≤ 0 ∧ 0 ≤ (1 : Int)) ∧ (K [(1, 0)] g))) ∧ (¬ (r25 = 0) → _)))))))) ∧ (¬ ((0 : Int) ≠ a) → (((0 : Int) ≤ 1 ∧ 1 ≤ (1 : Int)) ∧ (K [(1, 1)] g)))))))))))) ∧ (¬ ((1 : Int) ≠ a) → (((0 : Int) ≤ 1 ∧ 1 ≤ (1 : Int)) ∧ (K [(1, 1)] g)))))))))))) ∧ (¬ ((4 : Int) ≠ a) → (((0 : Int) ≤ 1 ∧ 1 ≤ (1 : Int)) ∧ (K [(1, 1)] g))))))))))
  refine ⟨fun h1 => absurd h1 (by decide), fun _ => ?_⟩
  refine ⟨_, _, rfl, ?_⟩
  intro r4 p50
  refine ⟨fun h6 => absurd h6 (by omega), fun h6 => ?_⟩
  refine ⟨fun h7 => ?_, fun h7 => ?_⟩
  · refine ⟨(by decide), ?_⟩
    refine ⟨fun h8 => absurd h8 (by decide), fun _ => ?_⟩
    refine ⟨_, _, rfl, ?_⟩
    intro r11 p120
    refine ⟨fun h13 => absurd h13 (by omega), fun h13 => ?_⟩
    refine ⟨fun h14 => ?_, fun h14 => ?_⟩
    · refine ⟨(by decide), ?_⟩
      refine ⟨fun h15 => absurd h15 (by decide), fun _ => ?_⟩
      refine ⟨_, _, rfl, ?_⟩
      intro r18 p190
      refine ⟨fun h20 => absurd h20 (by omega), fun h20 => ?_⟩
      refine ⟨fun h21 => ?_, fun h21 => ?_⟩
      · refine ⟨(by decide), ?_⟩
        refine ⟨fun h22 => absurd h22 (by decide), fun _ => ?_⟩
        refine ⟨_, _, rfl, ?_⟩
        intro r25 p260
        refine ⟨fun h27 => ?_, fun h27 => absurd (by omega) h27⟩
        refine ⟨(by omega), ?_⟩
        exact hK _ (by omega)
      · refine ⟨(by omega), ?_⟩
        exact hK _ (by omega)
    · refine ⟨(by omega), ?_⟩
      exact hK _ (by omega)
  · refine ⟨(by omega), ?_⟩
    exact hK _ (by omega)
set_option maxRecDepth 8000 in
theorem yv_IU5 {K : List yV → yM → Prop} {Y : yNx} {g : yM} {a : Int} (hY : yCl zpD16 (zpZ, zpRS, zpP0, zpMT, [yC_W], (2, 61), 2) K Y) (hp1 : 0 ≤ a ∧ a < 8) (hK : ∀ r : Int, (r = 1 ∧ (a = 5 ∨ a = 0)) ∨ (r = 0 ∧ ¬ (a = 5 ∨ a = 0)) → K [(1, r)] g) : Y 0 [(1, 5), (1, a), (0, 0), (0, 0)] [] g := by
  refine yrun_ok (sp := fun pc => false) hY 45 0 _ [] g ?_
  show ((8 ≤ (0 : Int) → _) ∧ (¬ 8 ≤ (0 : Int) → (∃ (v2 b3 : Int), [(1, 5), (1, 8)] = [(1, v2), (1, b3)] ∧ (∀ (r4 : Int), ((r4 = 1 ∧ 0 ≤ v2 ∧ v2 < b3) ∨ (r4 = 0 ∧ (v2 < 0 ∨ b3 ≤ v2))) → ((r4 = 0 → _) ∧ (¬ (r4 = 0) → (((5 : Int) ≠ a → (((0 : Int) ≤ 5 ∧ 5 < ((8 : Nat) : Int)) ∧ ((8 ≤ (1 : Int) → _) ∧ (¬ 8 ≤ (1 : Int) → (∃ (v9 b10 : Int), [(1, 0), (1, 8)] = [(1, v9), (1, b10)] ∧ (∀ (r11 : Int), ((r11 = 1 ∧ 0 ≤ v9 ∧ v9 < b10) ∨ (r11 = 0 ∧ (v9 < 0 ∨ b10 ≤ v9))) → ((r11 = 0 → _) ∧ (¬ (r11 = 0) → (((0 : Int) ≠ a → (((0 : Int) ≤ 0 ∧ 0 < ((8 : Nat) : Int)) ∧ ((8 ≤ (2 : Int) → _) ∧ (¬ 8 ≤ (2 : Int) → (∃ (v16 b17 : Int), [(1, (-1)), (1, 8)] = [(1, v16), (1, b17)] ∧ (∀ (r18 : Int), ((r18 = 1 ∧ 0 ≤ v16 ∧ v16 < b17) ∨ (r18 = 0 ∧ (v16 < 0 ∨ b17 ≤ v16))) → ((r18 = 0 → (((0 : Int) ≤ 0 ∧ 0 ≤ (1 : Int)) ∧ (K [(1, 0)] g))) ∧ (¬ (r18 = 0) → _)))))))) ∧ (¬ ((0 : Int) ≠ a) → (((0 : Int) ≤ 1 ∧ 1 ≤ (1 : Int)) ∧ (K [(1, 1)] g)))))))))))) ∧ (¬ ((5 : Int) ≠ a) → (((0 : Int) ≤ 1 ∧ 1 ≤ (1 : Int)) ∧ (K [(1, 1)] g))))))))))
  refine ⟨fun h1 => absurd h1 (by decide), fun _ => ?_⟩
  refine ⟨_, _, rfl, ?_⟩
  intro r4 p50
  refine ⟨fun h6 => absurd h6 (by omega), fun h6 => ?_⟩
  refine ⟨fun h7 => ?_, fun h7 => ?_⟩
  · refine ⟨(by decide), ?_⟩
    refine ⟨fun h8 => absurd h8 (by decide), fun _ => ?_⟩
    refine ⟨_, _, rfl, ?_⟩
    intro r11 p120
    refine ⟨fun h13 => absurd h13 (by omega), fun h13 => ?_⟩
    refine ⟨fun h14 => ?_, fun h14 => ?_⟩
    · refine ⟨(by decide), ?_⟩
      refine ⟨fun h15 => absurd h15 (by decide), fun _ => ?_⟩
      refine ⟨_, _, rfl, ?_⟩
      intro r18 p190
      refine ⟨fun h20 => ?_, fun h20 => absurd (by omega) h20⟩
      refine ⟨(by omega), ?_⟩
      exact hK _ (by omega)
    · refine ⟨(by omega), ?_⟩
      exact hK _ (by omega)
  · refine ⟨(by omega), ?_⟩
    exact hK _ (by omega)
set_option maxRecDepth 8000 in
theorem yv_IU6 {K : List yV → yM → Prop} {Y : yNx} {g : yM} {a : Int} (hY : yCl zpD16 (zpZ, zpRS, zpP0, zpMT, [yC_W], (2, 61), 2) K Y) (hp1 : 0 ≤ a ∧ a < 8) (hK : ∀ r : Int, (r = 1 ∧ (a = 6 ∨ a = 3 ∨ a = 1 ∨ a = 0)) ∨ (r = 0 ∧ ¬ (a = 6 ∨ a = 3 ∨ a = 1 ∨ a = 0)) → K [(1, r)] g) : Y 0 [(1, 6), (1, a), (0, 0), (0, 0)] [] g := by
  refine yrun_ok (sp := fun pc => false) hY 77 0 _ [] g ?_
  show ((8 ≤ (0 : Int) → _) ∧ (¬ 8 ≤ (0 : Int) → (∃ (v2 b3 : Int), [(1, 6), (1, 8)] = [(1, v2), (1, b3)] ∧ (∀ (r4 : Int), ((r4 = 1 ∧ 0 ≤ v2 ∧ v2 < b3) ∨ (r4 = 0 ∧ (v2 < 0 ∨ b3 ≤ v2))) → ((r4 = 0 → _) ∧ (¬ (r4 = 0) → (((6 : Int) ≠ a → (((0 : Int) ≤ 6 ∧ 6 < ((8 : Nat) : Int)) ∧ ((8 ≤ (1 : Int) → _) ∧ (¬ 8 ≤ (1 : Int) → (∃ (v9 b10 : Int), [(1, 3), (1, 8)] = [(1, v9), (1, b10)] ∧ (∀ (r11 : Int), ((r11 = 1 ∧ 0 ≤ v9 ∧ v9 < b10) ∨ (r11 = 0 ∧ (v9 < 0 ∨ b10 ≤ v9))) → ((r11 = 0 → _) ∧ (¬ (r11 = 0) → (((3 : Int) ≠ a → (((0 : Int) ≤ 3 ∧ 3 < ((8 : Nat) : Int)) ∧ ((8 ≤ (2 : Int) → _) ∧ (¬ 8 ≤ (2 : Int) → (∃ (v16 b17 : Int), [(1, 1), (1, 8)] = [(1, v16), (1, b17)] ∧ (∀ (r18 : Int), ((r18 = 1 ∧ 0 ≤ v16 ∧ v16 < b17) ∨ (r18 = 0 ∧ (v16 < 0 ∨ b17 ≤ v16))) → ((r18 = 0 → _) ∧ (¬ (r18 = 0) → (((1 : Int) ≠ a → (((0 : Int) ≤ 1 ∧ 1 < ((8 : Nat) : Int)) ∧ ((8 ≤ (3 : Int) → _) ∧ (¬ 8 ≤ (3 : Int) → (∃ (v23 b24 : Int), [(1, 0), (1, 8)] = [(1, v23), (1, b24)] ∧ (∀ (r25 : Int), ((r25 = 1 ∧ 0 ≤ v23 ∧ v23 < b24) ∨ (r25 = 0 ∧ (v23 < 0 ∨ b24 ≤ v23))) → ((r25 = 0 → _) ∧ (¬ (r25 = 0) → (((0 : Int) ≠ a → (((0 : Int) ≤ 0 ∧ 0 < ((8 : Nat) : Int)) ∧ ((8 ≤ (4 : Int) → _) ∧ (¬ 8 ≤ (4 : Int) → (∃ (v30 b31 : Int), [(1, (-1)), (1, 8)] = [(1, v30), (1, b31)] ∧ (∀ (r32 : Int), ((r32 = 1 ∧ 0 ≤ v30 ∧ v30 < b31) ∨ (r32 = 0 ∧ (v30 < 0 ∨ b31 ≤ v30))) → ((r32 = 0 → (((0 : Int) ≤ 0 ∧ 0 ≤ (1 : Int)) ∧ (K [(1, 0)] g))) ∧ (¬ (r32 = 0) → _)))))))) ∧ (¬ ((0 : Int) ≠ a) → (((0 : Int) ≤ 1 ∧ 1 ≤ (1 : Int)) ∧ (K [(1, 1)] g)))))))))))) ∧ (¬ ((1 : Int) ≠ a) → (((0 : Int) ≤ 1 ∧ 1 ≤ (1 : Int)) ∧ (K [(1, 1)] g)))))))))))) ∧ (¬ ((3 : Int) ≠ a) → (((0 : Int) ≤ 1 ∧ 1 ≤ (1 : Int)) ∧ (K [(1, 1)] g)))))))))))) ∧ (¬ ((6 : Int) ≠ a) → (((0 : Int) ≤ 1 ∧ 1 ≤ (1 : Int)) ∧ (K [(1, 1)] g))))))))))
  refine ⟨fun h1 => absurd h1 (by decide), fun _ => ?_⟩
  refine ⟨_, _, rfl, ?_⟩
  intro r4 p50
  refine ⟨fun h6 => absurd h6 (by omega), fun h6 => ?_⟩
  refine ⟨fun h7 => ?_, fun h7 => ?_⟩
  · refine ⟨(by decide), ?_⟩
    refine ⟨fun h8 => absurd h8 (by decide), fun _ => ?_⟩
    refine ⟨_, _, rfl, ?_⟩
    intro r11 p120
    refine ⟨fun h13 => absurd h13 (by omega), fun h13 => ?_⟩
    refine ⟨fun h14 => ?_, fun h14 => ?_⟩
    · refine ⟨(by decide), ?_⟩
      refine ⟨fun h15 => absurd h15 (by decide), fun _ => ?_⟩
      refine ⟨_, _, rfl, ?_⟩
      intro r18 p190
      refine ⟨fun h20 => absurd h20 (by omega), fun h20 => ?_⟩
      refine ⟨fun h21 => ?_, fun h21 => ?_⟩
      · refine ⟨(by decide), ?_⟩
        refine ⟨fun h22 => absurd h22 (by decide), fun _ => ?_⟩
        refine ⟨_, _, rfl, ?_⟩
        intro r25 p260
        refine ⟨fun h27 => absurd h27 (by omega), fun h27 => ?_⟩
        refine ⟨fun h28 => ?_, fun h28 => ?_⟩
        · refine ⟨(by decide), ?_⟩
          refine ⟨fun h29 => absurd h29 (by decide), fun _ => ?_⟩
          refine ⟨_, _, rfl, ?_⟩
          intro r32 p330
          refine ⟨fun h34 => ?_, fun h34 => absurd (by omega) h34⟩
          refine ⟨(by omega), ?_⟩
          exact hK _ (by omega)
        · refine ⟨(by omega), ?_⟩
          exact hK _ (by omega)
      · refine ⟨(by omega), ?_⟩
        exact hK _ (by omega)
    · refine ⟨(by omega), ?_⟩
      exact hK _ (by omega)
  · refine ⟨(by omega), ?_⟩
    exact hK _ (by omega)
set_option maxRecDepth 8000 in
theorem yv_IU7 {K : List yV → yM → Prop} {Y : yNx} {g : yM} {a : Int} (hY : yCl zpD16 (zpZ, zpRS, zpP0, zpMT, [yC_W], (2, 61), 2) K Y) (hp1 : 0 ≤ a ∧ a < 8) (hK : ∀ r : Int, (r = 1 ∧ (a = 7 ∨ a = 0)) ∨ (r = 0 ∧ ¬ (a = 7 ∨ a = 0)) → K [(1, r)] g) : Y 0 [(1, 7), (1, a), (0, 0), (0, 0)] [] g := by
  refine yrun_ok (sp := fun pc => false) hY 45 0 _ [] g ?_
  show ((8 ≤ (0 : Int) → _) ∧ (¬ 8 ≤ (0 : Int) → (∃ (v2 b3 : Int), [(1, 7), (1, 8)] = [(1, v2), (1, b3)] ∧ (∀ (r4 : Int), ((r4 = 1 ∧ 0 ≤ v2 ∧ v2 < b3) ∨ (r4 = 0 ∧ (v2 < 0 ∨ b3 ≤ v2))) → ((r4 = 0 → _) ∧ (¬ (r4 = 0) → (((7 : Int) ≠ a → (((0 : Int) ≤ 7 ∧ 7 < ((8 : Nat) : Int)) ∧ ((8 ≤ (1 : Int) → _) ∧ (¬ 8 ≤ (1 : Int) → (∃ (v9 b10 : Int), [(1, 0), (1, 8)] = [(1, v9), (1, b10)] ∧ (∀ (r11 : Int), ((r11 = 1 ∧ 0 ≤ v9 ∧ v9 < b10) ∨ (r11 = 0 ∧ (v9 < 0 ∨ b10 ≤ v9))) → ((r11 = 0 → _) ∧ (¬ (r11 = 0) → (((0 : Int) ≠ a → (((0 : Int) ≤ 0 ∧ 0 < ((8 : Nat) : Int)) ∧ ((8 ≤ (2 : Int) → _) ∧ (¬ 8 ≤ (2 : Int) → (∃ (v16 b17 : Int), [(1, (-1)), (1, 8)] = [(1, v16), (1, b17)] ∧ (∀ (r18 : Int), ((r18 = 1 ∧ 0 ≤ v16 ∧ v16 < b17) ∨ (r18 = 0 ∧ (v16 < 0 ∨ b17 ≤ v16))) → ((r18 = 0 → (((0 : Int) ≤ 0 ∧ 0 ≤ (1 : Int)) ∧ (K [(1, 0)] g))) ∧ (¬ (r18 = 0) → _)))))))) ∧ (¬ ((0 : Int) ≠ a) → (((0 : Int) ≤ 1 ∧ 1 ≤ (1 : Int)) ∧ (K [(1, 1)] g)))))))))))) ∧ (¬ ((7 : Int) ≠ a) → (((0 : Int) ≤ 1 ∧ 1 ≤ (1 : Int)) ∧ (K [(1, 1)] g))))))))))
  refine ⟨fun h1 => absurd h1 (by decide), fun _ => ?_⟩
  refine ⟨_, _, rfl, ?_⟩
  intro r4 p50
  refine ⟨fun h6 => absurd h6 (by omega), fun h6 => ?_⟩
  refine ⟨fun h7 => ?_, fun h7 => ?_⟩
  · refine ⟨(by decide), ?_⟩
    refine ⟨fun h8 => absurd h8 (by decide), fun _ => ?_⟩
    refine ⟨_, _, rfl, ?_⟩
    intro r11 p120
    refine ⟨fun h13 => absurd h13 (by omega), fun h13 => ?_⟩
    refine ⟨fun h14 => ?_, fun h14 => ?_⟩
    · refine ⟨(by decide), ?_⟩
      refine ⟨fun h15 => absurd h15 (by decide), fun _ => ?_⟩
      refine ⟨_, _, rfl, ?_⟩
      intro r18 p190
      refine ⟨fun h20 => ?_, fun h20 => absurd (by omega) h20⟩
      refine ⟨(by omega), ?_⟩
      exact hK _ (by omega)
    · refine ⟨(by omega), ?_⟩
      exact hK _ (by omega)
  · refine ⟨(by omega), ?_⟩
    exact hK _ (by omega)
theorem yv_IU {K : List yV → yM → Prop} {Y : yNx} {g : yM} {c a : Int} (hY : yCl zpD16 (zpZ, zpRS, zpP0, zpMT, [yC_W], (2, 61), 2) K Y) (hr_c : -2147483648 ≤ c ∧ c ≤ 2147483647) (hr_a : -2147483648 ≤ a ∧ a ≤ 2147483647) (hp0 : 0 ≤ c ∧ c < 8) (hp1 : 0 ≤ a ∧ a < 8) (hK : ∀ (r : Int), ((r = 1 ∧ yund c a) ∨ (r = 0 ∧ ¬ yund c a)) → K [(1, r)] g) : Y 0 [(1, c), (1, a), (0, 0), (0, 0)] [] g := by
  have hc : c = 0 ∨ c = 1 ∨ c = 2 ∨ c = 3 ∨ c = 4 ∨ c = 5 ∨ c = 6 ∨ c = 7 := by omega
  rcases hc with h | h | h | h | h | h | h | h
  · subst h
    exact yv_IU0 hY hp1 (fun r hr => hK r (by unfold yund; omega))
  · subst h
    exact yv_IU1 hY hp1 (fun r hr => hK r (by unfold yund; omega))
  · subst h
    exact yv_IU2 hY hp1 (fun r hr => hK r (by unfold yund; omega))
  · subst h
    exact yv_IU3 hY hp1 (fun r hr => hK r (by unfold yund; omega))
  · subst h
    exact yv_IU4 hY hp1 (fun r hr => hK r (by unfold yund; omega))
  · subst h
    exact yv_IU5 hY hp1 (fun r hr => hK r (by unfold yund; omega))
  · subst h
    exact yv_IU6 hY hp1 (fun r hr => hK r (by unfold yund; omega))
  · subst h
    exact yv_IU7 hY hp1 (fun r hr => hK r (by unfold yund; omega))
theorem yM_IU {l : Launch} {Ts : List Cond} {cl : List vw_C} {RO : zRO} (H : zHyp Ts cl RO) : yMet l Ts cl zpZ RO zpMT yC_IU := ymet_of2 H.1 H.2.1 zpDj H.2.2.1 yRb H.p0 (ymets_cons (yM_W H) ymets_nil) (zrc2 rfl) (plainFor_of_name zpy0) zpDk16 (fun as g K Y h hA hY => by
  obtain ⟨c, a, rfl, hp0, hp1, hK⟩ := h
  exact yv_IU hY (yAr1 hA (by simp)) (yAr1 hA (by simp)) hp0 hp1 hK)
def yP_TK : yPT := fun as g K => ∃ (p a : Int), as = [(3, 0), (1, p), (1, a)] ∧ (0 ≤ g 6 8 ∧ g 6 8 ≤ 20) ∧ (∀ q : Nat, q < 20 → 0 ≤ g 30 q ∧ g 30 q < 8) ∧ (∀ (r : Int), ((r = -1 ∧ ¬ (0 ≤ p ∧ p < 6 ∧ 0 ≤ a ∧ a < 8)) ∨ ((0 ≤ p ∧ p < 6 ∧ 0 ≤ a ∧ a < 8) ∧ ((r = -11 ∧ g 40 (Int.toNat p) = -1) ∨ (g 40 (Int.toNat p) ≠ -1 ∧ ((r = -12 ∧ ¬ ((g 40 (Int.toNat p) = -2 ∧ 0 ≤ g 41 (Int.toNat p) ∧ g 41 (Int.toNat p) < g 6 8) ∧ yund (g 30 (Int.toNat (g 41 (Int.toNat p)))) a)) ∨ (r = g 30 (Int.toNat (g 41 (Int.toNat p))) ∧ (g 40 (Int.toNat p) = -2 ∧ 0 ≤ g 41 (Int.toNat p) ∧ g 41 (Int.toNat p) < g 6 8) ∧ yund (g 30 (Int.toNat (g 41 (Int.toNat p)))) a)))))) → K [(1, r)] g)
def yC_TK : yC := (34, (3, 84), yP_TK)
set_option maxRecDepth 8000 in
theorem yv_TK {K : List yV → yM → Prop} {Y : yNx} {g : yM} {p a : Int} (hY : yCl zpD34 (zpZ, zpRS, zpP0, zpMT, [yC_W, yC_HN, yC_RA, yC_HS, yC_IU], (3, 84), 1) K Y) (hr_p : -2147483648 ≤ p ∧ p ≤ 2147483647) (hr_a : -2147483648 ≤ a ∧ a ≤ 2147483647) (hp0 : 0 ≤ g 6 8 ∧ g 6 8 ≤ 20) (hp1 : ∀ q : Nat, q < 20 → 0 ≤ g 30 q ∧ g 30 q < 8) (hK : ∀ (r : Int), ((r = -1 ∧ ¬ (0 ≤ p ∧ p < 6 ∧ 0 ≤ a ∧ a < 8)) ∨ ((0 ≤ p ∧ p < 6 ∧ 0 ≤ a ∧ a < 8) ∧ ((r = -11 ∧ g 40 (Int.toNat p) = -1) ∨ (g 40 (Int.toNat p) ≠ -1 ∧ ((r = -12 ∧ ¬ ((g 40 (Int.toNat p) = -2 ∧ 0 ≤ g 41 (Int.toNat p) ∧ g 41 (Int.toNat p) < g 6 8) ∧ yund (g 30 (Int.toNat (g 41 (Int.toNat p)))) a)) ∨ (r = g 30 (Int.toNat (g 41 (Int.toNat p))) ∧ (g 40 (Int.toNat p) = -2 ∧ 0 ≤ g 41 (Int.toNat p) ∧ g 41 (Int.toNat p) < g 6 8) ∧ yund (g 30 (Int.toNat (g 41 (Int.toNat p)))) a)))))) → K [(1, r)] g) : Y 0 [(3, 0), (1, p), (1, a), (0, 0)] [] g := by
  refine yrun_ok (sp := fun pc => false) hY 37 0 _ [] g ?_
  show (∃ (v1 b2 : Int), [(1, p), (1, 6)] = [(1, v1), (1, b2)] ∧ (∀ (r3 : Int), ((r3 = 1 ∧ 0 ≤ v1 ∧ v1 < b2) ∨ (r3 = 0 ∧ (v1 < 0 ∨ b2 ≤ v1))) → ((r3 = 0 → (K [(1, (-1))] g)) ∧ (¬ (r3 = 0) → (∃ (v6 b7 : Int), [(1, a), (1, 8)] = [(1, v6), (1, b7)] ∧ (∀ (r8 : Int), ((r8 = 1 ∧ 0 ≤ v6 ∧ v6 < b7) ∨ (r8 = 0 ∧ (v6 < 0 ∨ b7 ≤ v6))) → ((r8 ≠ 0 → (∃ (p11 : Int), [(3, 9), (1, p)] = [(3, 9), (1, p11)] ∧ (0 ≤ p11 ∧ p11 < 6) ∧ (∀ (r12 : Int), ((r12 = 1 ∧ g 40 (Int.toNat p11) = -1) ∨ (r12 = 0 ∧ g 40 (Int.toNat p11) ≠ -1)) → ((r12 = 0 → (∃ (p15 : Int), [(3, 9), (1, p)] = [(3, 9), (1, p15)] ∧ (0 ≤ p15 ∧ p15 < 6) ∧ (∀ (r16 : Int), ((g 40 (Int.toNat p15) = -2 → r16 = g 41 (Int.toNat p15)) ∧ (g 40 (Int.toNat p15) ≠ -2 → r16 = -1)) → (∃ (w18 : Int), [(3, 6), (1, r16)] = [(3, 6), (1, w18)] ∧ (∀ (r19 : Int), ((r19 = 1 ∧ 0 ≤ w18 ∧ w18 < g 6 8) ∨ (r19 = 0 ∧ (w18 < 0 ∨ g 6 8 ≤ w18))) → ((r19 = 0 → (K [(1, (-12))] g)) ∧ (¬ (r19 = 0) → (((0 : Int) ≤ r16 ∧ r16 < ((20 : Nat) : Int)) ∧ (∃ (c22 a23 : Int), [(1, (g 30 (Int.toNat r16))), (1, a)] = [(1, c22), (1, a23)] ∧ (0 ≤ c22 ∧ c22 < 8) ∧ (0 ≤ a23 ∧ a23 < 8) ∧ (∀ (r24 : Int), ((r24 = 1 ∧ yund c22 a23) ∨ (r24 = 0 ∧ ¬ yund c22 a23)) → ((r24 ≠ 0 → (((0 : Int) ≤ r16 ∧ r16 < ((20 : Nat) : Int)) ∧ (K [(1, (g 30 (Int.toNat r16)))] g))) ∧ (¬ (r24 ≠ 0) → (K [(1, (-12))] g))))))))))))) ∧ (¬ (r12 = 0) → (K [(1, (-11))] g)))))) ∧ (¬ (r8 ≠ 0) → (K [(1, (-1))] g)))))))))
  refine ⟨_, _, rfl, ?_⟩
  intro r3 p40
  refine ⟨fun h5 => ?_, fun h5 => ?_⟩
  · exact hK _ (Or.inl ⟨rfl, by omega⟩)
  · refine ⟨_, _, rfl, ?_⟩
    intro r8 p90
    refine ⟨fun h10 => ?_, fun h10 => ?_⟩
    · refine ⟨_, rfl, (by omega), ?_⟩
      intro r12 p130
      refine ⟨fun h14 => ?_, fun h14 => ?_⟩
      · refine ⟨_, rfl, (by omega), ?_⟩
        intro r16 p170
        refine ⟨_, rfl, ?_⟩
        intro r19 p200
        refine ⟨fun h21 => ?_, fun h21 => ?_⟩
        · by_cases e2 : g 40 (Int.toNat p) = -2
          · have e3 := p170.1 e2
            subst e3
            exact hK _ (Or.inr ⟨by omega, Or.inr ⟨by omega, Or.inl ⟨rfl, fun z => by have z1 := z.1; omega⟩⟩⟩)
          · have e3 := p170.2 e2
            subst e3
            exact hK _ (Or.inr ⟨by omega, Or.inr ⟨by omega, Or.inl ⟨rfl, fun z => by have z1 := z.1; omega⟩⟩⟩)
        · refine ⟨(by have q2 := hp1 (Int.toNat r16); omega), ?_⟩
          refine ⟨_, _, rfl, (by have q2 := hp1 (Int.toNat r16); omega), (by have q2 := hp1 (Int.toNat r16); omega), ?_⟩
          intro r24 p250
          refine ⟨fun h26 => ?_, fun h26 => ?_⟩
          · refine ⟨(by have q2 := hp1 (Int.toNat r16); omega), ?_⟩
            by_cases e2 : g 40 (Int.toNat p) = -2
            · have e3 := p170.1 e2
              subst e3
              rcases p250 with ⟨u1, u2⟩ | ⟨u1, u2⟩
              · exact hK _ (Or.inr ⟨by omega, Or.inr ⟨by omega, Or.inr ⟨rfl, ⟨by omega, by omega, by omega⟩, u2⟩⟩⟩)
              · omega
            · have e3 := p170.2 e2
              omega
          · by_cases e2 : g 40 (Int.toNat p) = -2
            · have e3 := p170.1 e2
              subst e3
              rcases p250 with ⟨u1, u2⟩ | ⟨u1, u2⟩
              · omega
              · exact hK _ (Or.inr ⟨by omega, Or.inr ⟨by omega, Or.inl ⟨rfl, fun z => u2 z.2⟩⟩⟩)
            · have e3 := p170.2 e2
              omega
      · exact hK _ (Or.inr ⟨by omega, Or.inl ⟨rfl, by omega⟩⟩)
    · exact hK _ (Or.inl ⟨rfl, by omega⟩)
theorem yM_TK {l : Launch} {Ts : List Cond} {cl : List vw_C} {RO : zRO} (H : zHyp Ts cl RO) : yMet l Ts cl zpZ RO zpMT yC_TK := ymet_of2 H.1 H.2.1 zpDj H.2.2.1 yRb H.p0 (ymets_cons (yM_W H) (ymets_cons (yM_HN H) (ymets_cons (yM_RA H) (ymets_cons (yM_HS H) (ymets_cons (yM_IU H) ymets_nil))))) (zrc1 rfl) (plainFor_of_name zpy0) zpDk34 (fun as g K Y h hA hY => by
  obtain ⟨p, a, rfl, hp0, hp1, hK⟩ := h
  exact yv_TK hY (yAr1 hA (by simp)) (yAr1 hA (by simp)) hp0 hp1 hK)
def yP_AB : yPT := fun as g K => ∃ (c : Int), as = [(1, c)] ∧ (∀ (r : Int), ((r = 3 ∧ c = 6) ∨ (r = 1 ∧ (c = 3 ∨ c = 4)) ∨ (r = 0 ∧ c ≠ 6 ∧ c ≠ 3 ∧ c ≠ 4)) → K [(1, r)] g)
def yC_AB : yC := (131, (1, 40), yP_AB)
set_option maxRecDepth 8000 in
theorem yv_AB {K : List yV → yM → Prop} {Y : yNx} {g : yM} {c : Int} (hY : yCl zpD131 (zpZ, zpRS, zpP12, zpMT, [], (1, 40), 1) K Y) (hr_c : -2147483648 ≤ c ∧ c ≤ 2147483647) (hK : ∀ (r : Int), ((r = 3 ∧ c = 6) ∨ (r = 1 ∧ (c = 3 ∨ c = 4)) ∨ (r = 0 ∧ c ≠ 6 ∧ c ≠ 3 ∧ c ≠ 4)) → K [(1, r)] g) : Y 0 [(1, c)] [] g := by
  refine yrun_ok (sp := fun pc => false) hY 12 0 _ [] g ?_
  show ((c ≠ 6 → ((c = 3 → (K [(1, 1)] g)) ∧ (¬ (c = 3) → ((c ≠ 4 → (K [(1, 0)] g)) ∧ (¬ (c ≠ 4) → (K [(1, 1)] g)))))) ∧ (¬ (c ≠ 6) → (K [(1, 3)] g)))
  refine ⟨fun h1 => ?_, fun h1 => ?_⟩
  · refine ⟨fun h2 => ?_, fun h2 => ?_⟩
    · exact hK _ (by first | omega | exact fun _ => rfl | exact fun h => absurd h (by omega) | exact rfl | exact fun _ _ => rfl | exact fun h _ => absurd h (by omega) | exact fun _ h => absurd h (by omega))
    · refine ⟨fun h3 => ?_, fun h3 => ?_⟩
      · exact hK _ (by first | omega | exact fun _ => rfl | exact fun h => absurd h (by omega) | exact rfl | exact fun _ _ => rfl | exact fun h _ => absurd h (by omega) | exact fun _ h => absurd h (by omega))
      · exact hK _ (by first | omega | exact fun _ => rfl | exact fun h => absurd h (by omega) | exact rfl | exact fun _ _ => rfl | exact fun h _ => absurd h (by omega) | exact fun _ h => absurd h (by omega))
  · exact hK _ (by first | omega | exact fun _ => rfl | exact fun h => absurd h (by omega) | exact rfl | exact fun _ _ => rfl | exact fun h _ => absurd h (by omega) | exact fun _ h => absurd h (by omega))
theorem yM_AB {l : Launch} {Ts : List Cond} {cl : List vw_C} {RO : zRO} (H : zHyp Ts cl RO) : yMet l Ts cl zpZ RO zpMT yC_AB := ymet_of2 H.1 H.2.1 zpDj H.2.2.1 yRb H.p12 ymets_nil (zrc1 rfl) (plainFor_of_name zpy12) zpDk131 (fun as g K Y h hA hY => by
  obtain ⟨c, rfl, hK⟩ := h
  exact yv_AB hY (yAr1 hA (by simp)) hK)
def yP_KO : yPT := fun as g K => ∃ (w : Int), as = [(3, 90), (1, w)] ∧ (0 ≤ w ∧ w < 20) ∧ (∀ (r : Int), (r = g 114 (Int.toNat w)) → K [(1, r)] g)
def yC_KO : yC := (174, (1, 40), yP_KO)
set_option maxRecDepth 8000 in
theorem yv_KO {K : List yV → yM → Prop} {Y : yNx} {g : yM} {w : Int} (hY : yCl zpD174 (zpZ, zpRS, zpP12, zpMT, [], (1, 40), 1) K Y) (hr_w : -2147483648 ≤ w ∧ w ≤ 2147483647) (hp0 : 0 ≤ w ∧ w < 20) (hK : ∀ (r : Int), (r = g 114 (Int.toNat w)) → K [(1, r)] g) : Y 0 [(3, 90), (1, w)] [] g := by
  refine yrun_ok (sp := fun pc => false) hY 5 0 _ [] g ?_
  show (((0 : Int) ≤ w ∧ w < ((20 : Nat) : Int)) ∧ (K [(1, (g 114 (Int.toNat w)))] g))
  refine ⟨(by omega), ?_⟩
  exact hK _ (by first | omega | exact fun _ => rfl | exact fun h => absurd h (by omega) | exact rfl | exact fun _ _ => rfl | exact fun h _ => absurd h (by omega) | exact fun _ h => absurd h (by omega))
theorem yM_KO {l : Launch} {Ts : List Cond} {cl : List vw_C} {RO : zRO} (H : zHyp Ts cl RO) : yMet l Ts cl zpZ RO zpMT yC_KO := ymet_of2 H.1 H.2.1 zpDj H.2.2.1 yRb H.p12 ymets_nil (zrc1 rfl) (plainFor_of_name zpy12) zpDk174 (fun as g K Y h hA hY => by
  obtain ⟨w, rfl, hp0, hK⟩ := h
  exact yv_KO hY (yAr1 hA (by simp)) hp0 hK)
def yP_MT : yPT := fun as g K => ∃ (p a : Int), as = [(3, 90), (1, p), (1, a)] ∧ (∀ q : Nat, q < 20 → 0 ≤ g 114 q ∧ g 114 q < 8) ∧ (∀ (r : Int), ((r = -1 ∧ ¬ (0 ≤ p ∧ p < 6 ∧ 0 ≤ a ∧ a < 8)) ∨ ((0 ≤ p ∧ p < 6 ∧ 0 ≤ a ∧ a < 8) ∧ ((r = -11 ∧ g 121 (Int.toNat p) < 0) ∨ (0 ≤ g 121 (Int.toNat p) ∧ ((r = -12 ∧ (20 ≤ g 121 (Int.toNat p) ∨ ¬ yund (g 114 (Int.toNat (g 121 (Int.toNat p)))) a)) ∨ (r = g 114 (Int.toNat (g 121 (Int.toNat p))) ∧ g 121 (Int.toNat p) < 20 ∧ yund (g 114 (Int.toNat (g 121 (Int.toNat p)))) a)))))) → K [(1, r)] g)
def yC_MT : yC := (201, (3, 85), yP_MT)
set_option maxRecDepth 8000 in
theorem yl_MT0 {K : List yV → yM → Prop} {Y : yNx} {g : yM} {p a : Int} (hY : yCl zpD201 (zpZ, zpRS, zpP12, zpMT, [yC_IS, yC_WM, yC_AB, yC_KO], (3, 85), 1) K Y) (hp : 0 ≤ p ∧ p < 6 ∧ 0 ≤ a ∧ a < 8) (hs : 0 ≤ g 121 (Int.toNat p) ∧ g 121 (Int.toNat p) < 20) (hK : ∀ r : Int, (r = -12 ∧ ¬ (a = 0)) ∨ (r = g 114 (Int.toNat (g 121 (Int.toNat p))) ∧ (a = 0)) → K [(1, r)] g) : Y 58 [(3, 90), (1, p), (1, a), (1, 0)] [] g := by
  refine yrun_ok (sp := fun pc => Nat.beq pc 58) hY 16 58 _ [] g ?_
  show (((0 : Int) = a → (((0 : Int) ≠ a → (K [(1, (-12))] g)) ∧ (¬ ((0 : Int) ≠ a) → (((0 : Int) ≤ p ∧ p < ((6 : Nat) : Int)) ∧ (∃ (w3 : Int), [(3, 90), (1, (g 121 (Int.toNat p)))] = [(3, 90), (1, w3)] ∧ (0 ≤ w3 ∧ w3 < 20) ∧ (∀ (r4 : Int), (r4 = g 114 (Int.toNat w3)) → (K [(1, r4)] g))))))) ∧ (¬ ((0 : Int) = a) → (((0 : Int) ≤ 0 → (((0 : Int) ≠ a → (K [(1, (-12))] g)) ∧ (¬ ((0 : Int) ≠ a) → (((0 : Int) ≤ p ∧ p < ((6 : Nat) : Int)) ∧ (∃ (w8 : Int), [(3, 90), (1, (g 121 (Int.toNat p)))] = [(3, 90), (1, w8)] ∧ (0 ≤ w8 ∧ w8 < 20) ∧ (∀ (r9 : Int), (r9 = g 114 (Int.toNat w8)) → (K [(1, r9)] g))))))) ∧ (¬ (0 : Int) ≤ 0 → _))))
  refine ⟨fun h1 => ?_, fun h1 => ?_⟩
  · refine ⟨fun h2 => ?_, fun h2 => ?_⟩
    · exact hK _ (by omega)
    · refine ⟨(by omega), ?_⟩
      refine ⟨_, rfl, (by omega), ?_⟩
      intro r4 p50
      subst p50
      exact hK _ (by omega)
  · refine ⟨fun _ => ?_, fun h6 => absurd (by decide) h6⟩
    refine ⟨fun h7 => ?_, fun h7 => ?_⟩
    · exact hK _ (by omega)
    · refine ⟨(by omega), ?_⟩
      refine ⟨_, rfl, (by omega), ?_⟩
      intro r9 p100
      subst p100
      exact hK _ (by omega)
set_option maxRecDepth 8000 in
theorem yl_MT1 {K : List yV → yM → Prop} {Y : yNx} {g : yM} {p a : Int} (hY : yCl zpD201 (zpZ, zpRS, zpP12, zpMT, [yC_IS, yC_WM, yC_AB, yC_KO], (3, 85), 1) K Y) (hp : 0 ≤ p ∧ p < 6 ∧ 0 ≤ a ∧ a < 8) (hs : 0 ≤ g 121 (Int.toNat p) ∧ g 121 (Int.toNat p) < 20) (hK : ∀ r : Int, (r = -12 ∧ ¬ (a = 1 ∨ a = 0)) ∨ (r = g 114 (Int.toNat (g 121 (Int.toNat p))) ∧ (a = 1 ∨ a = 0)) → K [(1, r)] g) : Y 58 [(3, 90), (1, p), (1, a), (1, 1)] [] g := by
  refine yrun_ok (sp := fun pc => Nat.beq pc 58) hY 14 58 _ [] g ?_
  show (((1 : Int) = a → (((1 : Int) ≠ a → (K [(1, (-12))] g)) ∧ (¬ ((1 : Int) ≠ a) → (((0 : Int) ≤ p ∧ p < ((6 : Nat) : Int)) ∧ (∃ (w3 : Int), [(3, 90), (1, (g 121 (Int.toNat p)))] = [(3, 90), (1, w3)] ∧ (0 ≤ w3 ∧ w3 < 20) ∧ (∀ (r4 : Int), (r4 = g 114 (Int.toNat w3)) → (K [(1, r4)] g))))))) ∧ (¬ ((1 : Int) = a) → (((1 : Int) ≤ 0 → _) ∧ (¬ (1 : Int) ≤ 0 → (∃ (c7 : Int), [(1, 1)] = [(1, c7)] ∧ (∀ (r8 : Int), ((r8 = 3 ∧ c7 = 6) ∨ (r8 = 1 ∧ (c7 = 3 ∨ c7 = 4)) ∨ (r8 = 0 ∧ c7 ≠ 6 ∧ c7 ≠ 3 ∧ c7 ≠ 4)) → (Y 58 [(3, 90), (1, p), (1, a), (1, r8)] [] g)))))))
  refine ⟨fun h1 => ?_, fun h1 => ?_⟩
  · refine ⟨fun h2 => ?_, fun h2 => ?_⟩
    · exact hK _ (by omega)
    · refine ⟨(by omega), ?_⟩
      refine ⟨_, rfl, (by omega), ?_⟩
      intro r4 p50
      subst p50
      exact hK _ (by omega)
  · refine ⟨fun h6 => absurd h6 (by decide), fun _ => ?_⟩
    refine ⟨_, rfl, ?_⟩
    intro r8 p90
    have e : r8 = 0 := by omega
    subst e
    exact yl_MT0 hY hp hs (fun r hr => hK r (by omega))
set_option maxRecDepth 8000 in
theorem yl_MT3 {K : List yV → yM → Prop} {Y : yNx} {g : yM} {p a : Int} (hY : yCl zpD201 (zpZ, zpRS, zpP12, zpMT, [yC_IS, yC_WM, yC_AB, yC_KO], (3, 85), 1) K Y) (hp : 0 ≤ p ∧ p < 6 ∧ 0 ≤ a ∧ a < 8) (hs : 0 ≤ g 121 (Int.toNat p) ∧ g 121 (Int.toNat p) < 20) (hK : ∀ r : Int, (r = -12 ∧ ¬ (a = 3 ∨ a = 1 ∨ a = 0)) ∨ (r = g 114 (Int.toNat (g 121 (Int.toNat p))) ∧ (a = 3 ∨ a = 1 ∨ a = 0)) → K [(1, r)] g) : Y 58 [(3, 90), (1, p), (1, a), (1, 3)] [] g := by
  refine yrun_ok (sp := fun pc => Nat.beq pc 58) hY 14 58 _ [] g ?_
  show (((3 : Int) = a → (((3 : Int) ≠ a → (K [(1, (-12))] g)) ∧ (¬ ((3 : Int) ≠ a) → (((0 : Int) ≤ p ∧ p < ((6 : Nat) : Int)) ∧ (∃ (w3 : Int), [(3, 90), (1, (g 121 (Int.toNat p)))] = [(3, 90), (1, w3)] ∧ (0 ≤ w3 ∧ w3 < 20) ∧ (∀ (r4 : Int), (r4 = g 114 (Int.toNat w3)) → (K [(1, r4)] g))))))) ∧ (¬ ((3 : Int) = a) → (((3 : Int) ≤ 0 → _) ∧ (¬ (3 : Int) ≤ 0 → (∃ (c7 : Int), [(1, 3)] = [(1, c7)] ∧ (∀ (r8 : Int), ((r8 = 3 ∧ c7 = 6) ∨ (r8 = 1 ∧ (c7 = 3 ∨ c7 = 4)) ∨ (r8 = 0 ∧ c7 ≠ 6 ∧ c7 ≠ 3 ∧ c7 ≠ 4)) → (Y 58 [(3, 90), (1, p), (1, a), (1, r8)] [] g)))))))
  refine ⟨fun h1 => ?_, fun h1 => ?_⟩
  · refine ⟨fun h2 => ?_, fun h2 => ?_⟩
    · exact hK _ (by omega)
    · refine ⟨(by omega), ?_⟩
      refine ⟨_, rfl, (by omega), ?_⟩
      intro r4 p50
      subst p50
      exact hK _ (by omega)
  · refine ⟨fun h6 => absurd h6 (by decide), fun _ => ?_⟩
    refine ⟨_, rfl, ?_⟩
    intro r8 p90
    have e : r8 = 1 := by omega
    subst e
    exact yl_MT1 hY hp hs (fun r hr => hK r (by omega))
set_option maxRecDepth 8000 in
theorem yl_MT2 {K : List yV → yM → Prop} {Y : yNx} {g : yM} {p a : Int} (hY : yCl zpD201 (zpZ, zpRS, zpP12, zpMT, [yC_IS, yC_WM, yC_AB, yC_KO], (3, 85), 1) K Y) (hp : 0 ≤ p ∧ p < 6 ∧ 0 ≤ a ∧ a < 8) (hs : 0 ≤ g 121 (Int.toNat p) ∧ g 121 (Int.toNat p) < 20) (hK : ∀ r : Int, (r = -12 ∧ ¬ (a = 2 ∨ a = 0)) ∨ (r = g 114 (Int.toNat (g 121 (Int.toNat p))) ∧ (a = 2 ∨ a = 0)) → K [(1, r)] g) : Y 58 [(3, 90), (1, p), (1, a), (1, 2)] [] g := by
  refine yrun_ok (sp := fun pc => Nat.beq pc 58) hY 14 58 _ [] g ?_
  show (((2 : Int) = a → (((2 : Int) ≠ a → (K [(1, (-12))] g)) ∧ (¬ ((2 : Int) ≠ a) → (((0 : Int) ≤ p ∧ p < ((6 : Nat) : Int)) ∧ (∃ (w3 : Int), [(3, 90), (1, (g 121 (Int.toNat p)))] = [(3, 90), (1, w3)] ∧ (0 ≤ w3 ∧ w3 < 20) ∧ (∀ (r4 : Int), (r4 = g 114 (Int.toNat w3)) → (K [(1, r4)] g))))))) ∧ (¬ ((2 : Int) = a) → (((2 : Int) ≤ 0 → _) ∧ (¬ (2 : Int) ≤ 0 → (∃ (c7 : Int), [(1, 2)] = [(1, c7)] ∧ (∀ (r8 : Int), ((r8 = 3 ∧ c7 = 6) ∨ (r8 = 1 ∧ (c7 = 3 ∨ c7 = 4)) ∨ (r8 = 0 ∧ c7 ≠ 6 ∧ c7 ≠ 3 ∧ c7 ≠ 4)) → (Y 58 [(3, 90), (1, p), (1, a), (1, r8)] [] g)))))))
  refine ⟨fun h1 => ?_, fun h1 => ?_⟩
  · refine ⟨fun h2 => ?_, fun h2 => ?_⟩
    · exact hK _ (by omega)
    · refine ⟨(by omega), ?_⟩
      refine ⟨_, rfl, (by omega), ?_⟩
      intro r4 p50
      subst p50
      exact hK _ (by omega)
  · refine ⟨fun h6 => absurd h6 (by decide), fun _ => ?_⟩
    refine ⟨_, rfl, ?_⟩
    intro r8 p90
    have e : r8 = 0 := by omega
    subst e
    exact yl_MT0 hY hp hs (fun r hr => hK r (by omega))
set_option maxRecDepth 8000 in
theorem yl_MT4 {K : List yV → yM → Prop} {Y : yNx} {g : yM} {p a : Int} (hY : yCl zpD201 (zpZ, zpRS, zpP12, zpMT, [yC_IS, yC_WM, yC_AB, yC_KO], (3, 85), 1) K Y) (hp : 0 ≤ p ∧ p < 6 ∧ 0 ≤ a ∧ a < 8) (hs : 0 ≤ g 121 (Int.toNat p) ∧ g 121 (Int.toNat p) < 20) (hK : ∀ r : Int, (r = -12 ∧ ¬ (a = 4 ∨ a = 1 ∨ a = 0)) ∨ (r = g 114 (Int.toNat (g 121 (Int.toNat p))) ∧ (a = 4 ∨ a = 1 ∨ a = 0)) → K [(1, r)] g) : Y 58 [(3, 90), (1, p), (1, a), (1, 4)] [] g := by
  refine yrun_ok (sp := fun pc => Nat.beq pc 58) hY 14 58 _ [] g ?_
  show (((4 : Int) = a → (((4 : Int) ≠ a → (K [(1, (-12))] g)) ∧ (¬ ((4 : Int) ≠ a) → (((0 : Int) ≤ p ∧ p < ((6 : Nat) : Int)) ∧ (∃ (w3 : Int), [(3, 90), (1, (g 121 (Int.toNat p)))] = [(3, 90), (1, w3)] ∧ (0 ≤ w3 ∧ w3 < 20) ∧ (∀ (r4 : Int), (r4 = g 114 (Int.toNat w3)) → (K [(1, r4)] g))))))) ∧ (¬ ((4 : Int) = a) → (((4 : Int) ≤ 0 → _) ∧ (¬ (4 : Int) ≤ 0 → (∃ (c7 : Int), [(1, 4)] = [(1, c7)] ∧ (∀ (r8 : Int), ((r8 = 3 ∧ c7 = 6) ∨ (r8 = 1 ∧ (c7 = 3 ∨ c7 = 4)) ∨ (r8 = 0 ∧ c7 ≠ 6 ∧ c7 ≠ 3 ∧ c7 ≠ 4)) → (Y 58 [(3, 90), (1, p), (1, a), (1, r8)] [] g)))))))
  refine ⟨fun h1 => ?_, fun h1 => ?_⟩
  · refine ⟨fun h2 => ?_, fun h2 => ?_⟩
    · exact hK _ (by omega)
    · refine ⟨(by omega), ?_⟩
      refine ⟨_, rfl, (by omega), ?_⟩
      intro r4 p50
      subst p50
      exact hK _ (by omega)
  · refine ⟨fun h6 => absurd h6 (by decide), fun _ => ?_⟩
    refine ⟨_, rfl, ?_⟩
    intro r8 p90
    have e : r8 = 1 := by omega
    subst e
    exact yl_MT1 hY hp hs (fun r hr => hK r (by omega))
set_option maxRecDepth 8000 in
theorem yl_MT5 {K : List yV → yM → Prop} {Y : yNx} {g : yM} {p a : Int} (hY : yCl zpD201 (zpZ, zpRS, zpP12, zpMT, [yC_IS, yC_WM, yC_AB, yC_KO], (3, 85), 1) K Y) (hp : 0 ≤ p ∧ p < 6 ∧ 0 ≤ a ∧ a < 8) (hs : 0 ≤ g 121 (Int.toNat p) ∧ g 121 (Int.toNat p) < 20) (hK : ∀ r : Int, (r = -12 ∧ ¬ (a = 5 ∨ a = 0)) ∨ (r = g 114 (Int.toNat (g 121 (Int.toNat p))) ∧ (a = 5 ∨ a = 0)) → K [(1, r)] g) : Y 58 [(3, 90), (1, p), (1, a), (1, 5)] [] g := by
  refine yrun_ok (sp := fun pc => Nat.beq pc 58) hY 14 58 _ [] g ?_
  show (((5 : Int) = a → (((5 : Int) ≠ a → (K [(1, (-12))] g)) ∧ (¬ ((5 : Int) ≠ a) → (((0 : Int) ≤ p ∧ p < ((6 : Nat) : Int)) ∧ (∃ (w3 : Int), [(3, 90), (1, (g 121 (Int.toNat p)))] = [(3, 90), (1, w3)] ∧ (0 ≤ w3 ∧ w3 < 20) ∧ (∀ (r4 : Int), (r4 = g 114 (Int.toNat w3)) → (K [(1, r4)] g))))))) ∧ (¬ ((5 : Int) = a) → (((5 : Int) ≤ 0 → _) ∧ (¬ (5 : Int) ≤ 0 → (∃ (c7 : Int), [(1, 5)] = [(1, c7)] ∧ (∀ (r8 : Int), ((r8 = 3 ∧ c7 = 6) ∨ (r8 = 1 ∧ (c7 = 3 ∨ c7 = 4)) ∨ (r8 = 0 ∧ c7 ≠ 6 ∧ c7 ≠ 3 ∧ c7 ≠ 4)) → (Y 58 [(3, 90), (1, p), (1, a), (1, r8)] [] g)))))))
  refine ⟨fun h1 => ?_, fun h1 => ?_⟩
  · refine ⟨fun h2 => ?_, fun h2 => ?_⟩
    · exact hK _ (by omega)
    · refine ⟨(by omega), ?_⟩
      refine ⟨_, rfl, (by omega), ?_⟩
      intro r4 p50
      subst p50
      exact hK _ (by omega)
  · refine ⟨fun h6 => absurd h6 (by decide), fun _ => ?_⟩
    refine ⟨_, rfl, ?_⟩
    intro r8 p90
    have e : r8 = 0 := by omega
    subst e
    exact yl_MT0 hY hp hs (fun r hr => hK r (by omega))
set_option maxRecDepth 8000 in
theorem yl_MT6 {K : List yV → yM → Prop} {Y : yNx} {g : yM} {p a : Int} (hY : yCl zpD201 (zpZ, zpRS, zpP12, zpMT, [yC_IS, yC_WM, yC_AB, yC_KO], (3, 85), 1) K Y) (hp : 0 ≤ p ∧ p < 6 ∧ 0 ≤ a ∧ a < 8) (hs : 0 ≤ g 121 (Int.toNat p) ∧ g 121 (Int.toNat p) < 20) (hK : ∀ r : Int, (r = -12 ∧ ¬ (a = 6 ∨ a = 3 ∨ a = 1 ∨ a = 0)) ∨ (r = g 114 (Int.toNat (g 121 (Int.toNat p))) ∧ (a = 6 ∨ a = 3 ∨ a = 1 ∨ a = 0)) → K [(1, r)] g) : Y 58 [(3, 90), (1, p), (1, a), (1, 6)] [] g := by
  refine yrun_ok (sp := fun pc => Nat.beq pc 58) hY 14 58 _ [] g ?_
  show (((6 : Int) = a → (((6 : Int) ≠ a → (K [(1, (-12))] g)) ∧ (¬ ((6 : Int) ≠ a) → (((0 : Int) ≤ p ∧ p < ((6 : Nat) : Int)) ∧ (∃ (w3 : Int), [(3, 90), (1, (g 121 (Int.toNat p)))] = [(3, 90), (1, w3)] ∧ (0 ≤ w3 ∧ w3 < 20) ∧ (∀ (r4 : Int), (r4 = g 114 (Int.toNat w3)) → (K [(1, r4)] g))))))) ∧ (¬ ((6 : Int) = a) → (((6 : Int) ≤ 0 → _) ∧ (¬ (6 : Int) ≤ 0 → (∃ (c7 : Int), [(1, 6)] = [(1, c7)] ∧ (∀ (r8 : Int), ((r8 = 3 ∧ c7 = 6) ∨ (r8 = 1 ∧ (c7 = 3 ∨ c7 = 4)) ∨ (r8 = 0 ∧ c7 ≠ 6 ∧ c7 ≠ 3 ∧ c7 ≠ 4)) → (Y 58 [(3, 90), (1, p), (1, a), (1, r8)] [] g)))))))
  refine ⟨fun h1 => ?_, fun h1 => ?_⟩
  · refine ⟨fun h2 => ?_, fun h2 => ?_⟩
    · exact hK _ (by omega)
    · refine ⟨(by omega), ?_⟩
      refine ⟨_, rfl, (by omega), ?_⟩
      intro r4 p50
      subst p50
      exact hK _ (by omega)
  · refine ⟨fun h6 => absurd h6 (by decide), fun _ => ?_⟩
    refine ⟨_, rfl, ?_⟩
    intro r8 p90
    have e : r8 = 3 := by omega
    subst e
    exact yl_MT3 hY hp hs (fun r hr => hK r (by omega))
set_option maxRecDepth 8000 in
theorem yl_MT7 {K : List yV → yM → Prop} {Y : yNx} {g : yM} {p a : Int} (hY : yCl zpD201 (zpZ, zpRS, zpP12, zpMT, [yC_IS, yC_WM, yC_AB, yC_KO], (3, 85), 1) K Y) (hp : 0 ≤ p ∧ p < 6 ∧ 0 ≤ a ∧ a < 8) (hs : 0 ≤ g 121 (Int.toNat p) ∧ g 121 (Int.toNat p) < 20) (hK : ∀ r : Int, (r = -12 ∧ ¬ (a = 7 ∨ a = 0)) ∨ (r = g 114 (Int.toNat (g 121 (Int.toNat p))) ∧ (a = 7 ∨ a = 0)) → K [(1, r)] g) : Y 58 [(3, 90), (1, p), (1, a), (1, 7)] [] g := by
  refine yrun_ok (sp := fun pc => Nat.beq pc 58) hY 14 58 _ [] g ?_
  show (((7 : Int) = a → (((7 : Int) ≠ a → (K [(1, (-12))] g)) ∧ (¬ ((7 : Int) ≠ a) → (((0 : Int) ≤ p ∧ p < ((6 : Nat) : Int)) ∧ (∃ (w3 : Int), [(3, 90), (1, (g 121 (Int.toNat p)))] = [(3, 90), (1, w3)] ∧ (0 ≤ w3 ∧ w3 < 20) ∧ (∀ (r4 : Int), (r4 = g 114 (Int.toNat w3)) → (K [(1, r4)] g))))))) ∧ (¬ ((7 : Int) = a) → (((7 : Int) ≤ 0 → _) ∧ (¬ (7 : Int) ≤ 0 → (∃ (c7 : Int), [(1, 7)] = [(1, c7)] ∧ (∀ (r8 : Int), ((r8 = 3 ∧ c7 = 6) ∨ (r8 = 1 ∧ (c7 = 3 ∨ c7 = 4)) ∨ (r8 = 0 ∧ c7 ≠ 6 ∧ c7 ≠ 3 ∧ c7 ≠ 4)) → (Y 58 [(3, 90), (1, p), (1, a), (1, r8)] [] g)))))))
  refine ⟨fun h1 => ?_, fun h1 => ?_⟩
  · refine ⟨fun h2 => ?_, fun h2 => ?_⟩
    · exact hK _ (by omega)
    · refine ⟨(by omega), ?_⟩
      refine ⟨_, rfl, (by omega), ?_⟩
      intro r4 p50
      subst p50
      exact hK _ (by omega)
  · refine ⟨fun h6 => absurd h6 (by decide), fun _ => ?_⟩
    refine ⟨_, rfl, ?_⟩
    intro r8 p90
    have e : r8 = 0 := by omega
    subst e
    exact yl_MT0 hY hp hs (fun r hr => hK r (by omega))
set_option maxRecDepth 8000 in
theorem yv_MT {K : List yV → yM → Prop} {Y : yNx} {g : yM} {p a : Int} (hY : yCl zpD201 (zpZ, zpRS, zpP12, zpMT, [yC_IS, yC_WM, yC_AB, yC_KO], (3, 85), 1) K Y) (hr_p : -2147483648 ≤ p ∧ p ≤ 2147483647) (hr_a : -2147483648 ≤ a ∧ a ≤ 2147483647) (hp0 : ∀ q : Nat, q < 20 → 0 ≤ g 114 q ∧ g 114 q < 8) (hK : ∀ (r : Int), ((r = -1 ∧ ¬ (0 ≤ p ∧ p < 6 ∧ 0 ≤ a ∧ a < 8)) ∨ ((0 ≤ p ∧ p < 6 ∧ 0 ≤ a ∧ a < 8) ∧ ((r = -11 ∧ g 121 (Int.toNat p) < 0) ∨ (0 ≤ g 121 (Int.toNat p) ∧ ((r = -12 ∧ (20 ≤ g 121 (Int.toNat p) ∨ ¬ yund (g 114 (Int.toNat (g 121 (Int.toNat p)))) a)) ∨ (r = g 114 (Int.toNat (g 121 (Int.toNat p))) ∧ g 121 (Int.toNat p) < 20 ∧ yund (g 114 (Int.toNat (g 121 (Int.toNat p)))) a)))))) → K [(1, r)] g) : Y 0 [(3, 90), (1, p), (1, a), (0, 0)] [] g := by
  refine yrun_ok (sp := fun pc => Nat.beq pc 58) hY 28 0 _ [] g ?_
  show (∃ (d1 : Int), [(1, p)] = [(1, d1)] ∧ (∀ (r2 : Int), ((r2 = 1 ∧ 0 ≤ d1 ∧ d1 < 6) ∨ (r2 = 0 ∧ (d1 < 0 ∨ 6 ≤ d1))) → ((r2 = 0 → (K [(1, (-1))] g)) ∧ (¬ (r2 = 0) → (∃ (v5 a6 b7 : Int), [(2, a), (2, 0), (2, 7)] = [(2, v5), (2, a6), (2, b7)] ∧ (∀ (r8 : Int), ((r8 = 1 ∧ a6 ≤ v5 ∧ v5 ≤ b7) ∨ (r8 = 0 ∧ (v5 < a6 ∨ b7 < v5))) → ((r8 ≠ 0 → (((0 : Int) ≤ p ∧ p < ((6 : Nat) : Int)) ∧ ((0 ≤ (g 121 (Int.toNat p)) → (((0 : Int) ≤ p ∧ p < ((6 : Nat) : Int)) ∧ (((g 121 (Int.toNat p)) < 20 → (((0 : Int) ≤ p ∧ p < ((6 : Nat) : Int)) ∧ (∃ (w13 : Int), [(3, 90), (1, (g 121 (Int.toNat p)))] = [(3, 90), (1, w13)] ∧ (0 ≤ w13 ∧ w13 < 20) ∧ (∀ (r14 : Int), (r14 = g 114 (Int.toNat w13)) → (Y 58 [(3, 90), (1, p), (1, a), (1, r14)] [] g))))) ∧ (¬ ((g 121 (Int.toNat p)) < 20) → (K [(1, (-12))] g))))) ∧ (¬ (0 ≤ (g 121 (Int.toNat p))) → (K [(1, (-11))] g))))) ∧ (¬ (r8 ≠ 0) → (K [(1, (-1))] g)))))))))
  refine ⟨_, rfl, ?_⟩
  intro r2 p30
  refine ⟨fun h4 => ?_, fun h4 => ?_⟩
  · exact hK _ (Or.inl ⟨rfl, by omega⟩)
  · refine ⟨_, _, _, rfl, ?_⟩
    intro r8 p90
    refine ⟨fun h10 => ?_, fun h10 => ?_⟩
    · refine ⟨(by omega), ?_⟩
      refine ⟨fun h11 => ?_, fun h11 => ?_⟩
      · refine ⟨(by omega), ?_⟩
        refine ⟨fun h12 => ?_, fun h12 => ?_⟩
        · refine ⟨(by omega), ?_⟩
          refine ⟨_, rfl, (by omega), ?_⟩
          intro r14 p150
          subst p150
          have hp : 0 ≤ p ∧ p < 6 ∧ 0 ≤ a ∧ a < 8 := by omega
          have hs : 0 ≤ g 121 (Int.toNat p) ∧ g 121 (Int.toNat p) < 20 := by omega
          have q := hp0 (Int.toNat (g 121 (Int.toNat p))) (by omega)
          have hc : g 114 (Int.toNat (g 121 (Int.toNat p))) = 0 ∨ g 114 (Int.toNat (g 121 (Int.toNat p))) = 1 ∨ g 114 (Int.toNat (g 121 (Int.toNat p))) = 2 ∨ g 114 (Int.toNat (g 121 (Int.toNat p))) = 3 ∨ g 114 (Int.toNat (g 121 (Int.toNat p))) = 4 ∨ g 114 (Int.toNat (g 121 (Int.toNat p))) = 5 ∨ g 114 (Int.toNat (g 121 (Int.toNat p))) = 6 ∨ g 114 (Int.toNat (g 121 (Int.toNat p))) = 7 := by omega
          rcases hc with h | h | h | h | h | h | h | h
          · have e := yl_MT0 (p := p) (a := a) hY hp hs (fun r hr => by
              rcases hr with ⟨hr, u⟩ | ⟨hr, u⟩
              · exact hK r (Or.inr ⟨by omega, Or.inr ⟨by omega, Or.inl ⟨hr, Or.inr (fun z => u (by rw [h] at z; unfold yund at z; omega))⟩⟩⟩)
              · exact hK r (Or.inr ⟨by omega, Or.inr ⟨by omega, Or.inr ⟨hr, by omega, by rw [h]; unfold yund; omega⟩⟩⟩))
            rw [← h] at e
            exact e
          · have e := yl_MT1 (p := p) (a := a) hY hp hs (fun r hr => by
              rcases hr with ⟨hr, u⟩ | ⟨hr, u⟩
              · exact hK r (Or.inr ⟨by omega, Or.inr ⟨by omega, Or.inl ⟨hr, Or.inr (fun z => u (by rw [h] at z; unfold yund at z; omega))⟩⟩⟩)
              · exact hK r (Or.inr ⟨by omega, Or.inr ⟨by omega, Or.inr ⟨hr, by omega, by rw [h]; unfold yund; omega⟩⟩⟩))
            rw [← h] at e
            exact e
          · have e := yl_MT2 (p := p) (a := a) hY hp hs (fun r hr => by
              rcases hr with ⟨hr, u⟩ | ⟨hr, u⟩
              · exact hK r (Or.inr ⟨by omega, Or.inr ⟨by omega, Or.inl ⟨hr, Or.inr (fun z => u (by rw [h] at z; unfold yund at z; omega))⟩⟩⟩)
              · exact hK r (Or.inr ⟨by omega, Or.inr ⟨by omega, Or.inr ⟨hr, by omega, by rw [h]; unfold yund; omega⟩⟩⟩))
            rw [← h] at e
            exact e
          · have e := yl_MT3 (p := p) (a := a) hY hp hs (fun r hr => by
              rcases hr with ⟨hr, u⟩ | ⟨hr, u⟩
              · exact hK r (Or.inr ⟨by omega, Or.inr ⟨by omega, Or.inl ⟨hr, Or.inr (fun z => u (by rw [h] at z; unfold yund at z; omega))⟩⟩⟩)
              · exact hK r (Or.inr ⟨by omega, Or.inr ⟨by omega, Or.inr ⟨hr, by omega, by rw [h]; unfold yund; omega⟩⟩⟩))
            rw [← h] at e
            exact e
          · have e := yl_MT4 (p := p) (a := a) hY hp hs (fun r hr => by
              rcases hr with ⟨hr, u⟩ | ⟨hr, u⟩
              · exact hK r (Or.inr ⟨by omega, Or.inr ⟨by omega, Or.inl ⟨hr, Or.inr (fun z => u (by rw [h] at z; unfold yund at z; omega))⟩⟩⟩)
              · exact hK r (Or.inr ⟨by omega, Or.inr ⟨by omega, Or.inr ⟨hr, by omega, by rw [h]; unfold yund; omega⟩⟩⟩))
            rw [← h] at e
            exact e
          · have e := yl_MT5 (p := p) (a := a) hY hp hs (fun r hr => by
              rcases hr with ⟨hr, u⟩ | ⟨hr, u⟩
              · exact hK r (Or.inr ⟨by omega, Or.inr ⟨by omega, Or.inl ⟨hr, Or.inr (fun z => u (by rw [h] at z; unfold yund at z; omega))⟩⟩⟩)
              · exact hK r (Or.inr ⟨by omega, Or.inr ⟨by omega, Or.inr ⟨hr, by omega, by rw [h]; unfold yund; omega⟩⟩⟩))
            rw [← h] at e
            exact e
          · have e := yl_MT6 (p := p) (a := a) hY hp hs (fun r hr => by
              rcases hr with ⟨hr, u⟩ | ⟨hr, u⟩
              · exact hK r (Or.inr ⟨by omega, Or.inr ⟨by omega, Or.inl ⟨hr, Or.inr (fun z => u (by rw [h] at z; unfold yund at z; omega))⟩⟩⟩)
              · exact hK r (Or.inr ⟨by omega, Or.inr ⟨by omega, Or.inr ⟨hr, by omega, by rw [h]; unfold yund; omega⟩⟩⟩))
            rw [← h] at e
            exact e
          · have e := yl_MT7 (p := p) (a := a) hY hp hs (fun r hr => by
              rcases hr with ⟨hr, u⟩ | ⟨hr, u⟩
              · exact hK r (Or.inr ⟨by omega, Or.inr ⟨by omega, Or.inl ⟨hr, Or.inr (fun z => u (by rw [h] at z; unfold yund at z; omega))⟩⟩⟩)
              · exact hK r (Or.inr ⟨by omega, Or.inr ⟨by omega, Or.inr ⟨hr, by omega, by rw [h]; unfold yund; omega⟩⟩⟩))
            rw [← h] at e
            exact e
        · exact hK _ (Or.inr ⟨by omega, Or.inr ⟨by omega, Or.inl ⟨rfl, Or.inl (by omega)⟩⟩⟩)
      · exact hK _ (Or.inr ⟨by omega, Or.inl ⟨rfl, by omega⟩⟩)
    · exact hK _ (Or.inl ⟨rfl, by omega⟩)
theorem yM_MT {l : Launch} {Ts : List Cond} {cl : List vw_C} {RO : zRO} (H : zHyp Ts cl RO) : yMet l Ts cl zpZ RO zpMT yC_MT := ymet_of2 H.1 H.2.1 zpDj H.2.2.1 yRb H.p12 (ymets_cons (yM_IS H) (ymets_cons (yM_WM H) (ymets_cons (yM_AB H) (ymets_cons (yM_KO H) ymets_nil)))) (zrc1 rfl) (plainFor_of_name zpy12) zpDk201 (fun as g K Y h hA hY => by
  obtain ⟨p, a, rfl, hp0, hK⟩ := h
  exact yv_MT hY (yAr1 hA (by simp)) (yAr1 hA (by simp)) hp0 hK)
