/-! ALONG -/
/-- how many of those below go along with the i-th: the class's, the reference's -/
def ycJ (g : yM) (a b t x : Int) (i : Nat) : Nat → Int
  | 0 => 0
  | n + 1 => ycJ g a b t x i n + if (g (50 + i) 0 = t ∧ g (50 + n) 0 = t ∧ g (50 + i) 3 = g (50 + n) 3 ∧ g (50 + i) 2 - g (50 + n) 2 ≤ x ∧ g (50 + n) 2 - g (50 + i) 2 ≤ x) ∧ ((g (50 + i) 5 = a ∧ g (50 + n) 5 = b) ∨ (g (50 + i) 5 = b ∧ g (50 + n) 5 = a)) then 1 else 0
def ycI (g : yM) (a b t x : Int) : Nat → Int
  | 0 => 0
  | n + 1 => ycI g a b t x n + ycJ g a b t x n n
def ymJ (g : yM) (a b t x : Int) (i : Nat) : Nat → Int
  | 0 => 0
  | n + 1 => ymJ g a b t x i n + if (g 101 i = t ∧ g 101 n = t ∧ g 103 i = g 103 n ∧ g 102 i - g 102 n ≤ x ∧ g 102 n - g 102 i ≤ x) ∧ ((g 105 i = a ∧ g 105 n = b) ∨ (g 105 i = b ∧ g 105 n = a)) then 1 else 0
def ymI (g : yM) (a b t x : Int) : Nat → Int
  | 0 => 0
  | n + 1 => ymI g a b t x n + ymJ g a b t x n n
theorem ycJ_s {g : yM} {a b t x : Int} {i n : Nat} : ycJ g a b t x i (n + 1) = ycJ g a b t x i n + if (g (50 + i) 0 = t ∧ g (50 + n) 0 = t ∧ g (50 + i) 3 = g (50 + n) 3 ∧ g (50 + i) 2 - g (50 + n) 2 ≤ x ∧ g (50 + n) 2 - g (50 + i) 2 ≤ x) ∧ ((g (50 + i) 5 = a ∧ g (50 + n) 5 = b) ∨ (g (50 + i) 5 = b ∧ g (50 + n) 5 = a)) then (1 : Int) else 0 := rfl
theorem ycJ_1 {g : yM} {a b t x : Int} {i n : Nat} (h : (g (50 + i) 0 = t ∧ g (50 + n) 0 = t ∧ g (50 + i) 3 = g (50 + n) 3 ∧ g (50 + i) 2 - g (50 + n) 2 ≤ x ∧ g (50 + n) 2 - g (50 + i) 2 ≤ x) ∧ ((g (50 + i) 5 = a ∧ g (50 + n) 5 = b) ∨ (g (50 + i) 5 = b ∧ g (50 + n) 5 = a))) : ycJ g a b t x i (n + 1) = ycJ g a b t x i n + 1 := by
  rw [ycJ_s, if_pos h]
theorem ycJ_0 {g : yM} {a b t x : Int} {i n : Nat} (h : ¬ ((g (50 + i) 0 = t ∧ g (50 + n) 0 = t ∧ g (50 + i) 3 = g (50 + n) 3 ∧ g (50 + i) 2 - g (50 + n) 2 ≤ x ∧ g (50 + n) 2 - g (50 + i) 2 ≤ x) ∧ ((g (50 + i) 5 = a ∧ g (50 + n) 5 = b) ∨ (g (50 + i) 5 = b ∧ g (50 + n) 5 = a)))) : ycJ g a b t x i (n + 1) = ycJ g a b t x i n := by
  rw [ycJ_s, if_neg h]
  exact Int.add_zero _
theorem ycJ_b {g : yM} {a b t x : Int} {i : Nat} : ∀ n : Nat, 0 ≤ ycJ g a b t x i n ∧ ycJ g a b t x i n ≤ n
  | 0 => ⟨Int.le_refl _, Int.le_refl _⟩
  | n + 1 => by
    have ih := @ycJ_b g a b t x i n
    by_cases h : (g (50 + i) 0 = t ∧ g (50 + n) 0 = t ∧ g (50 + i) 3 = g (50 + n) 3 ∧ g (50 + i) 2 - g (50 + n) 2 ≤ x ∧ g (50 + n) 2 - g (50 + i) 2 ≤ x) ∧ ((g (50 + i) 5 = a ∧ g (50 + n) 5 = b) ∨ (g (50 + i) 5 = b ∧ g (50 + n) 5 = a))
    · rw [ycJ_1 h]; omega
    · rw [ycJ_0 h]; omega
theorem ycI_s {g : yM} {a b t x : Int} {n : Nat} : ycI g a b t x (n + 1) = ycI g a b t x n + ycJ g a b t x n n := rfl
theorem ycI_b {g : yM} {a b t x : Int} : ∀ n : Nat, n ≤ 40 → 0 ≤ ycI g a b t x n ∧ ycI g a b t x n ≤ 40 * n
  | 0, _ => ⟨Int.le_refl _, Int.le_refl _⟩
  | n + 1, h => by
    have ih := @ycI_b g a b t x n (by omega)
    have h1 := @ycJ_b g a b t x n n
    rw [ycI_s]
    omega
theorem ymJ_s {g : yM} {a b t x : Int} {i n : Nat} : ymJ g a b t x i (n + 1) = ymJ g a b t x i n + if (g 101 i = t ∧ g 101 n = t ∧ g 103 i = g 103 n ∧ g 102 i - g 102 n ≤ x ∧ g 102 n - g 102 i ≤ x) ∧ ((g 105 i = a ∧ g 105 n = b) ∨ (g 105 i = b ∧ g 105 n = a)) then (1 : Int) else 0 := rfl
theorem ymJ_1 {g : yM} {a b t x : Int} {i n : Nat} (h : (g 101 i = t ∧ g 101 n = t ∧ g 103 i = g 103 n ∧ g 102 i - g 102 n ≤ x ∧ g 102 n - g 102 i ≤ x) ∧ ((g 105 i = a ∧ g 105 n = b) ∨ (g 105 i = b ∧ g 105 n = a))) : ymJ g a b t x i (n + 1) = ymJ g a b t x i n + 1 := by
  rw [ymJ_s, if_pos h]
theorem ymJ_0 {g : yM} {a b t x : Int} {i n : Nat} (h : ¬ ((g 101 i = t ∧ g 101 n = t ∧ g 103 i = g 103 n ∧ g 102 i - g 102 n ≤ x ∧ g 102 n - g 102 i ≤ x) ∧ ((g 105 i = a ∧ g 105 n = b) ∨ (g 105 i = b ∧ g 105 n = a)))) : ymJ g a b t x i (n + 1) = ymJ g a b t x i n := by
  rw [ymJ_s, if_neg h]
  exact Int.add_zero _
theorem ymJ_b {g : yM} {a b t x : Int} {i : Nat} : ∀ n : Nat, 0 ≤ ymJ g a b t x i n ∧ ymJ g a b t x i n ≤ n
  | 0 => ⟨Int.le_refl _, Int.le_refl _⟩
  | n + 1 => by
    have ih := @ymJ_b g a b t x i n
    by_cases h : (g 101 i = t ∧ g 101 n = t ∧ g 103 i = g 103 n ∧ g 102 i - g 102 n ≤ x ∧ g 102 n - g 102 i ≤ x) ∧ ((g 105 i = a ∧ g 105 n = b) ∨ (g 105 i = b ∧ g 105 n = a))
    · rw [ymJ_1 h]; omega
    · rw [ymJ_0 h]; omega
theorem ymI_s {g : yM} {a b t x : Int} {n : Nat} : ymI g a b t x (n + 1) = ymI g a b t x n + ymJ g a b t x n n := rfl
theorem ymI_b {g : yM} {a b t x : Int} : ∀ n : Nat, n ≤ 40 → 0 ≤ ymI g a b t x n ∧ ymI g a b t x n ≤ 40 * n
  | 0, _ => ⟨Int.le_refl _, Int.le_refl _⟩
  | n + 1, h => by
    have ih := @ymI_b g a b t x n (by omega)
    have h1 := @ymJ_b g a b t x n n
    rw [ymI_s]
    omega
theorem yq10 {v : Int} (h : -2147483648 ≤ v ∧ v ≤ 2147483647) : yb (fun x y => x - x / y * y) v 10 = v - 10 * yb (fun x y => x / y) v 10 ∧ (0 ≤ v → 0 ≤ yb (fun x y => x / y) v 10 ∧ 0 ≤ yb (fun x y => x - x / y * y) v 10) := by
  have e0 : (Int32.ofInt v).toInt = v := zofI h.1 h.2
  have e1 : yb (fun x y => x / y) v 10 = v.tdiv 10 := by
    show (Int32.ofInt v / Int32.ofInt 10).toInt = _
    rw [zdivI (by decide), e0]
    rfl
  have e2 : yb (fun x y => x - x / y * y) v 10 = v.tmod 10 := by
    show (Int32.ofInt v - Int32.ofInt v / Int32.ofInt 10 * Int32.ofInt 10).toInt = _
    rw [zremI (by decide), e0]
    rfl
  rw [e1, e2]
  exact ⟨Int.tmod_def v 10, fun h0 => ⟨((ztdiv_bd (by decide)).1 h0).1, (ztmod_bd (by decide) h0).1⟩⟩
def yP_AB : yPT := fun as g K => ∃ (a : Int), as = [(1, a)] ∧ (-2147483647 ≤ a) ∧ (∀ (r : Int), ((r = a ∧ 0 ≤ a) ∨ (r = -a ∧ a < 0)) → K [(1, r)] g)
def yC_AB : yC := (217, (1, 40), yP_AB)
set_option maxRecDepth 8000 in
theorem yv_AB {K : List yV → yM → Prop} {Y : yNx} {g : yM} {a : Int} (hY : yCl zpD217 (zpZ, zpRS, zpP14, zpMT, [], (1, 40), 1) K Y) (hr_a : -2147483648 ≤ a ∧ a ≤ 2147483647) (hp0 : -2147483647 ≤ a) (hK : ∀ (r : Int), ((r = a ∧ 0 ≤ a) ∨ (r = -a ∧ a < 0)) → K [(1, r)] g) : Y 0 [(1, a)] [] g := by
  refine yrun_ok (sp := fun pc => false) hY 6 0 _ [] g ?_
  show ((0 ≤ a → (K [(1, a)] g)) ∧ (¬ (0 ≤ a) → (K [(1, (yw (-a)))] g)))
  refine ⟨fun h1 => ?_, fun h1 => ?_⟩
  · exact hK _ (by first | omega | exact fun _ => rfl | exact fun h => absurd h (by omega) | exact rfl | exact fun _ _ => rfl | exact fun h _ => absurd h (by omega) | exact fun _ h => absurd h (by omega))
  · have := yw_s (-a)
    rw [show (yw (-a)) = (-a) from by have := yw_s (-a); omega]
    exact hK _ (by first | omega | exact fun _ => rfl | exact fun h => absurd h (by omega) | exact rfl | exact fun _ _ => rfl | exact fun h _ => absurd h (by omega) | exact fun _ h => absurd h (by omega))
theorem yM_AB {l : Launch} {Ts : List Cond} {cl : List vw_C} {RO : zRO} (H : zHyp Ts cl RO) : yMet l Ts cl zpZ RO zpMT yC_AB := ymet_of2 H.1 H.2.1 zpDj H.2.2.1 yRb H.p14 ymets_nil (zrc1 rfl) (by decide +kernel) zpDk217 (fun as g K Y h hA hY => by
  obtain ⟨a, rfl, hp0, hK⟩ := h
  exact yv_AB hY (yAr1 hA (by simp)) hp0 hK)
def yP_IDY : yPT := fun as g K => ∃ (d : Int), as = [(1, d)] ∧ (∀ (r : Int), ((r = 1 ∧ 0 ≤ d ∧ d ≤ 3) ∨ (r = 0 ∧ (d < 0 ∨ 3 < d))) → K [(1, r)] g)
def yC_IDY : yC := (165, (2, 65), yP_IDY)
set_option maxRecDepth 8000 in
theorem yv_IDY {K : List yV → yM → Prop} {Y : yNx} {g : yM} {d : Int} (hY : yCl zpD165 (zpZ, zpRS, zpP12, zpMT, [yC_WM], (2, 65), 2) K Y) (hr_d : -2147483648 ≤ d ∧ d ≤ 2147483647) (hK : ∀ (r : Int), ((r = 1 ∧ 0 ≤ d ∧ d ≤ 3) ∨ (r = 0 ∧ (d < 0 ∨ 3 < d))) → K [(1, r)] g) : Y 0 [(1, d)] [] g := by
  refine yrun_ok (sp := fun pc => false) hY 6 0 _ [] g ?_
  show (∃ (v1 a2 b3 : Int), [(2, d), (2, 0), (2, 3)] = [(2, v1), (2, a2), (2, b3)] ∧ (∀ (r4 : Int), ((r4 = 1 ∧ a2 ≤ v1 ∧ v1 ≤ b3) ∨ (r4 = 0 ∧ (v1 < a2 ∨ b3 < v1))) → (((0 : Int) ≤ r4 ∧ r4 ≤ (1 : Int)) ∧ (K [(1, r4)] g))))
  refine ⟨_, _, _, rfl, ?_⟩
  intro r4 p50
  refine ⟨(by omega), ?_⟩
  exact hK _ (by first | omega | exact fun _ => rfl | exact fun h => absurd h (by omega) | exact rfl | exact fun _ _ => rfl | exact fun h _ => absurd h (by omega) | exact fun _ h => absurd h (by omega))
theorem yM_IDY {l : Launch} {Ts : List Cond} {cl : List vw_C} {RO : zRO} (H : zHyp Ts cl RO) : yMet l Ts cl zpZ RO zpMT yC_IDY := ymet_of2 H.1 H.2.1 zpDj H.2.2.1 yRb H.p12 (ymets_cons (yM_WM H) ymets_nil) (zrc2 rfl) (plainFor_of_name zpy12) zpDk165 (fun as g K Y h hA hY => by
  obtain ⟨d, rfl, hK⟩ := h
  exact yv_IDY hY (yAr1 hA (by simp)) hK)
def yP_CAO : yPT := fun as g K => ∃ (a b t x : Int), as = [(3, 7), (1, a), (1, b), (1, t), (1, x)] ∧ (0 ≤ g 1 1 ∧ g 1 1 ≤ 40) ∧ (0 ≤ x ∧ x < 100) ∧ (∀ n : Nat, (n : Int) < g 1 1 → 1 ≤ g (50 + n) 2 ∧ g (50 + n) 2 ≤ 719) ∧ (∀ (r : Int), (r = ycI g a b t x (Int.toNat (g 1 1))) → K [(1, r)] g)
def yC_CAO : yC := (89, (2, 60), yP_CAO)
set_option maxRecDepth 8000 in
theorem yl_CAOJ {K : List yV → yM → Prop} {Y : yNx} {g : yM} {a b t x : Int} (hY : yCl zpD89 (zpZ, zpRS, zpP8, zpMT, [yC_AB], (2, 60), 1) K Y) (hr_x : 0 ≤ x ∧ x < 100) (hs : 0 ≤ g 1 1 ∧ g 1 1 ≤ 40) (ho : ∀ n : Nat, (n : Int) < g 1 1 → 1 ≤ g (50 + n) 2 ∧ g (50 + n) 2 ≤ 719) {i u : Int} (hi : 0 ≤ i ∧ i < g 1 1) (hu : 0 ≤ u ∧ u ≤ 1600) (hE : ∀ w7 w8 w9 w10 : yV, Y 159 [(3, 7), (1, a), (1, b), (1, t), (1, x), (1, u + ycJ g a b t x (Int.toNat i) (Int.toNat i)), (1, i), w7, w8, w9, w10] [] g) : ∀ (d : Nat) (j : Int), j + d = i → 0 ≤ j → ∀ w8 w9 w10 : yV, Y 21 [(3, 7), (1, a), (1, b), (1, t), (1, x), (1, u + ycJ g a b t x (Int.toNat i) (Int.toNat j)), (1, i), (1, j), w8, w9, w10] [] g := by
  intro d
  induction d with
  | zero =>
    intro j hd h0 w8 w9 w10
    refine yrun_ok (sp := fun pc => Nat.beq pc 21 || Nat.beq pc 159) hY 61 21 _ [] g ?_
    show ((i ≤ j → (Y 159 [(3, 7), (1, a), (1, b), (1, t), (1, x), (1, u + ycJ g a b t x (Int.toNat i) (Int.toNat j)), (1, i), (1, j), w8, w9, w10] [] g)) ∧ (¬ (i ≤ j) → (((0 : Int) ≤ i ∧ i < ((40 : Nat) : Int)) ∧ (((0 : Int) ≤ j ∧ j < ((40 : Nat) : Int)) ∧ (((g (50 + Int.toNat i) 0) ≠ t → (((0 : Int) = 0 → (Y 21 [(3, 7), (1, a), (1, b), (1, t), (1, x), (1, u + ycJ g a b t x (Int.toNat i) (Int.toNat j)), (1, i), (1, (yw (j + 1))), (141, i), (141, j), (1, 0)] [] g)) ∧ (¬ (0 : Int) = 0 → _))) ∧ (¬ ((g (50 + Int.toNat i) 0) ≠ t) → (((g (50 + Int.toNat j) 0) ≠ t → (((0 : Int) = 0 → (Y 21 [(3, 7), (1, a), (1, b), (1, t), (1, x), (1, u + ycJ g a b t x (Int.toNat i) (Int.toNat j)), (1, i), (1, (yw (j + 1))), (141, i), (141, j), (1, 0)] [] g)) ∧ (¬ (0 : Int) = 0 → _))) ∧ (¬ ((g (50 + Int.toNat j) 0) ≠ t) → (((g (50 + Int.toNat i) 3) ≠ (g (50 + Int.toNat j) 3) → (((0 : Int) = 0 → (Y 21 [(3, 7), (1, a), (1, b), (1, t), (1, x), (1, u + ycJ g a b t x (Int.toNat i) (Int.toNat j)), (1, i), (1, (yw (j + 1))), (141, i), (141, j), (1, 0)] [] g)) ∧ (¬ (0 : Int) = 0 → _))) ∧ (¬ ((g (50 + Int.toNat i) 3) ≠ (g (50 + Int.toNat j) 3)) → (∃ (a8 : Int), [(1, (yw ((g (50 + Int.toNat i) 2) - (g (50 + Int.toNat j) 2))))] = [(1, a8)] ∧ (-2147483647 ≤ a8) ∧ (∀ (r9 : Int), ((r9 = a8 ∧ 0 ≤ a8) ∨ (r9 = -a8 ∧ a8 < 0)) → ((x < r9 → (((0 : Int) = 0 → (Y 21 [(3, 7), (1, a), (1, b), (1, t), (1, x), (1, u + ycJ g a b t x (Int.toNat i) (Int.toNat j)), (1, i), (1, (yw (j + 1))), (141, i), (141, j), (1, 0)] [] g)) ∧ (¬ (0 : Int) = 0 → _))) ∧ (¬ (x < r9) → (((1 : Int) = 0 → _) ∧ (¬ (1 : Int) = 0 → (((g (50 + Int.toNat i) 5) ≠ a → (((g (50 + Int.toNat i) 5) ≠ b → (Y 21 [(3, 7), (1, a), (1, b), (1, t), (1, x), (1, u + ycJ g a b t x (Int.toNat i) (Int.toNat j)), (1, i), (1, (yw (j + 1))), (141, i), (141, j), (1, 1)] [] g)) ∧ (¬ ((g (50 + Int.toNat i) 5) ≠ b) → (((g (50 + Int.toNat j) 5) ≠ a → (Y 21 [(3, 7), (1, a), (1, b), (1, t), (1, x), (1, u + ycJ g a b t x (Int.toNat i) (Int.toNat j)), (1, i), (1, (yw (j + 1))), (141, i), (141, j), (1, 1)] [] g)) ∧ (¬ ((g (50 + Int.toNat j) 5) ≠ a) → (Y 21 [(3, 7), (1, a), (1, b), (1, t), (1, x), (1, (yw (u + ycJ g a b t x (Int.toNat i) (Int.toNat j) + 1))), (1, i), (1, (yw (j + 1))), (141, i), (141, j), (1, 1)] [] g)))))) ∧ (¬ ((g (50 + Int.toNat i) 5) ≠ a) → (((g (50 + Int.toNat j) 5) = b → (Y 21 [(3, 7), (1, a), (1, b), (1, t), (1, x), (1, (yw (u + ycJ g a b t x (Int.toNat i) (Int.toNat j) + 1))), (1, i), (1, (yw (j + 1))), (141, i), (141, j), (1, 1)] [] g)) ∧ (¬ ((g (50 + Int.toNat j) 5) = b) → (((g (50 + Int.toNat i) 5) ≠ b → (Y 21 [(3, 7), (1, a), (1, b), (1, t), (1, x), (1, u + ycJ g a b t x (Int.toNat i) (Int.toNat j)), (1, i), (1, (yw (j + 1))), (141, i), (141, j), (1, 1)] [] g)) ∧ (¬ ((g (50 + Int.toNat i) 5) ≠ b) → (((g (50 + Int.toNat j) 5) ≠ a → (Y 21 [(3, 7), (1, a), (1, b), (1, t), (1, x), (1, u + ycJ g a b t x (Int.toNat i) (Int.toNat j)), (1, i), (1, (yw (j + 1))), (141, i), (141, j), (1, 1)] [] g)) ∧ (¬ ((g (50 + Int.toNat j) 5) ≠ a) → (Y 21 [(3, 7), (1, a), (1, b), (1, t), (1, x), (1, (yw (u + ycJ g a b t x (Int.toNat i) (Int.toNat j) + 1))), (1, i), (1, (yw (j + 1))), (141, i), (141, j), (1, 1)] [] g)))))))))))))))))))))))))
    refine ⟨fun h1 => ?_, fun h1 => ?_⟩
    · have e : j = i := by omega
      subst e
      exact hE _ _ _ _
    · refine ⟨(by omega), ?_⟩
      refine ⟨(by omega), ?_⟩
      refine ⟨fun h2 => ?_, fun h2 => ?_⟩
      · refine ⟨fun _ => ?_, fun h3 => absurd (by decide) h3⟩
        omega
      · refine ⟨fun h4 => ?_, fun h4 => ?_⟩
        · refine ⟨fun _ => ?_, fun h5 => absurd (by decide) h5⟩
          omega
        · refine ⟨fun h6 => ?_, fun h6 => ?_⟩
          · refine ⟨fun _ => ?_, fun h7 => absurd (by decide) h7⟩
            omega
          · refine ⟨_, rfl, (by omega), ?_⟩
            intro r9 p100
            refine ⟨fun h11 => ?_, fun h11 => ?_⟩
            · refine ⟨fun _ => ?_, fun h12 => absurd (by decide) h12⟩
              omega
            · refine ⟨fun h13 => absurd h13 (by decide), fun _ => ?_⟩
              refine ⟨fun h14 => ?_, fun h14 => ?_⟩
              · refine ⟨fun h15 => ?_, fun h15 => ?_⟩
                · omega
                · refine ⟨fun h16 => ?_, fun h16 => ?_⟩
                  · omega
                  · omega
              · refine ⟨fun h17 => ?_, fun h17 => ?_⟩
                · omega
                · refine ⟨fun h18 => ?_, fun h18 => ?_⟩
                  · omega
                  · refine ⟨fun h19 => ?_, fun h19 => ?_⟩
                    · omega
                    · omega
  | succ d ih =>
    intro j hd h0 w8 w9 w10
    refine yrun_ok (sp := fun pc => Nat.beq pc 21 || Nat.beq pc 159) hY 61 21 _ [] g ?_
    show ((i ≤ j → (Y 159 [(3, 7), (1, a), (1, b), (1, t), (1, x), (1, u + ycJ g a b t x (Int.toNat i) (Int.toNat j)), (1, i), (1, j), w8, w9, w10] [] g)) ∧ (¬ (i ≤ j) → (((0 : Int) ≤ i ∧ i < ((40 : Nat) : Int)) ∧ (((0 : Int) ≤ j ∧ j < ((40 : Nat) : Int)) ∧ (((g (50 + Int.toNat i) 0) ≠ t → (((0 : Int) = 0 → (Y 21 [(3, 7), (1, a), (1, b), (1, t), (1, x), (1, u + ycJ g a b t x (Int.toNat i) (Int.toNat j)), (1, i), (1, (yw (j + 1))), (141, i), (141, j), (1, 0)] [] g)) ∧ (¬ (0 : Int) = 0 → _))) ∧ (¬ ((g (50 + Int.toNat i) 0) ≠ t) → (((g (50 + Int.toNat j) 0) ≠ t → (((0 : Int) = 0 → (Y 21 [(3, 7), (1, a), (1, b), (1, t), (1, x), (1, u + ycJ g a b t x (Int.toNat i) (Int.toNat j)), (1, i), (1, (yw (j + 1))), (141, i), (141, j), (1, 0)] [] g)) ∧ (¬ (0 : Int) = 0 → _))) ∧ (¬ ((g (50 + Int.toNat j) 0) ≠ t) → (((g (50 + Int.toNat i) 3) ≠ (g (50 + Int.toNat j) 3) → (((0 : Int) = 0 → (Y 21 [(3, 7), (1, a), (1, b), (1, t), (1, x), (1, u + ycJ g a b t x (Int.toNat i) (Int.toNat j)), (1, i), (1, (yw (j + 1))), (141, i), (141, j), (1, 0)] [] g)) ∧ (¬ (0 : Int) = 0 → _))) ∧ (¬ ((g (50 + Int.toNat i) 3) ≠ (g (50 + Int.toNat j) 3)) → (∃ (a8 : Int), [(1, (yw ((g (50 + Int.toNat i) 2) - (g (50 + Int.toNat j) 2))))] = [(1, a8)] ∧ (-2147483647 ≤ a8) ∧ (∀ (r9 : Int), ((r9 = a8 ∧ 0 ≤ a8) ∨ (r9 = -a8 ∧ a8 < 0)) → ((x < r9 → (((0 : Int) = 0 → (Y 21 [(3, 7), (1, a), (1, b), (1, t), (1, x), (1, u + ycJ g a b t x (Int.toNat i) (Int.toNat j)), (1, i), (1, (yw (j + 1))), (141, i), (141, j), (1, 0)] [] g)) ∧ (¬ (0 : Int) = 0 → _))) ∧ (¬ (x < r9) → (((1 : Int) = 0 → _) ∧ (¬ (1 : Int) = 0 → (((g (50 + Int.toNat i) 5) ≠ a → (((g (50 + Int.toNat i) 5) ≠ b → (Y 21 [(3, 7), (1, a), (1, b), (1, t), (1, x), (1, u + ycJ g a b t x (Int.toNat i) (Int.toNat j)), (1, i), (1, (yw (j + 1))), (141, i), (141, j), (1, 1)] [] g)) ∧ (¬ ((g (50 + Int.toNat i) 5) ≠ b) → (((g (50 + Int.toNat j) 5) ≠ a → (Y 21 [(3, 7), (1, a), (1, b), (1, t), (1, x), (1, u + ycJ g a b t x (Int.toNat i) (Int.toNat j)), (1, i), (1, (yw (j + 1))), (141, i), (141, j), (1, 1)] [] g)) ∧ (¬ ((g (50 + Int.toNat j) 5) ≠ a) → (Y 21 [(3, 7), (1, a), (1, b), (1, t), (1, x), (1, (yw (u + ycJ g a b t x (Int.toNat i) (Int.toNat j) + 1))), (1, i), (1, (yw (j + 1))), (141, i), (141, j), (1, 1)] [] g)))))) ∧ (¬ ((g (50 + Int.toNat i) 5) ≠ a) → (((g (50 + Int.toNat j) 5) = b → (Y 21 [(3, 7), (1, a), (1, b), (1, t), (1, x), (1, (yw (u + ycJ g a b t x (Int.toNat i) (Int.toNat j) + 1))), (1, i), (1, (yw (j + 1))), (141, i), (141, j), (1, 1)] [] g)) ∧ (¬ ((g (50 + Int.toNat j) 5) = b) → (((g (50 + Int.toNat i) 5) ≠ b → (Y 21 [(3, 7), (1, a), (1, b), (1, t), (1, x), (1, u + ycJ g a b t x (Int.toNat i) (Int.toNat j)), (1, i), (1, (yw (j + 1))), (141, i), (141, j), (1, 1)] [] g)) ∧ (¬ ((g (50 + Int.toNat i) 5) ≠ b) → (((g (50 + Int.toNat j) 5) ≠ a → (Y 21 [(3, 7), (1, a), (1, b), (1, t), (1, x), (1, u + ycJ g a b t x (Int.toNat i) (Int.toNat j)), (1, i), (1, (yw (j + 1))), (141, i), (141, j), (1, 1)] [] g)) ∧ (¬ ((g (50 + Int.toNat j) 5) ≠ a) → (Y 21 [(3, 7), (1, a), (1, b), (1, t), (1, x), (1, (yw (u + ycJ g a b t x (Int.toNat i) (Int.toNat j) + 1))), (1, i), (1, (yw (j + 1))), (141, i), (141, j), (1, 1)] [] g)))))))))))))))))))))))))
    refine ⟨fun h1 => ?_, fun h1 => ?_⟩
    · omega
    · refine ⟨(by have o1 := ho (Int.toNat i) (by omega); have o2 := ho (Int.toNat j) (by omega); have jb := ycJ_b (g := g) (a := a) (b := b) (t := t) (x := x) (i := Int.toNat i) (Int.toNat j); omega), ?_⟩
      refine ⟨(by have o1 := ho (Int.toNat i) (by omega); have o2 := ho (Int.toNat j) (by omega); have jb := ycJ_b (g := g) (a := a) (b := b) (t := t) (x := x) (i := Int.toNat i) (Int.toNat j); omega), ?_⟩
      refine ⟨fun h2 => ?_, fun h2 => ?_⟩
      · refine ⟨fun _ => ?_, fun h3 => absurd (by decide) h3⟩
        have o1 := ho (Int.toNat i) (by omega)
        have o2 := ho (Int.toNat j) (by omega)
        have jb := ycJ_b (g := g) (a := a) (b := b) (t := t) (x := x) (i := Int.toNat i) (Int.toNat j)
        have yj : yw (j + 1) = j + 1 := yw_s (j + 1) (by omega) (by omega)
        have e : ycJ g a b t x (Int.toNat i) (Int.toNat (j + 1)) = ycJ g a b t x (Int.toNat i) (Int.toNat j) + 0 := by
          rw [show Int.toNat (j + 1) = Int.toNat j + 1 by omega]
          exact (ycJ_0 (by omega)).trans (Int.add_zero _).symm
        have yu : u + ycJ g a b t x (Int.toNat i) (Int.toNat j) = u + ycJ g a b t x (Int.toNat i) (Int.toNat (j + 1)) := by
          rw [e]
          omega
        rw [yj, yu]
        exact ih (j + 1) (by omega) (by omega) _ _ _
      · refine ⟨fun h4 => ?_, fun h4 => ?_⟩
        · refine ⟨fun _ => ?_, fun h5 => absurd (by decide) h5⟩
          have o1 := ho (Int.toNat i) (by omega)
          have o2 := ho (Int.toNat j) (by omega)
          have jb := ycJ_b (g := g) (a := a) (b := b) (t := t) (x := x) (i := Int.toNat i) (Int.toNat j)
          have yj : yw (j + 1) = j + 1 := yw_s (j + 1) (by omega) (by omega)
          have e : ycJ g a b t x (Int.toNat i) (Int.toNat (j + 1)) = ycJ g a b t x (Int.toNat i) (Int.toNat j) + 0 := by
            rw [show Int.toNat (j + 1) = Int.toNat j + 1 by omega]
            exact (ycJ_0 (by omega)).trans (Int.add_zero _).symm
          have yu : u + ycJ g a b t x (Int.toNat i) (Int.toNat j) = u + ycJ g a b t x (Int.toNat i) (Int.toNat (j + 1)) := by
            rw [e]
            omega
          rw [yj, yu]
          exact ih (j + 1) (by omega) (by omega) _ _ _
        · refine ⟨fun h6 => ?_, fun h6 => ?_⟩
          · refine ⟨fun _ => ?_, fun h7 => absurd (by decide) h7⟩
            have o1 := ho (Int.toNat i) (by omega)
            have o2 := ho (Int.toNat j) (by omega)
            have jb := ycJ_b (g := g) (a := a) (b := b) (t := t) (x := x) (i := Int.toNat i) (Int.toNat j)
            have yj : yw (j + 1) = j + 1 := yw_s (j + 1) (by omega) (by omega)
            have e : ycJ g a b t x (Int.toNat i) (Int.toNat (j + 1)) = ycJ g a b t x (Int.toNat i) (Int.toNat j) + 0 := by
              rw [show Int.toNat (j + 1) = Int.toNat j + 1 by omega]
              exact (ycJ_0 (by omega)).trans (Int.add_zero _).symm
            have yu : u + ycJ g a b t x (Int.toNat i) (Int.toNat j) = u + ycJ g a b t x (Int.toNat i) (Int.toNat (j + 1)) := by
              rw [e]
              omega
            rw [yj, yu]
            exact ih (j + 1) (by omega) (by omega) _ _ _
          · refine ⟨_, rfl, (by have o1 := ho (Int.toNat i) (by omega); have o2 := ho (Int.toNat j) (by omega); have jb := ycJ_b (g := g) (a := a) (b := b) (t := t) (x := x) (i := Int.toNat i) (Int.toNat j); have := yw_s ((g (50 + Int.toNat i) 2) - (g (50 + Int.toNat j) 2)); omega), ?_⟩
            intro r9 p100
            refine ⟨fun h11 => ?_, fun h11 => ?_⟩
            · refine ⟨fun _ => ?_, fun h12 => absurd (by decide) h12⟩
              have o1 := ho (Int.toNat i) (by omega)
              have o2 := ho (Int.toNat j) (by omega)
              have jb := ycJ_b (g := g) (a := a) (b := b) (t := t) (x := x) (i := Int.toNat i) (Int.toNat j)
              have := yw_s ((g (50 + Int.toNat i) 2) - (g (50 + Int.toNat j) 2))
              have yj : yw (j + 1) = j + 1 := yw_s (j + 1) (by omega) (by omega)
              have e : ycJ g a b t x (Int.toNat i) (Int.toNat (j + 1)) = ycJ g a b t x (Int.toNat i) (Int.toNat j) + 0 := by
                rw [show Int.toNat (j + 1) = Int.toNat j + 1 by omega]
                exact (ycJ_0 (by omega)).trans (Int.add_zero _).symm
              have yu : u + ycJ g a b t x (Int.toNat i) (Int.toNat j) = u + ycJ g a b t x (Int.toNat i) (Int.toNat (j + 1)) := by
                rw [e]
                omega
              rw [yj, yu]
              exact ih (j + 1) (by omega) (by omega) _ _ _
            · refine ⟨fun h13 => absurd h13 (by decide), fun _ => ?_⟩
              refine ⟨fun h14 => ?_, fun h14 => ?_⟩
              · refine ⟨fun h15 => ?_, fun h15 => ?_⟩
                · have o1 := ho (Int.toNat i) (by omega)
                  have o2 := ho (Int.toNat j) (by omega)
                  have jb := ycJ_b (g := g) (a := a) (b := b) (t := t) (x := x) (i := Int.toNat i) (Int.toNat j)
                  have := yw_s ((g (50 + Int.toNat i) 2) - (g (50 + Int.toNat j) 2))
                  have yj : yw (j + 1) = j + 1 := yw_s (j + 1) (by omega) (by omega)
                  have e : ycJ g a b t x (Int.toNat i) (Int.toNat (j + 1)) = ycJ g a b t x (Int.toNat i) (Int.toNat j) + 0 := by
                    rw [show Int.toNat (j + 1) = Int.toNat j + 1 by omega]
                    exact (ycJ_0 (by omega)).trans (Int.add_zero _).symm
                  have yu : u + ycJ g a b t x (Int.toNat i) (Int.toNat j) = u + ycJ g a b t x (Int.toNat i) (Int.toNat (j + 1)) := by
                    rw [e]
                    omega
                  rw [yj, yu]
                  exact ih (j + 1) (by omega) (by omega) _ _ _
                · refine ⟨fun h16 => ?_, fun h16 => ?_⟩
                  · have o1 := ho (Int.toNat i) (by omega)
                    have o2 := ho (Int.toNat j) (by omega)
                    have jb := ycJ_b (g := g) (a := a) (b := b) (t := t) (x := x) (i := Int.toNat i) (Int.toNat j)
                    have := yw_s ((g (50 + Int.toNat i) 2) - (g (50 + Int.toNat j) 2))
                    have yj : yw (j + 1) = j + 1 := yw_s (j + 1) (by omega) (by omega)
                    have e : ycJ g a b t x (Int.toNat i) (Int.toNat (j + 1)) = ycJ g a b t x (Int.toNat i) (Int.toNat j) + 0 := by
                      rw [show Int.toNat (j + 1) = Int.toNat j + 1 by omega]
                      exact (ycJ_0 (by omega)).trans (Int.add_zero _).symm
                    have yu : u + ycJ g a b t x (Int.toNat i) (Int.toNat j) = u + ycJ g a b t x (Int.toNat i) (Int.toNat (j + 1)) := by
                      rw [e]
                      omega
                    rw [yj, yu]
                    exact ih (j + 1) (by omega) (by omega) _ _ _
                  · have o1 := ho (Int.toNat i) (by omega)
                    have o2 := ho (Int.toNat j) (by omega)
                    have jb := ycJ_b (g := g) (a := a) (b := b) (t := t) (x := x) (i := Int.toNat i) (Int.toNat j)
                    have := yw_s ((g (50 + Int.toNat i) 2) - (g (50 + Int.toNat j) 2))
                    have yj : yw (j + 1) = j + 1 := yw_s (j + 1) (by omega) (by omega)
                    have e : ycJ g a b t x (Int.toNat i) (Int.toNat (j + 1)) = ycJ g a b t x (Int.toNat i) (Int.toNat j) + 1 := by
                      rw [show Int.toNat (j + 1) = Int.toNat j + 1 by omega]
                      exact ycJ_1 (by omega)
                    have yu : yw (u + ycJ g a b t x (Int.toNat i) (Int.toNat j) + 1) = u + ycJ g a b t x (Int.toNat i) (Int.toNat (j + 1)) := by
                      rw [e]
                      have := yw_s (u + ycJ g a b t x (Int.toNat i) (Int.toNat j) + 1) (by omega) (by omega)
                      omega
                    rw [yj, yu]
                    exact ih (j + 1) (by omega) (by omega) _ _ _
              · refine ⟨fun h17 => ?_, fun h17 => ?_⟩
                · have o1 := ho (Int.toNat i) (by omega)
                  have o2 := ho (Int.toNat j) (by omega)
                  have jb := ycJ_b (g := g) (a := a) (b := b) (t := t) (x := x) (i := Int.toNat i) (Int.toNat j)
                  have := yw_s ((g (50 + Int.toNat i) 2) - (g (50 + Int.toNat j) 2))
                  have yj : yw (j + 1) = j + 1 := yw_s (j + 1) (by omega) (by omega)
                  have e : ycJ g a b t x (Int.toNat i) (Int.toNat (j + 1)) = ycJ g a b t x (Int.toNat i) (Int.toNat j) + 1 := by
                    rw [show Int.toNat (j + 1) = Int.toNat j + 1 by omega]
                    exact ycJ_1 (by omega)
                  have yu : yw (u + ycJ g a b t x (Int.toNat i) (Int.toNat j) + 1) = u + ycJ g a b t x (Int.toNat i) (Int.toNat (j + 1)) := by
                    rw [e]
                    have := yw_s (u + ycJ g a b t x (Int.toNat i) (Int.toNat j) + 1) (by omega) (by omega)
                    omega
                  rw [yj, yu]
                  exact ih (j + 1) (by omega) (by omega) _ _ _
                · refine ⟨fun h18 => ?_, fun h18 => ?_⟩
                  · have o1 := ho (Int.toNat i) (by omega)
                    have o2 := ho (Int.toNat j) (by omega)
                    have jb := ycJ_b (g := g) (a := a) (b := b) (t := t) (x := x) (i := Int.toNat i) (Int.toNat j)
                    have := yw_s ((g (50 + Int.toNat i) 2) - (g (50 + Int.toNat j) 2))
                    have yj : yw (j + 1) = j + 1 := yw_s (j + 1) (by omega) (by omega)
                    have e : ycJ g a b t x (Int.toNat i) (Int.toNat (j + 1)) = ycJ g a b t x (Int.toNat i) (Int.toNat j) + 0 := by
                      rw [show Int.toNat (j + 1) = Int.toNat j + 1 by omega]
                      exact (ycJ_0 (by omega)).trans (Int.add_zero _).symm
                    have yu : u + ycJ g a b t x (Int.toNat i) (Int.toNat j) = u + ycJ g a b t x (Int.toNat i) (Int.toNat (j + 1)) := by
                      rw [e]
                      omega
                    rw [yj, yu]
                    exact ih (j + 1) (by omega) (by omega) _ _ _
                  · refine ⟨fun h19 => ?_, fun h19 => ?_⟩
                    · have o1 := ho (Int.toNat i) (by omega)
                      have o2 := ho (Int.toNat j) (by omega)
                      have jb := ycJ_b (g := g) (a := a) (b := b) (t := t) (x := x) (i := Int.toNat i) (Int.toNat j)
                      have := yw_s ((g (50 + Int.toNat i) 2) - (g (50 + Int.toNat j) 2))
                      have yj : yw (j + 1) = j + 1 := yw_s (j + 1) (by omega) (by omega)
                      have e : ycJ g a b t x (Int.toNat i) (Int.toNat (j + 1)) = ycJ g a b t x (Int.toNat i) (Int.toNat j) + 0 := by
                        rw [show Int.toNat (j + 1) = Int.toNat j + 1 by omega]
                        exact (ycJ_0 (by omega)).trans (Int.add_zero _).symm
                      have yu : u + ycJ g a b t x (Int.toNat i) (Int.toNat j) = u + ycJ g a b t x (Int.toNat i) (Int.toNat (j + 1)) := by
                        rw [e]
                        omega
                      rw [yj, yu]
                      exact ih (j + 1) (by omega) (by omega) _ _ _
                    · have o1 := ho (Int.toNat i) (by omega)
                      have o2 := ho (Int.toNat j) (by omega)
                      have jb := ycJ_b (g := g) (a := a) (b := b) (t := t) (x := x) (i := Int.toNat i) (Int.toNat j)
                      have := yw_s ((g (50 + Int.toNat i) 2) - (g (50 + Int.toNat j) 2))
                      have yj : yw (j + 1) = j + 1 := yw_s (j + 1) (by omega) (by omega)
                      have e : ycJ g a b t x (Int.toNat i) (Int.toNat (j + 1)) = ycJ g a b t x (Int.toNat i) (Int.toNat j) + 1 := by
                        rw [show Int.toNat (j + 1) = Int.toNat j + 1 by omega]
                        exact ycJ_1 (by omega)
                      have yu : yw (u + ycJ g a b t x (Int.toNat i) (Int.toNat j) + 1) = u + ycJ g a b t x (Int.toNat i) (Int.toNat (j + 1)) := by
                        rw [e]
                        have := yw_s (u + ycJ g a b t x (Int.toNat i) (Int.toNat j) + 1) (by omega) (by omega)
                        omega
                      rw [yj, yu]
                      exact ih (j + 1) (by omega) (by omega) _ _ _
theorem yt_CAOX {K : List yV → yM → Prop} {Y : yNx} {g : yM} {a b t x : Int} (hY : yCl zpD89 (zpZ, zpRS, zpP8, zpMT, [yC_AB], (2, 60), 1) K Y) (hr_x : 0 ≤ x ∧ x < 100) (hs : 0 ≤ g 1 1 ∧ g 1 1 ≤ 40) (ho : ∀ n : Nat, (n : Int) < g 1 1 → 1 ≤ g (50 + n) 2 ∧ g (50 + n) 2 ≤ 719) {i u : Int} (hi : 0 ≤ i ∧ i < g 1 1) {w7 w8 w9 w10 : yV} (hE : Y 6 [(3, 7), (1, a), (1, b), (1, t), (1, x), (1, u), (1, i + 1), w7, w8, w9, w10] [] g) : Y 159 [(3, 7), (1, a), (1, b), (1, t), (1, x), (1, u), (1, i), w7, w8, w9, w10] [] g := by
  refine yrun_ok (sp := fun pc => Nat.beq pc 6) hY 3 159 _ [] g ?_
  show (Y 6 [(3, 7), (1, a), (1, b), (1, t), (1, x), (1, u), (1, (yw (i + 1))), w7, w8, w9, w10] [] g)
  rw [show yw (i + 1) = i + 1 from yw_s (i + 1) (by omega) (by omega)]
  exact hE
set_option maxRecDepth 8000 in
theorem yl_CAOI {K : List yV → yM → Prop} {Y : yNx} {g : yM} {a b t x : Int} (hY : yCl zpD89 (zpZ, zpRS, zpP8, zpMT, [yC_AB], (2, 60), 1) K Y) (hr_x : 0 ≤ x ∧ x < 100) (hs : 0 ≤ g 1 1 ∧ g 1 1 ≤ 40) (ho : ∀ n : Nat, (n : Int) < g 1 1 → 1 ≤ g (50 + n) 2 ∧ g (50 + n) 2 ≤ 719) (hK : K [(1, ycI g a b t x (Int.toNat (g 1 1)))] g) : ∀ (d : Nat) (i : Int), i + d = g 1 1 → 0 ≤ i → ∀ w7 w8 w9 w10 : yV, Y 6 [(3, 7), (1, a), (1, b), (1, t), (1, x), (1, ycI g a b t x (Int.toNat i)), (1, i), w7, w8, w9, w10] [] g := by
  intro d
  induction d with
  | zero =>
    intro i hd h0 w7 w8 w9 w10
    refine yrun_ok (sp := fun pc => Nat.beq pc 6 || Nat.beq pc 21) hY 8 6 _ [] g ?_
    show (((g 1 1) ≤ i → (K [(1, ycI g a b t x (Int.toNat i))] g)) ∧ (¬ ((g 1 1) ≤ i) → (Y 21 [(3, 7), (1, a), (1, b), (1, t), (1, x), (1, ycI g a b t x (Int.toNat i)), (1, i), (1, 0), w8, w9, w10] [] g)))
    refine ⟨fun h1 => ?_, fun h1 => ?_⟩
    · rw [show i = g 1 1 by omega]
      exact hK
    · omega
  | succ d ih =>
    intro i hd h0 w7 w8 w9 w10
    refine yrun_ok (sp := fun pc => Nat.beq pc 6 || Nat.beq pc 21) hY 8 6 _ [] g ?_
    show (((g 1 1) ≤ i → (K [(1, ycI g a b t x (Int.toNat i))] g)) ∧ (¬ ((g 1 1) ≤ i) → (Y 21 [(3, 7), (1, a), (1, b), (1, t), (1, x), (1, ycI g a b t x (Int.toNat i)), (1, i), (1, 0), w8, w9, w10] [] g)))
    refine ⟨fun h1 => ?_, fun h1 => ?_⟩
    · omega
    · have ib := ycI_b (g := g) (a := a) (b := b) (t := t) (x := x) (Int.toNat i) (by omega)
      have jb := ycJ_b (g := g) (a := a) (b := b) (t := t) (x := x) (i := Int.toNat i) (Int.toNat i)
      have e0 : ycI g a b t x (Int.toNat i) + ycJ g a b t x (Int.toNat i) (Int.toNat 0) = ycI g a b t x (Int.toNat i) := Int.add_zero _
      have e1 : ycI g a b t x (Int.toNat i) + ycJ g a b t x (Int.toNat i) (Int.toNat i) = ycI g a b t x (Int.toNat (i + 1)) := by
        rw [show Int.toNat (i + 1) = Int.toNat i + 1 by omega]
        exact ycI_s.symm
      have h9 := yl_CAOJ hY hr_x hs ho (i := i) (u := ycI g a b t x (Int.toNat i)) ⟨h0, by omega⟩ ⟨by omega, by omega⟩ (fun w7 w8 w9 w10 => yt_CAOX hY hr_x hs ho ⟨h0, by omega⟩ (by rw [e1]; exact ih (i + 1) (by omega) (by omega) w7 w8 w9 w10)) (Int.toNat i) 0 (by omega) (by decide) w8 w9 w10
      rw [e0] at h9
      exact h9
set_option maxRecDepth 8000 in
theorem yv_CAO {K : List yV → yM → Prop} {Y : yNx} {g : yM} {a b t x : Int} (hY : yCl zpD89 (zpZ, zpRS, zpP8, zpMT, [yC_AB], (2, 60), 1) K Y) (hr_a : -2147483648 ≤ a ∧ a ≤ 2147483647) (hr_b : -2147483648 ≤ b ∧ b ≤ 2147483647) (hr_t : -2147483648 ≤ t ∧ t ≤ 2147483647) (hr_x : -2147483648 ≤ x ∧ x ≤ 2147483647) (hp0 : 0 ≤ g 1 1 ∧ g 1 1 ≤ 40) (hp1 : 0 ≤ x ∧ x < 100) (hp2 : ∀ n : Nat, (n : Int) < g 1 1 → 1 ≤ g (50 + n) 2 ∧ g (50 + n) 2 ≤ 719) (hK : ∀ (r : Int), (r = ycI g a b t x (Int.toNat (g 1 1))) → K [(1, r)] g) : Y 0 [(3, 7), (1, a), (1, b), (1, t), (1, x), (0, 0), (0, 0), (0, 0), (0, 0), (0, 0), (0, 0)] [] g := by
  refine yrun_ok (sp := fun pc => Nat.beq pc 6) hY 5 0 _ [] g ?_
  show (Y 6 [(3, 7), (1, a), (1, b), (1, t), (1, x), (1, 0), (1, 0), (0, 0), (0, 0), (0, 0), (0, 0)] [] g)
  exact yl_CAOI hY hp1 hp0 hp2 (hK _ rfl) (Int.toNat (g 1 1)) 0 (by omega) (by decide) _ _ _ _
theorem yM_CAO {l : Launch} {Ts : List Cond} {cl : List vw_C} {RO : zRO} (H : zHyp Ts cl RO) : yMet l Ts cl zpZ RO zpMT yC_CAO := ymet_of2 H.1 H.2.1 zpDj H.2.2.1 yRb H.p8 (ymets_cons (yM_AB H) ymets_nil) (zrc1 rfl) (plainFor_of_name zpy8) zpDk89 (fun as g K Y h hA hY => by
  obtain ⟨a, b, t, x, rfl, hp0, hp1, hp2, hK⟩ := h
  exact yv_CAO hY (yAr1 hA (by simp)) (yAr1 hA (by simp)) (yAr1 hA (by simp)) (yAr1 hA (by simp)) hp0 hp1 hp2 hK)
def yP_CAL : yPT := fun as g K => ∃ (s t x : Int), as = [(3, 0), (1, s), (1, t), (1, x)] ∧ (0 ≤ g 1 1 ∧ g 1 1 ≤ 40) ∧ (∀ n : Nat, (n : Int) < g 1 1 → 1 ≤ g (50 + n) 2 ∧ g (50 + n) 2 ≤ 719) ∧ (∀ (r : Int), (¬ (0 ≤ (yb (fun x y => x / y) s 10) ∧ (yb (fun x y => x / y) s 10) < 8 ∧ 0 ≤ (yb (fun x y => x - x / y * y) s 10) ∧ (yb (fun x y => x - x / y * y) s 10) < 8 ∧ 0 ≤ t ∧ t < 4 ∧ 0 ≤ x ∧ x < 100) → r = -1) → ((0 ≤ (yb (fun x y => x / y) s 10) ∧ (yb (fun x y => x / y) s 10) < 8 ∧ 0 ≤ (yb (fun x y => x - x / y * y) s 10) ∧ (yb (fun x y => x - x / y * y) s 10) < 8 ∧ 0 ≤ t ∧ t < 4 ∧ 0 ≤ x ∧ x < 100) → r = ycI g (yb (fun x y => x / y) s 10) (yb (fun x y => x - x / y * y) s 10) t x (Int.toNat (g 1 1))) → K [(1, r)] g)
def yC_CAL : yC := (1, (3, 90), yP_CAL)
set_option maxRecDepth 8000 in
theorem yv_CAL {K : List yV → yM → Prop} {Y : yNx} {g : yM} {s t x : Int} (hY : yCl zpD1 (zpZ, zpRS, zpP0, zpMT, [yC_W, yC_CAO], (3, 90), 1) K Y) (hr_s : -2147483648 ≤ s ∧ s ≤ 2147483647) (hr_t : -2147483648 ≤ t ∧ t ≤ 2147483647) (hr_x : -2147483648 ≤ x ∧ x ≤ 2147483647) (hp0 : 0 ≤ g 1 1 ∧ g 1 1 ≤ 40) (hp1 : ∀ n : Nat, (n : Int) < g 1 1 → 1 ≤ g (50 + n) 2 ∧ g (50 + n) 2 ≤ 719) (hK : ∀ (r : Int), (¬ (0 ≤ (yb (fun x y => x / y) s 10) ∧ (yb (fun x y => x / y) s 10) < 8 ∧ 0 ≤ (yb (fun x y => x - x / y * y) s 10) ∧ (yb (fun x y => x - x / y * y) s 10) < 8 ∧ 0 ≤ t ∧ t < 4 ∧ 0 ≤ x ∧ x < 100) → r = -1) → ((0 ≤ (yb (fun x y => x / y) s 10) ∧ (yb (fun x y => x / y) s 10) < 8 ∧ 0 ≤ (yb (fun x y => x - x / y * y) s 10) ∧ (yb (fun x y => x - x / y * y) s 10) < 8 ∧ 0 ≤ t ∧ t < 4 ∧ 0 ≤ x ∧ x < 100) → r = ycI g (yb (fun x y => x / y) s 10) (yb (fun x y => x - x / y * y) s 10) t x (Int.toNat (g 1 1))) → K [(1, r)] g) : Y 0 [(3, 0), (1, s), (1, t), (1, x), (0, 0), (0, 0)] [] g := by
  refine yrun_ok (sp := fun pc => false) hY 32 0 _ [] g ?_
  show ((10 : Int) ≠ 0 ∧ ((10 : Int) ≠ 0 ∧ (∃ (v1 b2 : Int), [(1, (yb (fun x y => x / y) s 10)), (1, 8)] = [(1, v1), (1, b2)] ∧ (∀ (r3 : Int), ((r3 = 1 ∧ 0 ≤ v1 ∧ v1 < b2) ∨ (r3 = 0 ∧ (v1 < 0 ∨ b2 ≤ v1))) → ((r3 = 0 → (K [(1, (-1))] g)) ∧ (¬ (r3 = 0) → (∃ (v6 b7 : Int), [(1, (yb (fun x y => x - x / y * y) s 10)), (1, 8)] = [(1, v6), (1, b7)] ∧ (∀ (r8 : Int), ((r8 = 1 ∧ 0 ≤ v6 ∧ v6 < b7) ∨ (r8 = 0 ∧ (v6 < 0 ∨ b7 ≤ v6))) → ((r8 = 0 → (K [(1, (-1))] g)) ∧ (¬ (r8 = 0) → (∃ (v11 b12 : Int), [(1, t), (1, 4)] = [(1, v11), (1, b12)] ∧ (∀ (r13 : Int), ((r13 = 1 ∧ 0 ≤ v11 ∧ v11 < b12) ∨ (r13 = 0 ∧ (v11 < 0 ∨ b12 ≤ v11))) → ((r13 = 0 → (K [(1, (-1))] g)) ∧ (¬ (r13 = 0) → (∃ (v16 b17 : Int), [(1, x), (1, 100)] = [(1, v16), (1, b17)] ∧ (∀ (r18 : Int), ((r18 = 1 ∧ 0 ≤ v16 ∧ v16 < b17) ∨ (r18 = 0 ∧ (v16 < 0 ∨ b17 ≤ v16))) → ((r18 ≠ 0 → (∃ (a21 b22 t23 x24 : Int), [(3, 7), (1, (yb (fun x y => x / y) s 10)), (1, (yb (fun x y => x - x / y * y) s 10)), (1, t), (1, x)] = [(3, 7), (1, a21), (1, b22), (1, t23), (1, x24)] ∧ (0 ≤ g 1 1 ∧ g 1 1 ≤ 40) ∧ (0 ≤ x24 ∧ x24 < 100) ∧ (∀ n : Nat, (n : Int) < g 1 1 → 1 ≤ g (50 + n) 2 ∧ g (50 + n) 2 ≤ 719) ∧ (∀ (r25 : Int), (r25 = ycI g a21 b22 t23 x24 (Int.toNat (g 1 1))) → (K [(1, r25)] g)))) ∧ (¬ (r18 ≠ 0) → (K [(1, (-1))] g)))))))))))))))))))
  refine ⟨(by have q1 := yb_rng (fun x y => x / y) s 10; have q2 := yb_rng (fun x y => x - x / y * y) s 10; have q3 := yq10 hr_s; omega), ?_⟩
  refine ⟨(by have q1 := yb_rng (fun x y => x / y) s 10; have q2 := yb_rng (fun x y => x - x / y * y) s 10; have q3 := yq10 hr_s; omega), ?_⟩
  refine ⟨_, _, rfl, ?_⟩
  intro r3 p40
  refine ⟨fun h5 => ?_, fun h5 => ?_⟩
  · have q1 := yb_rng (fun x y => x / y) s 10
    have q2 := yb_rng (fun x y => x - x / y * y) s 10
    have q3 := yq10 hr_s
    exact hK _ (fun _ => rfl) (fun h => absurd h (by omega))
  · refine ⟨_, _, rfl, ?_⟩
    intro r8 p90
    refine ⟨fun h10 => ?_, fun h10 => ?_⟩
    · have q1 := yb_rng (fun x y => x / y) s 10
      have q2 := yb_rng (fun x y => x - x / y * y) s 10
      have q3 := yq10 hr_s
      exact hK _ (fun _ => rfl) (fun h => absurd h (by omega))
    · refine ⟨_, _, rfl, ?_⟩
      intro r13 p140
      refine ⟨fun h15 => ?_, fun h15 => ?_⟩
      · have q1 := yb_rng (fun x y => x / y) s 10
        have q2 := yb_rng (fun x y => x - x / y * y) s 10
        have q3 := yq10 hr_s
        exact hK _ (fun _ => rfl) (fun h => absurd h (by omega))
      · refine ⟨_, _, rfl, ?_⟩
        intro r18 p190
        refine ⟨fun h20 => ?_, fun h20 => ?_⟩
        · refine ⟨_, _, _, _, rfl, (by have q1 := yb_rng (fun x y => x / y) s 10; have q2 := yb_rng (fun x y => x - x / y * y) s 10; have q3 := yq10 hr_s; omega), (by have q1 := yb_rng (fun x y => x / y) s 10; have q2 := yb_rng (fun x y => x - x / y * y) s 10; have q3 := yq10 hr_s; omega), (hp1), ?_⟩
          intro r25 p260
          have q1 := yb_rng (fun x y => x / y) s 10
          have q2 := yb_rng (fun x y => x - x / y * y) s 10
          have q3 := yq10 hr_s
          exact hK _ (fun h => absurd (by omega) h) (fun _ => by assumption)
        · have q1 := yb_rng (fun x y => x / y) s 10
          have q2 := yb_rng (fun x y => x - x / y * y) s 10
          have q3 := yq10 hr_s
          exact hK _ (fun _ => rfl) (fun h => absurd h (by omega))
theorem yM_CAL {l : Launch} {Ts : List Cond} {cl : List vw_C} {RO : zRO} (H : zHyp Ts cl RO) : yMet l Ts cl zpZ RO zpMT yC_CAL := ymet_of2 H.1 H.2.1 zpDj H.2.2.1 yRb H.p0 (ymets_cons (yM_W H) (ymets_cons (yM_CAO H) ymets_nil)) (zrc1 rfl) (plainFor_of_name zpy0) zpDk1 (fun as g K Y h hA hY => by
  obtain ⟨s, t, x, rfl, hp0, hp1, hK⟩ := h
  exact yv_CAL hY (yAr1 hA (by simp)) (yAr1 hA (by simp)) (yAr1 hA (by simp)) hp0 hp1 hK)
def yP_MAL : yPT := fun as g K => ∃ (s t x : Int), as = [(3, 90), (1, s), (1, t), (1, x)] ∧ (0 ≤ g 90 22 ∧ g 90 22 ≤ 40) ∧ (∀ n : Nat, (n : Int) < g 90 22 → 1 ≤ g 102 n ∧ g 102 n ≤ 719) ∧ (∀ (r : Int), (¬ (0 ≤ (yb (fun x y => x / y) s 10) ∧ (yb (fun x y => x / y) s 10) < 8 ∧ 0 ≤ (yb (fun x y => x - x / y * y) s 10) ∧ (yb (fun x y => x - x / y * y) s 10) < 8 ∧ 0 ≤ t ∧ t < 4 ∧ 0 ≤ x ∧ x < 100) → r = -1) → ((0 ≤ (yb (fun x y => x / y) s 10) ∧ (yb (fun x y => x / y) s 10) < 8 ∧ 0 ≤ (yb (fun x y => x - x / y * y) s 10) ∧ (yb (fun x y => x - x / y * y) s 10) < 8 ∧ 0 ≤ t ∧ t < 4 ∧ 0 ≤ x ∧ x < 100) → r = ymI g (yb (fun x y => x / y) s 10) (yb (fun x y => x - x / y * y) s 10) t x (Int.toNat (g 90 22))) → K [(1, r)] g)
def yC_MAL : yC := (135, (3, 85), yP_MAL)
set_option maxRecDepth 8000 in
theorem yl_MALJ {K : List yV → yM → Prop} {Y : yNx} {g : yM} {s t x : Int} (hY : yCl zpD135 (zpZ, zpRS, zpP12, zpMT, [yC_IDY, yC_WM], (3, 85), 1) K Y) (hr_x : 0 ≤ x ∧ x < 100) (hs : 0 ≤ g 90 22 ∧ g 90 22 ≤ 40) (ho : ∀ n : Nat, (n : Int) < g 90 22 → 1 ≤ g 102 n ∧ g 102 n ≤ 719) {i u : Int} (hi : 0 ≤ i ∧ i < g 90 22) (hu : 0 ≤ u ∧ u ≤ 1600) (hE : ∀ w6 w7 w8 : yV, Y 222 [(3, 90), (1, s), (1, t), (1, x), (1, u + ymJ g (yb (fun x y => x / y) s 10) (yb (fun x y => x - x / y * y) s 10) t x (Int.toNat i) (Int.toNat i)), (1, i), w6, w7, w8] [] g) : ∀ (d : Nat) (j : Int), j + d = i → 0 ≤ j → ∀ w7 w8 : yV, Y 61 [(3, 90), (1, s), (1, t), (1, x), (1, u + ymJ g (yb (fun x y => x / y) s 10) (yb (fun x y => x - x / y * y) s 10) t x (Int.toNat i) (Int.toNat j)), (1, i), (1, j), w7, w8] [] g := by
  intro d
  induction d with
  | zero =>
    intro j hd h0 w7 w8
    refine yrun_ok (sp := fun pc => Nat.beq pc 61 || Nat.beq pc 222) hY 88 61 _ [] g ?_
    show ((i ≤ j → (Y 222 [(3, 90), (1, s), (1, t), (1, x), (1, u + ymJ g (yb (fun x y => x / y) s 10) (yb (fun x y => x - x / y * y) s 10) t x (Int.toNat i) (Int.toNat j)), (1, i), (1, j), w7, w8] [] g)) ∧ (¬ (i ≤ j) → (((0 : Int) ≤ i ∧ i < ((40 : Nat) : Int)) ∧ ((10 : Int) ≠ 0 ∧ (((g 105 (Int.toNat i)) ≠ (yb (fun x y => x / y) s 10) → (((0 : Int) ≤ j ∧ j < ((40 : Nat) : Int)) ∧ ((10 : Int) ≠ 0 ∧ (((g 105 (Int.toNat j)) ≠ (yb (fun x y => x / y) s 10) → (((0 : Int) ≤ i ∧ i < ((40 : Nat) : Int)) ∧ (((0 : Int) ≤ j ∧ j < ((40 : Nat) : Int)) ∧ (((0 : Int) = 0 → (Y 61 [(3, 90), (1, s), (1, t), (1, x), (1, (yw (u + ymJ g (yb (fun x y => x / y) s 10) (yb (fun x y => x - x / y * y) s 10) t x (Int.toNat i) (Int.toNat j) + 0))), (1, i), (1, (yw (j + 1))), (1, 0), (1, (yw ((g 102 (Int.toNat i)) - (g 102 (Int.toNat j)))))] [] g)) ∧ (¬ (0 : Int) = 0 → _))))) ∧ (¬ ((g 105 (Int.toNat j)) ≠ (yb (fun x y => x / y) s 10)) → (((0 : Int) ≤ i ∧ i < ((40 : Nat) : Int)) ∧ ((10 : Int) ≠ 0 ∧ (((g 105 (Int.toNat i)) ≠ (yb (fun x y => x - x / y * y) s 10) → (((0 : Int) ≤ i ∧ i < ((40 : Nat) : Int)) ∧ (((0 : Int) ≤ j ∧ j < ((40 : Nat) : Int)) ∧ (((0 : Int) = 0 → (Y 61 [(3, 90), (1, s), (1, t), (1, x), (1, (yw (u + ymJ g (yb (fun x y => x / y) s 10) (yb (fun x y => x - x / y * y) s 10) t x (Int.toNat i) (Int.toNat j) + 0))), (1, i), (1, (yw (j + 1))), (1, 0), (1, (yw ((g 102 (Int.toNat i)) - (g 102 (Int.toNat j)))))] [] g)) ∧ (¬ (0 : Int) = 0 → _))))) ∧ (¬ ((g 105 (Int.toNat i)) ≠ (yb (fun x y => x - x / y * y) s 10)) → (((0 : Int) ≤ i ∧ i < ((40 : Nat) : Int)) ∧ (((0 : Int) ≤ j ∧ j < ((40 : Nat) : Int)) ∧ (((1 : Int) = 0 → _) ∧ (¬ (1 : Int) = 0 → (((0 : Int) ≤ i ∧ i < ((40 : Nat) : Int)) ∧ (((g 101 (Int.toNat i)) ≠ t → (Y 61 [(3, 90), (1, s), (1, t), (1, x), (1, (yw (u + ymJ g (yb (fun x y => x / y) s 10) (yb (fun x y => x - x / y * y) s 10) t x (Int.toNat i) (Int.toNat j) + 0))), (1, i), (1, (yw (j + 1))), (1, 1), (1, (yw ((g 102 (Int.toNat i)) - (g 102 (Int.toNat j)))))] [] g)) ∧ (¬ ((g 101 (Int.toNat i)) ≠ t) → (((0 : Int) ≤ j ∧ j < ((40 : Nat) : Int)) ∧ (((g 101 (Int.toNat j)) ≠ t → (Y 61 [(3, 90), (1, s), (1, t), (1, x), (1, (yw (u + ymJ g (yb (fun x y => x / y) s 10) (yb (fun x y => x - x / y * y) s 10) t x (Int.toNat i) (Int.toNat j) + 0))), (1, i), (1, (yw (j + 1))), (1, 1), (1, (yw ((g 102 (Int.toNat i)) - (g 102 (Int.toNat j)))))] [] g)) ∧ (¬ ((g 101 (Int.toNat j)) ≠ t) → (((0 : Int) ≤ i ∧ i < ((40 : Nat) : Int)) ∧ (((0 : Int) ≤ j ∧ j < ((40 : Nat) : Int)) ∧ (((g 103 (Int.toNat i)) ≠ (g 103 (Int.toNat j)) → (Y 61 [(3, 90), (1, s), (1, t), (1, x), (1, (yw (u + ymJ g (yb (fun x y => x / y) s 10) (yb (fun x y => x - x / y * y) s 10) t x (Int.toNat i) (Int.toNat j) + 0))), (1, i), (1, (yw (j + 1))), (1, 1), (1, (yw ((g 102 (Int.toNat i)) - (g 102 (Int.toNat j)))))] [] g)) ∧ (¬ ((g 103 (Int.toNat i)) ≠ (g 103 (Int.toNat j))) → (∃ (v11 a12 b13 : Int), [(2, (yw ((g 102 (Int.toNat i)) - (g 102 (Int.toNat j))))), (2, (yw (-x))), (2, x)] = [(2, v11), (2, a12), (2, b13)] ∧ (∀ (r14 : Int), ((r14 = 1 ∧ a12 ≤ v11 ∧ v11 ≤ b13) ∨ (r14 = 0 ∧ (v11 < a12 ∨ b13 < v11))) → ((r14 = 0 → (Y 61 [(3, 90), (1, s), (1, t), (1, x), (1, (yw (u + ymJ g (yb (fun x y => x / y) s 10) (yb (fun x y => x - x / y * y) s 10) t x (Int.toNat i) (Int.toNat j) + 0))), (1, i), (1, (yw (j + 1))), (1, 1), (1, (yw ((g 102 (Int.toNat i)) - (g 102 (Int.toNat j)))))] [] g)) ∧ (¬ (r14 = 0) → (Y 61 [(3, 90), (1, s), (1, t), (1, x), (1, (yw (u + ymJ g (yb (fun x y => x / y) s 10) (yb (fun x y => x - x / y * y) s 10) t x (Int.toNat i) (Int.toNat j) + 1))), (1, i), (1, (yw (j + 1))), (1, 1), (1, (yw ((g 102 (Int.toNat i)) - (g 102 (Int.toNat j)))))] [] g)))))))))))))))))))))))))))) ∧ (¬ ((g 105 (Int.toNat i)) ≠ (yb (fun x y => x / y) s 10)) → (((0 : Int) ≤ j ∧ j < ((40 : Nat) : Int)) ∧ ((10 : Int) ≠ 0 ∧ (((g 105 (Int.toNat j)) = (yb (fun x y => x - x / y * y) s 10) → (((0 : Int) ≤ i ∧ i < ((40 : Nat) : Int)) ∧ (((0 : Int) ≤ j ∧ j < ((40 : Nat) : Int)) ∧ (((1 : Int) = 0 → _) ∧ (¬ (1 : Int) = 0 → (((0 : Int) ≤ i ∧ i < ((40 : Nat) : Int)) ∧ (((g 101 (Int.toNat i)) ≠ t → (Y 61 [(3, 90), (1, s), (1, t), (1, x), (1, (yw (u + ymJ g (yb (fun x y => x / y) s 10) (yb (fun x y => x - x / y * y) s 10) t x (Int.toNat i) (Int.toNat j) + 0))), (1, i), (1, (yw (j + 1))), (1, 1), (1, (yw ((g 102 (Int.toNat i)) - (g 102 (Int.toNat j)))))] [] g)) ∧ (¬ ((g 101 (Int.toNat i)) ≠ t) → (((0 : Int) ≤ j ∧ j < ((40 : Nat) : Int)) ∧ (((g 101 (Int.toNat j)) ≠ t → (Y 61 [(3, 90), (1, s), (1, t), (1, x), (1, (yw (u + ymJ g (yb (fun x y => x / y) s 10) (yb (fun x y => x - x / y * y) s 10) t x (Int.toNat i) (Int.toNat j) + 0))), (1, i), (1, (yw (j + 1))), (1, 1), (1, (yw ((g 102 (Int.toNat i)) - (g 102 (Int.toNat j)))))] [] g)) ∧ (¬ ((g 101 (Int.toNat j)) ≠ t) → (((0 : Int) ≤ i ∧ i < ((40 : Nat) : Int)) ∧ (((0 : Int) ≤ j ∧ j < ((40 : Nat) : Int)) ∧ (((g 103 (Int.toNat i)) ≠ (g 103 (Int.toNat j)) → (Y 61 [(3, 90), (1, s), (1, t), (1, x), (1, (yw (u + ymJ g (yb (fun x y => x / y) s 10) (yb (fun x y => x - x / y * y) s 10) t x (Int.toNat i) (Int.toNat j) + 0))), (1, i), (1, (yw (j + 1))), (1, 1), (1, (yw ((g 102 (Int.toNat i)) - (g 102 (Int.toNat j)))))] [] g)) ∧ (¬ ((g 103 (Int.toNat i)) ≠ (g 103 (Int.toNat j))) → (∃ (v22 a23 b24 : Int), [(2, (yw ((g 102 (Int.toNat i)) - (g 102 (Int.toNat j))))), (2, (yw (-x))), (2, x)] = [(2, v22), (2, a23), (2, b24)] ∧ (∀ (r25 : Int), ((r25 = 1 ∧ a23 ≤ v22 ∧ v22 ≤ b24) ∨ (r25 = 0 ∧ (v22 < a23 ∨ b24 < v22))) → ((r25 = 0 → (Y 61 [(3, 90), (1, s), (1, t), (1, x), (1, (yw (u + ymJ g (yb (fun x y => x / y) s 10) (yb (fun x y => x - x / y * y) s 10) t x (Int.toNat i) (Int.toNat j) + 0))), (1, i), (1, (yw (j + 1))), (1, 1), (1, (yw ((g 102 (Int.toNat i)) - (g 102 (Int.toNat j)))))] [] g)) ∧ (¬ (r25 = 0) → (Y 61 [(3, 90), (1, s), (1, t), (1, x), (1, (yw (u + ymJ g (yb (fun x y => x / y) s 10) (yb (fun x y => x - x / y * y) s 10) t x (Int.toNat i) (Int.toNat j) + 1))), (1, i), (1, (yw (j + 1))), (1, 1), (1, (yw ((g 102 (Int.toNat i)) - (g 102 (Int.toNat j)))))] [] g)))))))))))))))))))) ∧ (¬ ((g 105 (Int.toNat j)) = (yb (fun x y => x - x / y * y) s 10)) → (((0 : Int) ≤ j ∧ j < ((40 : Nat) : Int)) ∧ ((10 : Int) ≠ 0 ∧ (((g 105 (Int.toNat j)) ≠ (yb (fun x y => x / y) s 10) → (((0 : Int) ≤ i ∧ i < ((40 : Nat) : Int)) ∧ (((0 : Int) ≤ j ∧ j < ((40 : Nat) : Int)) ∧ (((0 : Int) = 0 → (Y 61 [(3, 90), (1, s), (1, t), (1, x), (1, (yw (u + ymJ g (yb (fun x y => x / y) s 10) (yb (fun x y => x - x / y * y) s 10) t x (Int.toNat i) (Int.toNat j) + 0))), (1, i), (1, (yw (j + 1))), (1, 0), (1, (yw ((g 102 (Int.toNat i)) - (g 102 (Int.toNat j)))))] [] g)) ∧ (¬ (0 : Int) = 0 → _))))) ∧ (¬ ((g 105 (Int.toNat j)) ≠ (yb (fun x y => x / y) s 10)) → (((0 : Int) ≤ i ∧ i < ((40 : Nat) : Int)) ∧ ((10 : Int) ≠ 0 ∧ (((g 105 (Int.toNat i)) ≠ (yb (fun x y => x - x / y * y) s 10) → (((0 : Int) ≤ i ∧ i < ((40 : Nat) : Int)) ∧ (((0 : Int) ≤ j ∧ j < ((40 : Nat) : Int)) ∧ (((0 : Int) = 0 → (Y 61 [(3, 90), (1, s), (1, t), (1, x), (1, (yw (u + ymJ g (yb (fun x y => x / y) s 10) (yb (fun x y => x - x / y * y) s 10) t x (Int.toNat i) (Int.toNat j) + 0))), (1, i), (1, (yw (j + 1))), (1, 0), (1, (yw ((g 102 (Int.toNat i)) - (g 102 (Int.toNat j)))))] [] g)) ∧ (¬ (0 : Int) = 0 → _))))) ∧ (¬ ((g 105 (Int.toNat i)) ≠ (yb (fun x y => x - x / y * y) s 10)) → (((0 : Int) ≤ i ∧ i < ((40 : Nat) : Int)) ∧ (((0 : Int) ≤ j ∧ j < ((40 : Nat) : Int)) ∧ (((1 : Int) = 0 → _) ∧ (¬ (1 : Int) = 0 → (((0 : Int) ≤ i ∧ i < ((40 : Nat) : Int)) ∧ (((g 101 (Int.toNat i)) ≠ t → (Y 61 [(3, 90), (1, s), (1, t), (1, x), (1, (yw (u + ymJ g (yb (fun x y => x / y) s 10) (yb (fun x y => x - x / y * y) s 10) t x (Int.toNat i) (Int.toNat j) + 0))), (1, i), (1, (yw (j + 1))), (1, 1), (1, (yw ((g 102 (Int.toNat i)) - (g 102 (Int.toNat j)))))] [] g)) ∧ (¬ ((g 101 (Int.toNat i)) ≠ t) → (((0 : Int) ≤ j ∧ j < ((40 : Nat) : Int)) ∧ (((g 101 (Int.toNat j)) ≠ t → (Y 61 [(3, 90), (1, s), (1, t), (1, x), (1, (yw (u + ymJ g (yb (fun x y => x / y) s 10) (yb (fun x y => x - x / y * y) s 10) t x (Int.toNat i) (Int.toNat j) + 0))), (1, i), (1, (yw (j + 1))), (1, 1), (1, (yw ((g 102 (Int.toNat i)) - (g 102 (Int.toNat j)))))] [] g)) ∧ (¬ ((g 101 (Int.toNat j)) ≠ t) → (((0 : Int) ≤ i ∧ i < ((40 : Nat) : Int)) ∧ (((0 : Int) ≤ j ∧ j < ((40 : Nat) : Int)) ∧ (((g 103 (Int.toNat i)) ≠ (g 103 (Int.toNat j)) → (Y 61 [(3, 90), (1, s), (1, t), (1, x), (1, (yw (u + ymJ g (yb (fun x y => x / y) s 10) (yb (fun x y => x - x / y * y) s 10) t x (Int.toNat i) (Int.toNat j) + 0))), (1, i), (1, (yw (j + 1))), (1, 1), (1, (yw ((g 102 (Int.toNat i)) - (g 102 (Int.toNat j)))))] [] g)) ∧ (¬ ((g 103 (Int.toNat i)) ≠ (g 103 (Int.toNat j))) → (∃ (v36 a37 b38 : Int), [(2, (yw ((g 102 (Int.toNat i)) - (g 102 (Int.toNat j))))), (2, (yw (-x))), (2, x)] = [(2, v36), (2, a37), (2, b38)] ∧ (∀ (r39 : Int), ((r39 = 1 ∧ a37 ≤ v36 ∧ v36 ≤ b38) ∨ (r39 = 0 ∧ (v36 < a37 ∨ b38 < v36))) → ((r39 = 0 → (Y 61 [(3, 90), (1, s), (1, t), (1, x), (1, (yw (u + ymJ g (yb (fun x y => x / y) s 10) (yb (fun x y => x - x / y * y) s 10) t x (Int.toNat i) (Int.toNat j) + 0))), (1, i), (1, (yw (j + 1))), (1, 1), (1, (yw ((g 102 (Int.toNat i)) - (g 102 (Int.toNat j)))))] [] g)) ∧ (¬ (r39 = 0) → (Y 61 [(3, 90), (1, s), (1, t), (1, x), (1, (yw (u + ymJ g (yb (fun x y => x / y) s 10) (yb (fun x y => x - x / y * y) s 10) t x (Int.toNat i) (Int.toNat j) + 1))), (1, i), (1, (yw (j + 1))), (1, 1), (1, (yw ((g 102 (Int.toNat i)) - (g 102 (Int.toNat j)))))] [] g)))))))))))))))))))))))))))))))))))))
    refine ⟨fun h1 => ?_, fun h1 => ?_⟩
    · have e : j = i := by omega
      subst e
      exact hE _ _ _
    · refine ⟨(by omega), ?_⟩
      refine ⟨(by omega), ?_⟩
      refine ⟨fun h2 => ?_, fun h2 => ?_⟩
      · refine ⟨(by omega), ?_⟩
        refine ⟨(by omega), ?_⟩
        refine ⟨fun h3 => ?_, fun h3 => ?_⟩
        · refine ⟨(by omega), ?_⟩
          refine ⟨(by omega), ?_⟩
          refine ⟨fun _ => ?_, fun h4 => absurd (by decide) h4⟩
          omega
        · refine ⟨(by omega), ?_⟩
          refine ⟨(by omega), ?_⟩
          refine ⟨fun h5 => ?_, fun h5 => ?_⟩
          · refine ⟨(by omega), ?_⟩
            refine ⟨(by omega), ?_⟩
            refine ⟨fun _ => ?_, fun h6 => absurd (by decide) h6⟩
            omega
          · refine ⟨(by omega), ?_⟩
            refine ⟨(by omega), ?_⟩
            refine ⟨fun h7 => absurd h7 (by decide), fun _ => ?_⟩
            refine ⟨(by omega), ?_⟩
            refine ⟨fun h8 => ?_, fun h8 => ?_⟩
            · omega
            · refine ⟨(by omega), ?_⟩
              refine ⟨fun h9 => ?_, fun h9 => ?_⟩
              · omega
              · refine ⟨(by omega), ?_⟩
                refine ⟨(by omega), ?_⟩
                refine ⟨fun h10 => ?_, fun h10 => ?_⟩
                · omega
                · refine ⟨_, _, _, rfl, ?_⟩
                  intro r14 p150
                  refine ⟨fun h16 => ?_, fun h16 => ?_⟩
                  · omega
                  · omega
      · refine ⟨(by omega), ?_⟩
        refine ⟨(by omega), ?_⟩
        refine ⟨fun h17 => ?_, fun h17 => ?_⟩
        · refine ⟨(by omega), ?_⟩
          refine ⟨(by omega), ?_⟩
          refine ⟨fun h18 => absurd h18 (by decide), fun _ => ?_⟩
          refine ⟨(by omega), ?_⟩
          refine ⟨fun h19 => ?_, fun h19 => ?_⟩
          · omega
          · refine ⟨(by omega), ?_⟩
            refine ⟨fun h20 => ?_, fun h20 => ?_⟩
            · omega
            · refine ⟨(by omega), ?_⟩
              refine ⟨(by omega), ?_⟩
              refine ⟨fun h21 => ?_, fun h21 => ?_⟩
              · omega
              · refine ⟨_, _, _, rfl, ?_⟩
                intro r25 p260
                refine ⟨fun h27 => ?_, fun h27 => ?_⟩
                · omega
                · omega
        · refine ⟨(by omega), ?_⟩
          refine ⟨(by omega), ?_⟩
          refine ⟨fun h28 => ?_, fun h28 => ?_⟩
          · refine ⟨(by omega), ?_⟩
            refine ⟨(by omega), ?_⟩
            refine ⟨fun _ => ?_, fun h29 => absurd (by decide) h29⟩
            omega
          · refine ⟨(by omega), ?_⟩
            refine ⟨(by omega), ?_⟩
            refine ⟨fun h30 => ?_, fun h30 => ?_⟩
            · refine ⟨(by omega), ?_⟩
              refine ⟨(by omega), ?_⟩
              refine ⟨fun _ => ?_, fun h31 => absurd (by decide) h31⟩
              omega
            · refine ⟨(by omega), ?_⟩
              refine ⟨(by omega), ?_⟩
              refine ⟨fun h32 => absurd h32 (by decide), fun _ => ?_⟩
              refine ⟨(by omega), ?_⟩
              refine ⟨fun h33 => ?_, fun h33 => ?_⟩
              · omega
              · refine ⟨(by omega), ?_⟩
                refine ⟨fun h34 => ?_, fun h34 => ?_⟩
                · omega
                · refine ⟨(by omega), ?_⟩
                  refine ⟨(by omega), ?_⟩
                  refine ⟨fun h35 => ?_, fun h35 => ?_⟩
                  · omega
                  · refine ⟨_, _, _, rfl, ?_⟩
                    intro r39 p400
                    refine ⟨fun h41 => ?_, fun h41 => ?_⟩
                    · omega
                    · omega
  | succ d ih =>
    intro j hd h0 w7 w8
    refine yrun_ok (sp := fun pc => Nat.beq pc 61 || Nat.beq pc 222) hY 88 61 _ [] g ?_
    show ((i ≤ j → (Y 222 [(3, 90), (1, s), (1, t), (1, x), (1, u + ymJ g (yb (fun x y => x / y) s 10) (yb (fun x y => x - x / y * y) s 10) t x (Int.toNat i) (Int.toNat j)), (1, i), (1, j), w7, w8] [] g)) ∧ (¬ (i ≤ j) → (((0 : Int) ≤ i ∧ i < ((40 : Nat) : Int)) ∧ ((10 : Int) ≠ 0 ∧ (((g 105 (Int.toNat i)) ≠ (yb (fun x y => x / y) s 10) → (((0 : Int) ≤ j ∧ j < ((40 : Nat) : Int)) ∧ ((10 : Int) ≠ 0 ∧ (((g 105 (Int.toNat j)) ≠ (yb (fun x y => x / y) s 10) → (((0 : Int) ≤ i ∧ i < ((40 : Nat) : Int)) ∧ (((0 : Int) ≤ j ∧ j < ((40 : Nat) : Int)) ∧ (((0 : Int) = 0 → (Y 61 [(3, 90), (1, s), (1, t), (1, x), (1, (yw (u + ymJ g (yb (fun x y => x / y) s 10) (yb (fun x y => x - x / y * y) s 10) t x (Int.toNat i) (Int.toNat j) + 0))), (1, i), (1, (yw (j + 1))), (1, 0), (1, (yw ((g 102 (Int.toNat i)) - (g 102 (Int.toNat j)))))] [] g)) ∧ (¬ (0 : Int) = 0 → _))))) ∧ (¬ ((g 105 (Int.toNat j)) ≠ (yb (fun x y => x / y) s 10)) → (((0 : Int) ≤ i ∧ i < ((40 : Nat) : Int)) ∧ ((10 : Int) ≠ 0 ∧ (((g 105 (Int.toNat i)) ≠ (yb (fun x y => x - x / y * y) s 10) → (((0 : Int) ≤ i ∧ i < ((40 : Nat) : Int)) ∧ (((0 : Int) ≤ j ∧ j < ((40 : Nat) : Int)) ∧ (((0 : Int) = 0 → (Y 61 [(3, 90), (1, s), (1, t), (1, x), (1, (yw (u + ymJ g (yb (fun x y => x / y) s 10) (yb (fun x y => x - x / y * y) s 10) t x (Int.toNat i) (Int.toNat j) + 0))), (1, i), (1, (yw (j + 1))), (1, 0), (1, (yw ((g 102 (Int.toNat i)) - (g 102 (Int.toNat j)))))] [] g)) ∧ (¬ (0 : Int) = 0 → _))))) ∧ (¬ ((g 105 (Int.toNat i)) ≠ (yb (fun x y => x - x / y * y) s 10)) → (((0 : Int) ≤ i ∧ i < ((40 : Nat) : Int)) ∧ (((0 : Int) ≤ j ∧ j < ((40 : Nat) : Int)) ∧ (((1 : Int) = 0 → _) ∧ (¬ (1 : Int) = 0 → (((0 : Int) ≤ i ∧ i < ((40 : Nat) : Int)) ∧ (((g 101 (Int.toNat i)) ≠ t → (Y 61 [(3, 90), (1, s), (1, t), (1, x), (1, (yw (u + ymJ g (yb (fun x y => x / y) s 10) (yb (fun x y => x - x / y * y) s 10) t x (Int.toNat i) (Int.toNat j) + 0))), (1, i), (1, (yw (j + 1))), (1, 1), (1, (yw ((g 102 (Int.toNat i)) - (g 102 (Int.toNat j)))))] [] g)) ∧ (¬ ((g 101 (Int.toNat i)) ≠ t) → (((0 : Int) ≤ j ∧ j < ((40 : Nat) : Int)) ∧ (((g 101 (Int.toNat j)) ≠ t → (Y 61 [(3, 90), (1, s), (1, t), (1, x), (1, (yw (u + ymJ g (yb (fun x y => x / y) s 10) (yb (fun x y => x - x / y * y) s 10) t x (Int.toNat i) (Int.toNat j) + 0))), (1, i), (1, (yw (j + 1))), (1, 1), (1, (yw ((g 102 (Int.toNat i)) - (g 102 (Int.toNat j)))))] [] g)) ∧ (¬ ((g 101 (Int.toNat j)) ≠ t) → (((0 : Int) ≤ i ∧ i < ((40 : Nat) : Int)) ∧ (((0 : Int) ≤ j ∧ j < ((40 : Nat) : Int)) ∧ (((g 103 (Int.toNat i)) ≠ (g 103 (Int.toNat j)) → (Y 61 [(3, 90), (1, s), (1, t), (1, x), (1, (yw (u + ymJ g (yb (fun x y => x / y) s 10) (yb (fun x y => x - x / y * y) s 10) t x (Int.toNat i) (Int.toNat j) + 0))), (1, i), (1, (yw (j + 1))), (1, 1), (1, (yw ((g 102 (Int.toNat i)) - (g 102 (Int.toNat j)))))] [] g)) ∧ (¬ ((g 103 (Int.toNat i)) ≠ (g 103 (Int.toNat j))) → (∃ (v11 a12 b13 : Int), [(2, (yw ((g 102 (Int.toNat i)) - (g 102 (Int.toNat j))))), (2, (yw (-x))), (2, x)] = [(2, v11), (2, a12), (2, b13)] ∧ (∀ (r14 : Int), ((r14 = 1 ∧ a12 ≤ v11 ∧ v11 ≤ b13) ∨ (r14 = 0 ∧ (v11 < a12 ∨ b13 < v11))) → ((r14 = 0 → (Y 61 [(3, 90), (1, s), (1, t), (1, x), (1, (yw (u + ymJ g (yb (fun x y => x / y) s 10) (yb (fun x y => x - x / y * y) s 10) t x (Int.toNat i) (Int.toNat j) + 0))), (1, i), (1, (yw (j + 1))), (1, 1), (1, (yw ((g 102 (Int.toNat i)) - (g 102 (Int.toNat j)))))] [] g)) ∧ (¬ (r14 = 0) → (Y 61 [(3, 90), (1, s), (1, t), (1, x), (1, (yw (u + ymJ g (yb (fun x y => x / y) s 10) (yb (fun x y => x - x / y * y) s 10) t x (Int.toNat i) (Int.toNat j) + 1))), (1, i), (1, (yw (j + 1))), (1, 1), (1, (yw ((g 102 (Int.toNat i)) - (g 102 (Int.toNat j)))))] [] g)))))))))))))))))))))))))))) ∧ (¬ ((g 105 (Int.toNat i)) ≠ (yb (fun x y => x / y) s 10)) → (((0 : Int) ≤ j ∧ j < ((40 : Nat) : Int)) ∧ ((10 : Int) ≠ 0 ∧ (((g 105 (Int.toNat j)) = (yb (fun x y => x - x / y * y) s 10) → (((0 : Int) ≤ i ∧ i < ((40 : Nat) : Int)) ∧ (((0 : Int) ≤ j ∧ j < ((40 : Nat) : Int)) ∧ (((1 : Int) = 0 → _) ∧ (¬ (1 : Int) = 0 → (((0 : Int) ≤ i ∧ i < ((40 : Nat) : Int)) ∧ (((g 101 (Int.toNat i)) ≠ t → (Y 61 [(3, 90), (1, s), (1, t), (1, x), (1, (yw (u + ymJ g (yb (fun x y => x / y) s 10) (yb (fun x y => x - x / y * y) s 10) t x (Int.toNat i) (Int.toNat j) + 0))), (1, i), (1, (yw (j + 1))), (1, 1), (1, (yw ((g 102 (Int.toNat i)) - (g 102 (Int.toNat j)))))] [] g)) ∧ (¬ ((g 101 (Int.toNat i)) ≠ t) → (((0 : Int) ≤ j ∧ j < ((40 : Nat) : Int)) ∧ (((g 101 (Int.toNat j)) ≠ t → (Y 61 [(3, 90), (1, s), (1, t), (1, x), (1, (yw (u + ymJ g (yb (fun x y => x / y) s 10) (yb (fun x y => x - x / y * y) s 10) t x (Int.toNat i) (Int.toNat j) + 0))), (1, i), (1, (yw (j + 1))), (1, 1), (1, (yw ((g 102 (Int.toNat i)) - (g 102 (Int.toNat j)))))] [] g)) ∧ (¬ ((g 101 (Int.toNat j)) ≠ t) → (((0 : Int) ≤ i ∧ i < ((40 : Nat) : Int)) ∧ (((0 : Int) ≤ j ∧ j < ((40 : Nat) : Int)) ∧ (((g 103 (Int.toNat i)) ≠ (g 103 (Int.toNat j)) → (Y 61 [(3, 90), (1, s), (1, t), (1, x), (1, (yw (u + ymJ g (yb (fun x y => x / y) s 10) (yb (fun x y => x - x / y * y) s 10) t x (Int.toNat i) (Int.toNat j) + 0))), (1, i), (1, (yw (j + 1))), (1, 1), (1, (yw ((g 102 (Int.toNat i)) - (g 102 (Int.toNat j)))))] [] g)) ∧ (¬ ((g 103 (Int.toNat i)) ≠ (g 103 (Int.toNat j))) → (∃ (v22 a23 b24 : Int), [(2, (yw ((g 102 (Int.toNat i)) - (g 102 (Int.toNat j))))), (2, (yw (-x))), (2, x)] = [(2, v22), (2, a23), (2, b24)] ∧ (∀ (r25 : Int), ((r25 = 1 ∧ a23 ≤ v22 ∧ v22 ≤ b24) ∨ (r25 = 0 ∧ (v22 < a23 ∨ b24 < v22))) → ((r25 = 0 → (Y 61 [(3, 90), (1, s), (1, t), (1, x), (1, (yw (u + ymJ g (yb (fun x y => x / y) s 10) (yb (fun x y => x - x / y * y) s 10) t x (Int.toNat i) (Int.toNat j) + 0))), (1, i), (1, (yw (j + 1))), (1, 1), (1, (yw ((g 102 (Int.toNat i)) - (g 102 (Int.toNat j)))))] [] g)) ∧ (¬ (r25 = 0) → (Y 61 [(3, 90), (1, s), (1, t), (1, x), (1, (yw (u + ymJ g (yb (fun x y => x / y) s 10) (yb (fun x y => x - x / y * y) s 10) t x (Int.toNat i) (Int.toNat j) + 1))), (1, i), (1, (yw (j + 1))), (1, 1), (1, (yw ((g 102 (Int.toNat i)) - (g 102 (Int.toNat j)))))] [] g)))))))))))))))))))) ∧ (¬ ((g 105 (Int.toNat j)) = (yb (fun x y => x - x / y * y) s 10)) → (((0 : Int) ≤ j ∧ j < ((40 : Nat) : Int)) ∧ ((10 : Int) ≠ 0 ∧ (((g 105 (Int.toNat j)) ≠ (yb (fun x y => x / y) s 10) → (((0 : Int) ≤ i ∧ i < ((40 : Nat) : Int)) ∧ (((0 : Int) ≤ j ∧ j < ((40 : Nat) : Int)) ∧ (((0 : Int) = 0 → (Y 61 [(3, 90), (1, s), (1, t), (1, x), (1, (yw (u + ymJ g (yb (fun x y => x / y) s 10) (yb (fun x y => x - x / y * y) s 10) t x (Int.toNat i) (Int.toNat j) + 0))), (1, i), (1, (yw (j + 1))), (1, 0), (1, (yw ((g 102 (Int.toNat i)) - (g 102 (Int.toNat j)))))] [] g)) ∧ (¬ (0 : Int) = 0 → _))))) ∧ (¬ ((g 105 (Int.toNat j)) ≠ (yb (fun x y => x / y) s 10)) → (((0 : Int) ≤ i ∧ i < ((40 : Nat) : Int)) ∧ ((10 : Int) ≠ 0 ∧ (((g 105 (Int.toNat i)) ≠ (yb (fun x y => x - x / y * y) s 10) → (((0 : Int) ≤ i ∧ i < ((40 : Nat) : Int)) ∧ (((0 : Int) ≤ j ∧ j < ((40 : Nat) : Int)) ∧ (((0 : Int) = 0 → (Y 61 [(3, 90), (1, s), (1, t), (1, x), (1, (yw (u + ymJ g (yb (fun x y => x / y) s 10) (yb (fun x y => x - x / y * y) s 10) t x (Int.toNat i) (Int.toNat j) + 0))), (1, i), (1, (yw (j + 1))), (1, 0), (1, (yw ((g 102 (Int.toNat i)) - (g 102 (Int.toNat j)))))] [] g)) ∧ (¬ (0 : Int) = 0 → _))))) ∧ (¬ ((g 105 (Int.toNat i)) ≠ (yb (fun x y => x - x / y * y) s 10)) → (((0 : Int) ≤ i ∧ i < ((40 : Nat) : Int)) ∧ (((0 : Int) ≤ j ∧ j < ((40 : Nat) : Int)) ∧ (((1 : Int) = 0 → _) ∧ (¬ (1 : Int) = 0 → (((0 : Int) ≤ i ∧ i < ((40 : Nat) : Int)) ∧ (((g 101 (Int.toNat i)) ≠ t → (Y 61 [(3, 90), (1, s), (1, t), (1, x), (1, (yw (u + ymJ g (yb (fun x y => x / y) s 10) (yb (fun x y => x - x / y * y) s 10) t x (Int.toNat i) (Int.toNat j) + 0))), (1, i), (1, (yw (j + 1))), (1, 1), (1, (yw ((g 102 (Int.toNat i)) - (g 102 (Int.toNat j)))))] [] g)) ∧ (¬ ((g 101 (Int.toNat i)) ≠ t) → (((0 : Int) ≤ j ∧ j < ((40 : Nat) : Int)) ∧ (((g 101 (Int.toNat j)) ≠ t → (Y 61 [(3, 90), (1, s), (1, t), (1, x), (1, (yw (u + ymJ g (yb (fun x y => x / y) s 10) (yb (fun x y => x - x / y * y) s 10) t x (Int.toNat i) (Int.toNat j) + 0))), (1, i), (1, (yw (j + 1))), (1, 1), (1, (yw ((g 102 (Int.toNat i)) - (g 102 (Int.toNat j)))))] [] g)) ∧ (¬ ((g 101 (Int.toNat j)) ≠ t) → (((0 : Int) ≤ i ∧ i < ((40 : Nat) : Int)) ∧ (((0 : Int) ≤ j ∧ j < ((40 : Nat) : Int)) ∧ (((g 103 (Int.toNat i)) ≠ (g 103 (Int.toNat j)) → (Y 61 [(3, 90), (1, s), (1, t), (1, x), (1, (yw (u + ymJ g (yb (fun x y => x / y) s 10) (yb (fun x y => x - x / y * y) s 10) t x (Int.toNat i) (Int.toNat j) + 0))), (1, i), (1, (yw (j + 1))), (1, 1), (1, (yw ((g 102 (Int.toNat i)) - (g 102 (Int.toNat j)))))] [] g)) ∧ (¬ ((g 103 (Int.toNat i)) ≠ (g 103 (Int.toNat j))) → (∃ (v36 a37 b38 : Int), [(2, (yw ((g 102 (Int.toNat i)) - (g 102 (Int.toNat j))))), (2, (yw (-x))), (2, x)] = [(2, v36), (2, a37), (2, b38)] ∧ (∀ (r39 : Int), ((r39 = 1 ∧ a37 ≤ v36 ∧ v36 ≤ b38) ∨ (r39 = 0 ∧ (v36 < a37 ∨ b38 < v36))) → ((r39 = 0 → (Y 61 [(3, 90), (1, s), (1, t), (1, x), (1, (yw (u + ymJ g (yb (fun x y => x / y) s 10) (yb (fun x y => x - x / y * y) s 10) t x (Int.toNat i) (Int.toNat j) + 0))), (1, i), (1, (yw (j + 1))), (1, 1), (1, (yw ((g 102 (Int.toNat i)) - (g 102 (Int.toNat j)))))] [] g)) ∧ (¬ (r39 = 0) → (Y 61 [(3, 90), (1, s), (1, t), (1, x), (1, (yw (u + ymJ g (yb (fun x y => x / y) s 10) (yb (fun x y => x - x / y * y) s 10) t x (Int.toNat i) (Int.toNat j) + 1))), (1, i), (1, (yw (j + 1))), (1, 1), (1, (yw ((g 102 (Int.toNat i)) - (g 102 (Int.toNat j)))))] [] g)))))))))))))))))))))))))))))))))))))
    refine ⟨fun h1 => ?_, fun h1 => ?_⟩
    · omega
    · refine ⟨(by have o1 := ho (Int.toNat i) (by omega); have o2 := ho (Int.toNat j) (by omega); have jb := ymJ_b (g := g) (a := (yb (fun x y => x / y) s 10)) (b := (yb (fun x y => x - x / y * y) s 10)) (t := t) (x := x) (i := Int.toNat i) (Int.toNat j); omega), ?_⟩
      refine ⟨(by have o1 := ho (Int.toNat i) (by omega); have o2 := ho (Int.toNat j) (by omega); have jb := ymJ_b (g := g) (a := (yb (fun x y => x / y) s 10)) (b := (yb (fun x y => x - x / y * y) s 10)) (t := t) (x := x) (i := Int.toNat i) (Int.toNat j); omega), ?_⟩
      refine ⟨fun h2 => ?_, fun h2 => ?_⟩
      · refine ⟨(by have o1 := ho (Int.toNat i) (by omega); have o2 := ho (Int.toNat j) (by omega); have jb := ymJ_b (g := g) (a := (yb (fun x y => x / y) s 10)) (b := (yb (fun x y => x - x / y * y) s 10)) (t := t) (x := x) (i := Int.toNat i) (Int.toNat j); omega), ?_⟩
        refine ⟨(by have o1 := ho (Int.toNat i) (by omega); have o2 := ho (Int.toNat j) (by omega); have jb := ymJ_b (g := g) (a := (yb (fun x y => x / y) s 10)) (b := (yb (fun x y => x - x / y * y) s 10)) (t := t) (x := x) (i := Int.toNat i) (Int.toNat j); omega), ?_⟩
        refine ⟨fun h3 => ?_, fun h3 => ?_⟩
        · refine ⟨(by have o1 := ho (Int.toNat i) (by omega); have o2 := ho (Int.toNat j) (by omega); have jb := ymJ_b (g := g) (a := (yb (fun x y => x / y) s 10)) (b := (yb (fun x y => x - x / y * y) s 10)) (t := t) (x := x) (i := Int.toNat i) (Int.toNat j); omega), ?_⟩
          refine ⟨(by have o1 := ho (Int.toNat i) (by omega); have o2 := ho (Int.toNat j) (by omega); have jb := ymJ_b (g := g) (a := (yb (fun x y => x / y) s 10)) (b := (yb (fun x y => x - x / y * y) s 10)) (t := t) (x := x) (i := Int.toNat i) (Int.toNat j); omega), ?_⟩
          refine ⟨fun _ => ?_, fun h4 => absurd (by decide) h4⟩
          have o1 := ho (Int.toNat i) (by omega)
          have o2 := ho (Int.toNat j) (by omega)
          have jb := ymJ_b (g := g) (a := (yb (fun x y => x / y) s 10)) (b := (yb (fun x y => x - x / y * y) s 10)) (t := t) (x := x) (i := Int.toNat i) (Int.toNat j)
          have yj : yw (j + 1) = j + 1 := yw_s (j + 1) (by omega) (by omega)
          have e : ymJ g (yb (fun x y => x / y) s 10) (yb (fun x y => x - x / y * y) s 10) t x (Int.toNat i) (Int.toNat (j + 1)) = ymJ g (yb (fun x y => x / y) s 10) (yb (fun x y => x - x / y * y) s 10) t x (Int.toNat i) (Int.toNat j) + 0 := by
            rw [show Int.toNat (j + 1) = Int.toNat j + 1 by omega]
            exact (ymJ_0 (by omega)).trans (Int.add_zero _).symm
          have yu : yw (u + ymJ g (yb (fun x y => x / y) s 10) (yb (fun x y => x - x / y * y) s 10) t x (Int.toNat i) (Int.toNat j) + 0) = u + ymJ g (yb (fun x y => x / y) s 10) (yb (fun x y => x - x / y * y) s 10) t x (Int.toNat i) (Int.toNat (j + 1)) := by
            rw [e]
            have := yw_s (u + ymJ g (yb (fun x y => x / y) s 10) (yb (fun x y => x - x / y * y) s 10) t x (Int.toNat i) (Int.toNat j) + 0) (by omega) (by omega)
            omega
          rw [yj, yu]
          exact ih (j + 1) (by omega) (by omega) _ _
        · refine ⟨(by have o1 := ho (Int.toNat i) (by omega); have o2 := ho (Int.toNat j) (by omega); have jb := ymJ_b (g := g) (a := (yb (fun x y => x / y) s 10)) (b := (yb (fun x y => x - x / y * y) s 10)) (t := t) (x := x) (i := Int.toNat i) (Int.toNat j); omega), ?_⟩
          refine ⟨(by have o1 := ho (Int.toNat i) (by omega); have o2 := ho (Int.toNat j) (by omega); have jb := ymJ_b (g := g) (a := (yb (fun x y => x / y) s 10)) (b := (yb (fun x y => x - x / y * y) s 10)) (t := t) (x := x) (i := Int.toNat i) (Int.toNat j); omega), ?_⟩
          refine ⟨fun h5 => ?_, fun h5 => ?_⟩
          · refine ⟨(by have o1 := ho (Int.toNat i) (by omega); have o2 := ho (Int.toNat j) (by omega); have jb := ymJ_b (g := g) (a := (yb (fun x y => x / y) s 10)) (b := (yb (fun x y => x - x / y * y) s 10)) (t := t) (x := x) (i := Int.toNat i) (Int.toNat j); omega), ?_⟩
            refine ⟨(by have o1 := ho (Int.toNat i) (by omega); have o2 := ho (Int.toNat j) (by omega); have jb := ymJ_b (g := g) (a := (yb (fun x y => x / y) s 10)) (b := (yb (fun x y => x - x / y * y) s 10)) (t := t) (x := x) (i := Int.toNat i) (Int.toNat j); omega), ?_⟩
            refine ⟨fun _ => ?_, fun h6 => absurd (by decide) h6⟩
            have o1 := ho (Int.toNat i) (by omega)
            have o2 := ho (Int.toNat j) (by omega)
            have jb := ymJ_b (g := g) (a := (yb (fun x y => x / y) s 10)) (b := (yb (fun x y => x - x / y * y) s 10)) (t := t) (x := x) (i := Int.toNat i) (Int.toNat j)
            have yj : yw (j + 1) = j + 1 := yw_s (j + 1) (by omega) (by omega)
            have e : ymJ g (yb (fun x y => x / y) s 10) (yb (fun x y => x - x / y * y) s 10) t x (Int.toNat i) (Int.toNat (j + 1)) = ymJ g (yb (fun x y => x / y) s 10) (yb (fun x y => x - x / y * y) s 10) t x (Int.toNat i) (Int.toNat j) + 0 := by
              rw [show Int.toNat (j + 1) = Int.toNat j + 1 by omega]
              exact (ymJ_0 (by omega)).trans (Int.add_zero _).symm
            have yu : yw (u + ymJ g (yb (fun x y => x / y) s 10) (yb (fun x y => x - x / y * y) s 10) t x (Int.toNat i) (Int.toNat j) + 0) = u + ymJ g (yb (fun x y => x / y) s 10) (yb (fun x y => x - x / y * y) s 10) t x (Int.toNat i) (Int.toNat (j + 1)) := by
              rw [e]
              have := yw_s (u + ymJ g (yb (fun x y => x / y) s 10) (yb (fun x y => x - x / y * y) s 10) t x (Int.toNat i) (Int.toNat j) + 0) (by omega) (by omega)
              omega
            rw [yj, yu]
            exact ih (j + 1) (by omega) (by omega) _ _
          · refine ⟨(by have o1 := ho (Int.toNat i) (by omega); have o2 := ho (Int.toNat j) (by omega); have jb := ymJ_b (g := g) (a := (yb (fun x y => x / y) s 10)) (b := (yb (fun x y => x - x / y * y) s 10)) (t := t) (x := x) (i := Int.toNat i) (Int.toNat j); omega), ?_⟩
            refine ⟨(by have o1 := ho (Int.toNat i) (by omega); have o2 := ho (Int.toNat j) (by omega); have jb := ymJ_b (g := g) (a := (yb (fun x y => x / y) s 10)) (b := (yb (fun x y => x - x / y * y) s 10)) (t := t) (x := x) (i := Int.toNat i) (Int.toNat j); omega), ?_⟩
            refine ⟨fun h7 => absurd h7 (by decide), fun _ => ?_⟩
            refine ⟨(by have o1 := ho (Int.toNat i) (by omega); have o2 := ho (Int.toNat j) (by omega); have jb := ymJ_b (g := g) (a := (yb (fun x y => x / y) s 10)) (b := (yb (fun x y => x - x / y * y) s 10)) (t := t) (x := x) (i := Int.toNat i) (Int.toNat j); omega), ?_⟩
            refine ⟨fun h8 => ?_, fun h8 => ?_⟩
            · have o1 := ho (Int.toNat i) (by omega)
              have o2 := ho (Int.toNat j) (by omega)
              have jb := ymJ_b (g := g) (a := (yb (fun x y => x / y) s 10)) (b := (yb (fun x y => x - x / y * y) s 10)) (t := t) (x := x) (i := Int.toNat i) (Int.toNat j)
              have yj : yw (j + 1) = j + 1 := yw_s (j + 1) (by omega) (by omega)
              have e : ymJ g (yb (fun x y => x / y) s 10) (yb (fun x y => x - x / y * y) s 10) t x (Int.toNat i) (Int.toNat (j + 1)) = ymJ g (yb (fun x y => x / y) s 10) (yb (fun x y => x - x / y * y) s 10) t x (Int.toNat i) (Int.toNat j) + 0 := by
                rw [show Int.toNat (j + 1) = Int.toNat j + 1 by omega]
                exact (ymJ_0 (by omega)).trans (Int.add_zero _).symm
              have yu : yw (u + ymJ g (yb (fun x y => x / y) s 10) (yb (fun x y => x - x / y * y) s 10) t x (Int.toNat i) (Int.toNat j) + 0) = u + ymJ g (yb (fun x y => x / y) s 10) (yb (fun x y => x - x / y * y) s 10) t x (Int.toNat i) (Int.toNat (j + 1)) := by
                rw [e]
                have := yw_s (u + ymJ g (yb (fun x y => x / y) s 10) (yb (fun x y => x - x / y * y) s 10) t x (Int.toNat i) (Int.toNat j) + 0) (by omega) (by omega)
                omega
              rw [yj, yu]
              exact ih (j + 1) (by omega) (by omega) _ _
            · refine ⟨(by have o1 := ho (Int.toNat i) (by omega); have o2 := ho (Int.toNat j) (by omega); have jb := ymJ_b (g := g) (a := (yb (fun x y => x / y) s 10)) (b := (yb (fun x y => x - x / y * y) s 10)) (t := t) (x := x) (i := Int.toNat i) (Int.toNat j); omega), ?_⟩
              refine ⟨fun h9 => ?_, fun h9 => ?_⟩
              · have o1 := ho (Int.toNat i) (by omega)
                have o2 := ho (Int.toNat j) (by omega)
                have jb := ymJ_b (g := g) (a := (yb (fun x y => x / y) s 10)) (b := (yb (fun x y => x - x / y * y) s 10)) (t := t) (x := x) (i := Int.toNat i) (Int.toNat j)
                have yj : yw (j + 1) = j + 1 := yw_s (j + 1) (by omega) (by omega)
                have e : ymJ g (yb (fun x y => x / y) s 10) (yb (fun x y => x - x / y * y) s 10) t x (Int.toNat i) (Int.toNat (j + 1)) = ymJ g (yb (fun x y => x / y) s 10) (yb (fun x y => x - x / y * y) s 10) t x (Int.toNat i) (Int.toNat j) + 0 := by
                  rw [show Int.toNat (j + 1) = Int.toNat j + 1 by omega]
                  exact (ymJ_0 (by omega)).trans (Int.add_zero _).symm
                have yu : yw (u + ymJ g (yb (fun x y => x / y) s 10) (yb (fun x y => x - x / y * y) s 10) t x (Int.toNat i) (Int.toNat j) + 0) = u + ymJ g (yb (fun x y => x / y) s 10) (yb (fun x y => x - x / y * y) s 10) t x (Int.toNat i) (Int.toNat (j + 1)) := by
                  rw [e]
                  have := yw_s (u + ymJ g (yb (fun x y => x / y) s 10) (yb (fun x y => x - x / y * y) s 10) t x (Int.toNat i) (Int.toNat j) + 0) (by omega) (by omega)
                  omega
                rw [yj, yu]
                exact ih (j + 1) (by omega) (by omega) _ _
              · refine ⟨(by have o1 := ho (Int.toNat i) (by omega); have o2 := ho (Int.toNat j) (by omega); have jb := ymJ_b (g := g) (a := (yb (fun x y => x / y) s 10)) (b := (yb (fun x y => x - x / y * y) s 10)) (t := t) (x := x) (i := Int.toNat i) (Int.toNat j); omega), ?_⟩
                refine ⟨(by have o1 := ho (Int.toNat i) (by omega); have o2 := ho (Int.toNat j) (by omega); have jb := ymJ_b (g := g) (a := (yb (fun x y => x / y) s 10)) (b := (yb (fun x y => x - x / y * y) s 10)) (t := t) (x := x) (i := Int.toNat i) (Int.toNat j); omega), ?_⟩
                refine ⟨fun h10 => ?_, fun h10 => ?_⟩
                · have o1 := ho (Int.toNat i) (by omega)
                  have o2 := ho (Int.toNat j) (by omega)
                  have jb := ymJ_b (g := g) (a := (yb (fun x y => x / y) s 10)) (b := (yb (fun x y => x - x / y * y) s 10)) (t := t) (x := x) (i := Int.toNat i) (Int.toNat j)
                  have yj : yw (j + 1) = j + 1 := yw_s (j + 1) (by omega) (by omega)
                  have e : ymJ g (yb (fun x y => x / y) s 10) (yb (fun x y => x - x / y * y) s 10) t x (Int.toNat i) (Int.toNat (j + 1)) = ymJ g (yb (fun x y => x / y) s 10) (yb (fun x y => x - x / y * y) s 10) t x (Int.toNat i) (Int.toNat j) + 0 := by
                    rw [show Int.toNat (j + 1) = Int.toNat j + 1 by omega]
                    exact (ymJ_0 (by omega)).trans (Int.add_zero _).symm
                  have yu : yw (u + ymJ g (yb (fun x y => x / y) s 10) (yb (fun x y => x - x / y * y) s 10) t x (Int.toNat i) (Int.toNat j) + 0) = u + ymJ g (yb (fun x y => x / y) s 10) (yb (fun x y => x - x / y * y) s 10) t x (Int.toNat i) (Int.toNat (j + 1)) := by
                    rw [e]
                    have := yw_s (u + ymJ g (yb (fun x y => x / y) s 10) (yb (fun x y => x - x / y * y) s 10) t x (Int.toNat i) (Int.toNat j) + 0) (by omega) (by omega)
                    omega
                  rw [yj, yu]
                  exact ih (j + 1) (by omega) (by omega) _ _
                · refine ⟨_, _, _, rfl, ?_⟩
                  intro r14 p150
                  refine ⟨fun h16 => ?_, fun h16 => ?_⟩
                  · have o1 := ho (Int.toNat i) (by omega)
                    have o2 := ho (Int.toNat j) (by omega)
                    have jb := ymJ_b (g := g) (a := (yb (fun x y => x / y) s 10)) (b := (yb (fun x y => x - x / y * y) s 10)) (t := t) (x := x) (i := Int.toNat i) (Int.toNat j)
                    have := yw_s (-x)
                    have := yw_s ((g 102 (Int.toNat i)) - (g 102 (Int.toNat j)))
                    have yj : yw (j + 1) = j + 1 := yw_s (j + 1) (by omega) (by omega)
                    have e : ymJ g (yb (fun x y => x / y) s 10) (yb (fun x y => x - x / y * y) s 10) t x (Int.toNat i) (Int.toNat (j + 1)) = ymJ g (yb (fun x y => x / y) s 10) (yb (fun x y => x - x / y * y) s 10) t x (Int.toNat i) (Int.toNat j) + 0 := by
                      rw [show Int.toNat (j + 1) = Int.toNat j + 1 by omega]
                      exact (ymJ_0 (by omega)).trans (Int.add_zero _).symm
                    have yu : yw (u + ymJ g (yb (fun x y => x / y) s 10) (yb (fun x y => x - x / y * y) s 10) t x (Int.toNat i) (Int.toNat j) + 0) = u + ymJ g (yb (fun x y => x / y) s 10) (yb (fun x y => x - x / y * y) s 10) t x (Int.toNat i) (Int.toNat (j + 1)) := by
                      rw [e]
                      have := yw_s (u + ymJ g (yb (fun x y => x / y) s 10) (yb (fun x y => x - x / y * y) s 10) t x (Int.toNat i) (Int.toNat j) + 0) (by omega) (by omega)
                      omega
                    rw [yj, yu]
                    exact ih (j + 1) (by omega) (by omega) _ _
                  · have o1 := ho (Int.toNat i) (by omega)
                    have o2 := ho (Int.toNat j) (by omega)
                    have jb := ymJ_b (g := g) (a := (yb (fun x y => x / y) s 10)) (b := (yb (fun x y => x - x / y * y) s 10)) (t := t) (x := x) (i := Int.toNat i) (Int.toNat j)
                    have := yw_s (-x)
                    have := yw_s ((g 102 (Int.toNat i)) - (g 102 (Int.toNat j)))
                    have yj : yw (j + 1) = j + 1 := yw_s (j + 1) (by omega) (by omega)
                    have e : ymJ g (yb (fun x y => x / y) s 10) (yb (fun x y => x - x / y * y) s 10) t x (Int.toNat i) (Int.toNat (j + 1)) = ymJ g (yb (fun x y => x / y) s 10) (yb (fun x y => x - x / y * y) s 10) t x (Int.toNat i) (Int.toNat j) + 1 := by
                      rw [show Int.toNat (j + 1) = Int.toNat j + 1 by omega]
                      exact ymJ_1 (by omega)
                    have yu : yw (u + ymJ g (yb (fun x y => x / y) s 10) (yb (fun x y => x - x / y * y) s 10) t x (Int.toNat i) (Int.toNat j) + 1) = u + ymJ g (yb (fun x y => x / y) s 10) (yb (fun x y => x - x / y * y) s 10) t x (Int.toNat i) (Int.toNat (j + 1)) := by
                      rw [e]
                      have := yw_s (u + ymJ g (yb (fun x y => x / y) s 10) (yb (fun x y => x - x / y * y) s 10) t x (Int.toNat i) (Int.toNat j) + 1) (by omega) (by omega)
                      omega
                    rw [yj, yu]
                    exact ih (j + 1) (by omega) (by omega) _ _
      · refine ⟨(by have o1 := ho (Int.toNat i) (by omega); have o2 := ho (Int.toNat j) (by omega); have jb := ymJ_b (g := g) (a := (yb (fun x y => x / y) s 10)) (b := (yb (fun x y => x - x / y * y) s 10)) (t := t) (x := x) (i := Int.toNat i) (Int.toNat j); omega), ?_⟩
        refine ⟨(by have o1 := ho (Int.toNat i) (by omega); have o2 := ho (Int.toNat j) (by omega); have jb := ymJ_b (g := g) (a := (yb (fun x y => x / y) s 10)) (b := (yb (fun x y => x - x / y * y) s 10)) (t := t) (x := x) (i := Int.toNat i) (Int.toNat j); omega), ?_⟩
        refine ⟨fun h17 => ?_, fun h17 => ?_⟩
        · refine ⟨(by have o1 := ho (Int.toNat i) (by omega); have o2 := ho (Int.toNat j) (by omega); have jb := ymJ_b (g := g) (a := (yb (fun x y => x / y) s 10)) (b := (yb (fun x y => x - x / y * y) s 10)) (t := t) (x := x) (i := Int.toNat i) (Int.toNat j); omega), ?_⟩
          refine ⟨(by have o1 := ho (Int.toNat i) (by omega); have o2 := ho (Int.toNat j) (by omega); have jb := ymJ_b (g := g) (a := (yb (fun x y => x / y) s 10)) (b := (yb (fun x y => x - x / y * y) s 10)) (t := t) (x := x) (i := Int.toNat i) (Int.toNat j); omega), ?_⟩
          refine ⟨fun h18 => absurd h18 (by decide), fun _ => ?_⟩
          refine ⟨(by have o1 := ho (Int.toNat i) (by omega); have o2 := ho (Int.toNat j) (by omega); have jb := ymJ_b (g := g) (a := (yb (fun x y => x / y) s 10)) (b := (yb (fun x y => x - x / y * y) s 10)) (t := t) (x := x) (i := Int.toNat i) (Int.toNat j); omega), ?_⟩
          refine ⟨fun h19 => ?_, fun h19 => ?_⟩
          · have o1 := ho (Int.toNat i) (by omega)
            have o2 := ho (Int.toNat j) (by omega)
            have jb := ymJ_b (g := g) (a := (yb (fun x y => x / y) s 10)) (b := (yb (fun x y => x - x / y * y) s 10)) (t := t) (x := x) (i := Int.toNat i) (Int.toNat j)
            have yj : yw (j + 1) = j + 1 := yw_s (j + 1) (by omega) (by omega)
            have e : ymJ g (yb (fun x y => x / y) s 10) (yb (fun x y => x - x / y * y) s 10) t x (Int.toNat i) (Int.toNat (j + 1)) = ymJ g (yb (fun x y => x / y) s 10) (yb (fun x y => x - x / y * y) s 10) t x (Int.toNat i) (Int.toNat j) + 0 := by
              rw [show Int.toNat (j + 1) = Int.toNat j + 1 by omega]
              exact (ymJ_0 (by omega)).trans (Int.add_zero _).symm
            have yu : yw (u + ymJ g (yb (fun x y => x / y) s 10) (yb (fun x y => x - x / y * y) s 10) t x (Int.toNat i) (Int.toNat j) + 0) = u + ymJ g (yb (fun x y => x / y) s 10) (yb (fun x y => x - x / y * y) s 10) t x (Int.toNat i) (Int.toNat (j + 1)) := by
              rw [e]
              have := yw_s (u + ymJ g (yb (fun x y => x / y) s 10) (yb (fun x y => x - x / y * y) s 10) t x (Int.toNat i) (Int.toNat j) + 0) (by omega) (by omega)
              omega
            rw [yj, yu]
            exact ih (j + 1) (by omega) (by omega) _ _
          · refine ⟨(by have o1 := ho (Int.toNat i) (by omega); have o2 := ho (Int.toNat j) (by omega); have jb := ymJ_b (g := g) (a := (yb (fun x y => x / y) s 10)) (b := (yb (fun x y => x - x / y * y) s 10)) (t := t) (x := x) (i := Int.toNat i) (Int.toNat j); omega), ?_⟩
            refine ⟨fun h20 => ?_, fun h20 => ?_⟩
            · have o1 := ho (Int.toNat i) (by omega)
              have o2 := ho (Int.toNat j) (by omega)
              have jb := ymJ_b (g := g) (a := (yb (fun x y => x / y) s 10)) (b := (yb (fun x y => x - x / y * y) s 10)) (t := t) (x := x) (i := Int.toNat i) (Int.toNat j)
              have yj : yw (j + 1) = j + 1 := yw_s (j + 1) (by omega) (by omega)
              have e : ymJ g (yb (fun x y => x / y) s 10) (yb (fun x y => x - x / y * y) s 10) t x (Int.toNat i) (Int.toNat (j + 1)) = ymJ g (yb (fun x y => x / y) s 10) (yb (fun x y => x - x / y * y) s 10) t x (Int.toNat i) (Int.toNat j) + 0 := by
                rw [show Int.toNat (j + 1) = Int.toNat j + 1 by omega]
                exact (ymJ_0 (by omega)).trans (Int.add_zero _).symm
              have yu : yw (u + ymJ g (yb (fun x y => x / y) s 10) (yb (fun x y => x - x / y * y) s 10) t x (Int.toNat i) (Int.toNat j) + 0) = u + ymJ g (yb (fun x y => x / y) s 10) (yb (fun x y => x - x / y * y) s 10) t x (Int.toNat i) (Int.toNat (j + 1)) := by
                rw [e]
                have := yw_s (u + ymJ g (yb (fun x y => x / y) s 10) (yb (fun x y => x - x / y * y) s 10) t x (Int.toNat i) (Int.toNat j) + 0) (by omega) (by omega)
                omega
              rw [yj, yu]
              exact ih (j + 1) (by omega) (by omega) _ _
            · refine ⟨(by have o1 := ho (Int.toNat i) (by omega); have o2 := ho (Int.toNat j) (by omega); have jb := ymJ_b (g := g) (a := (yb (fun x y => x / y) s 10)) (b := (yb (fun x y => x - x / y * y) s 10)) (t := t) (x := x) (i := Int.toNat i) (Int.toNat j); omega), ?_⟩
              refine ⟨(by have o1 := ho (Int.toNat i) (by omega); have o2 := ho (Int.toNat j) (by omega); have jb := ymJ_b (g := g) (a := (yb (fun x y => x / y) s 10)) (b := (yb (fun x y => x - x / y * y) s 10)) (t := t) (x := x) (i := Int.toNat i) (Int.toNat j); omega), ?_⟩
              refine ⟨fun h21 => ?_, fun h21 => ?_⟩
              · have o1 := ho (Int.toNat i) (by omega)
                have o2 := ho (Int.toNat j) (by omega)
                have jb := ymJ_b (g := g) (a := (yb (fun x y => x / y) s 10)) (b := (yb (fun x y => x - x / y * y) s 10)) (t := t) (x := x) (i := Int.toNat i) (Int.toNat j)
                have yj : yw (j + 1) = j + 1 := yw_s (j + 1) (by omega) (by omega)
                have e : ymJ g (yb (fun x y => x / y) s 10) (yb (fun x y => x - x / y * y) s 10) t x (Int.toNat i) (Int.toNat (j + 1)) = ymJ g (yb (fun x y => x / y) s 10) (yb (fun x y => x - x / y * y) s 10) t x (Int.toNat i) (Int.toNat j) + 0 := by
                  rw [show Int.toNat (j + 1) = Int.toNat j + 1 by omega]
                  exact (ymJ_0 (by omega)).trans (Int.add_zero _).symm
                have yu : yw (u + ymJ g (yb (fun x y => x / y) s 10) (yb (fun x y => x - x / y * y) s 10) t x (Int.toNat i) (Int.toNat j) + 0) = u + ymJ g (yb (fun x y => x / y) s 10) (yb (fun x y => x - x / y * y) s 10) t x (Int.toNat i) (Int.toNat (j + 1)) := by
                  rw [e]
                  have := yw_s (u + ymJ g (yb (fun x y => x / y) s 10) (yb (fun x y => x - x / y * y) s 10) t x (Int.toNat i) (Int.toNat j) + 0) (by omega) (by omega)
                  omega
                rw [yj, yu]
                exact ih (j + 1) (by omega) (by omega) _ _
              · refine ⟨_, _, _, rfl, ?_⟩
                intro r25 p260
                refine ⟨fun h27 => ?_, fun h27 => ?_⟩
                · have o1 := ho (Int.toNat i) (by omega)
                  have o2 := ho (Int.toNat j) (by omega)
                  have jb := ymJ_b (g := g) (a := (yb (fun x y => x / y) s 10)) (b := (yb (fun x y => x - x / y * y) s 10)) (t := t) (x := x) (i := Int.toNat i) (Int.toNat j)
                  have := yw_s (-x)
                  have := yw_s ((g 102 (Int.toNat i)) - (g 102 (Int.toNat j)))
                  have yj : yw (j + 1) = j + 1 := yw_s (j + 1) (by omega) (by omega)
                  have e : ymJ g (yb (fun x y => x / y) s 10) (yb (fun x y => x - x / y * y) s 10) t x (Int.toNat i) (Int.toNat (j + 1)) = ymJ g (yb (fun x y => x / y) s 10) (yb (fun x y => x - x / y * y) s 10) t x (Int.toNat i) (Int.toNat j) + 0 := by
                    rw [show Int.toNat (j + 1) = Int.toNat j + 1 by omega]
                    exact (ymJ_0 (by omega)).trans (Int.add_zero _).symm
                  have yu : yw (u + ymJ g (yb (fun x y => x / y) s 10) (yb (fun x y => x - x / y * y) s 10) t x (Int.toNat i) (Int.toNat j) + 0) = u + ymJ g (yb (fun x y => x / y) s 10) (yb (fun x y => x - x / y * y) s 10) t x (Int.toNat i) (Int.toNat (j + 1)) := by
                    rw [e]
                    have := yw_s (u + ymJ g (yb (fun x y => x / y) s 10) (yb (fun x y => x - x / y * y) s 10) t x (Int.toNat i) (Int.toNat j) + 0) (by omega) (by omega)
                    omega
                  rw [yj, yu]
                  exact ih (j + 1) (by omega) (by omega) _ _
                · have o1 := ho (Int.toNat i) (by omega)
                  have o2 := ho (Int.toNat j) (by omega)
                  have jb := ymJ_b (g := g) (a := (yb (fun x y => x / y) s 10)) (b := (yb (fun x y => x - x / y * y) s 10)) (t := t) (x := x) (i := Int.toNat i) (Int.toNat j)
                  have := yw_s (-x)
                  have := yw_s ((g 102 (Int.toNat i)) - (g 102 (Int.toNat j)))
                  have yj : yw (j + 1) = j + 1 := yw_s (j + 1) (by omega) (by omega)
                  have e : ymJ g (yb (fun x y => x / y) s 10) (yb (fun x y => x - x / y * y) s 10) t x (Int.toNat i) (Int.toNat (j + 1)) = ymJ g (yb (fun x y => x / y) s 10) (yb (fun x y => x - x / y * y) s 10) t x (Int.toNat i) (Int.toNat j) + 1 := by
                    rw [show Int.toNat (j + 1) = Int.toNat j + 1 by omega]
                    exact ymJ_1 (by omega)
                  have yu : yw (u + ymJ g (yb (fun x y => x / y) s 10) (yb (fun x y => x - x / y * y) s 10) t x (Int.toNat i) (Int.toNat j) + 1) = u + ymJ g (yb (fun x y => x / y) s 10) (yb (fun x y => x - x / y * y) s 10) t x (Int.toNat i) (Int.toNat (j + 1)) := by
                    rw [e]
                    have := yw_s (u + ymJ g (yb (fun x y => x / y) s 10) (yb (fun x y => x - x / y * y) s 10) t x (Int.toNat i) (Int.toNat j) + 1) (by omega) (by omega)
                    omega
                  rw [yj, yu]
                  exact ih (j + 1) (by omega) (by omega) _ _
        · refine ⟨(by have o1 := ho (Int.toNat i) (by omega); have o2 := ho (Int.toNat j) (by omega); have jb := ymJ_b (g := g) (a := (yb (fun x y => x / y) s 10)) (b := (yb (fun x y => x - x / y * y) s 10)) (t := t) (x := x) (i := Int.toNat i) (Int.toNat j); omega), ?_⟩
          refine ⟨(by have o1 := ho (Int.toNat i) (by omega); have o2 := ho (Int.toNat j) (by omega); have jb := ymJ_b (g := g) (a := (yb (fun x y => x / y) s 10)) (b := (yb (fun x y => x - x / y * y) s 10)) (t := t) (x := x) (i := Int.toNat i) (Int.toNat j); omega), ?_⟩
          refine ⟨fun h28 => ?_, fun h28 => ?_⟩
          · refine ⟨(by have o1 := ho (Int.toNat i) (by omega); have o2 := ho (Int.toNat j) (by omega); have jb := ymJ_b (g := g) (a := (yb (fun x y => x / y) s 10)) (b := (yb (fun x y => x - x / y * y) s 10)) (t := t) (x := x) (i := Int.toNat i) (Int.toNat j); omega), ?_⟩
            refine ⟨(by have o1 := ho (Int.toNat i) (by omega); have o2 := ho (Int.toNat j) (by omega); have jb := ymJ_b (g := g) (a := (yb (fun x y => x / y) s 10)) (b := (yb (fun x y => x - x / y * y) s 10)) (t := t) (x := x) (i := Int.toNat i) (Int.toNat j); omega), ?_⟩
            refine ⟨fun _ => ?_, fun h29 => absurd (by decide) h29⟩
            have o1 := ho (Int.toNat i) (by omega)
            have o2 := ho (Int.toNat j) (by omega)
            have jb := ymJ_b (g := g) (a := (yb (fun x y => x / y) s 10)) (b := (yb (fun x y => x - x / y * y) s 10)) (t := t) (x := x) (i := Int.toNat i) (Int.toNat j)
            have yj : yw (j + 1) = j + 1 := yw_s (j + 1) (by omega) (by omega)
            have e : ymJ g (yb (fun x y => x / y) s 10) (yb (fun x y => x - x / y * y) s 10) t x (Int.toNat i) (Int.toNat (j + 1)) = ymJ g (yb (fun x y => x / y) s 10) (yb (fun x y => x - x / y * y) s 10) t x (Int.toNat i) (Int.toNat j) + 0 := by
              rw [show Int.toNat (j + 1) = Int.toNat j + 1 by omega]
              exact (ymJ_0 (by omega)).trans (Int.add_zero _).symm
            have yu : yw (u + ymJ g (yb (fun x y => x / y) s 10) (yb (fun x y => x - x / y * y) s 10) t x (Int.toNat i) (Int.toNat j) + 0) = u + ymJ g (yb (fun x y => x / y) s 10) (yb (fun x y => x - x / y * y) s 10) t x (Int.toNat i) (Int.toNat (j + 1)) := by
              rw [e]
              have := yw_s (u + ymJ g (yb (fun x y => x / y) s 10) (yb (fun x y => x - x / y * y) s 10) t x (Int.toNat i) (Int.toNat j) + 0) (by omega) (by omega)
              omega
            rw [yj, yu]
            exact ih (j + 1) (by omega) (by omega) _ _
          · refine ⟨(by have o1 := ho (Int.toNat i) (by omega); have o2 := ho (Int.toNat j) (by omega); have jb := ymJ_b (g := g) (a := (yb (fun x y => x / y) s 10)) (b := (yb (fun x y => x - x / y * y) s 10)) (t := t) (x := x) (i := Int.toNat i) (Int.toNat j); omega), ?_⟩
            refine ⟨(by have o1 := ho (Int.toNat i) (by omega); have o2 := ho (Int.toNat j) (by omega); have jb := ymJ_b (g := g) (a := (yb (fun x y => x / y) s 10)) (b := (yb (fun x y => x - x / y * y) s 10)) (t := t) (x := x) (i := Int.toNat i) (Int.toNat j); omega), ?_⟩
            refine ⟨fun h30 => ?_, fun h30 => ?_⟩
            · refine ⟨(by have o1 := ho (Int.toNat i) (by omega); have o2 := ho (Int.toNat j) (by omega); have jb := ymJ_b (g := g) (a := (yb (fun x y => x / y) s 10)) (b := (yb (fun x y => x - x / y * y) s 10)) (t := t) (x := x) (i := Int.toNat i) (Int.toNat j); omega), ?_⟩
              refine ⟨(by have o1 := ho (Int.toNat i) (by omega); have o2 := ho (Int.toNat j) (by omega); have jb := ymJ_b (g := g) (a := (yb (fun x y => x / y) s 10)) (b := (yb (fun x y => x - x / y * y) s 10)) (t := t) (x := x) (i := Int.toNat i) (Int.toNat j); omega), ?_⟩
              refine ⟨fun _ => ?_, fun h31 => absurd (by decide) h31⟩
              have o1 := ho (Int.toNat i) (by omega)
              have o2 := ho (Int.toNat j) (by omega)
              have jb := ymJ_b (g := g) (a := (yb (fun x y => x / y) s 10)) (b := (yb (fun x y => x - x / y * y) s 10)) (t := t) (x := x) (i := Int.toNat i) (Int.toNat j)
              have yj : yw (j + 1) = j + 1 := yw_s (j + 1) (by omega) (by omega)
              have e : ymJ g (yb (fun x y => x / y) s 10) (yb (fun x y => x - x / y * y) s 10) t x (Int.toNat i) (Int.toNat (j + 1)) = ymJ g (yb (fun x y => x / y) s 10) (yb (fun x y => x - x / y * y) s 10) t x (Int.toNat i) (Int.toNat j) + 0 := by
                rw [show Int.toNat (j + 1) = Int.toNat j + 1 by omega]
                exact (ymJ_0 (by omega)).trans (Int.add_zero _).symm
              have yu : yw (u + ymJ g (yb (fun x y => x / y) s 10) (yb (fun x y => x - x / y * y) s 10) t x (Int.toNat i) (Int.toNat j) + 0) = u + ymJ g (yb (fun x y => x / y) s 10) (yb (fun x y => x - x / y * y) s 10) t x (Int.toNat i) (Int.toNat (j + 1)) := by
                rw [e]
                have := yw_s (u + ymJ g (yb (fun x y => x / y) s 10) (yb (fun x y => x - x / y * y) s 10) t x (Int.toNat i) (Int.toNat j) + 0) (by omega) (by omega)
                omega
              rw [yj, yu]
              exact ih (j + 1) (by omega) (by omega) _ _
            · refine ⟨(by have o1 := ho (Int.toNat i) (by omega); have o2 := ho (Int.toNat j) (by omega); have jb := ymJ_b (g := g) (a := (yb (fun x y => x / y) s 10)) (b := (yb (fun x y => x - x / y * y) s 10)) (t := t) (x := x) (i := Int.toNat i) (Int.toNat j); omega), ?_⟩
              refine ⟨(by have o1 := ho (Int.toNat i) (by omega); have o2 := ho (Int.toNat j) (by omega); have jb := ymJ_b (g := g) (a := (yb (fun x y => x / y) s 10)) (b := (yb (fun x y => x - x / y * y) s 10)) (t := t) (x := x) (i := Int.toNat i) (Int.toNat j); omega), ?_⟩
              refine ⟨fun h32 => absurd h32 (by decide), fun _ => ?_⟩
              refine ⟨(by have o1 := ho (Int.toNat i) (by omega); have o2 := ho (Int.toNat j) (by omega); have jb := ymJ_b (g := g) (a := (yb (fun x y => x / y) s 10)) (b := (yb (fun x y => x - x / y * y) s 10)) (t := t) (x := x) (i := Int.toNat i) (Int.toNat j); omega), ?_⟩
              refine ⟨fun h33 => ?_, fun h33 => ?_⟩
              · have o1 := ho (Int.toNat i) (by omega)
                have o2 := ho (Int.toNat j) (by omega)
                have jb := ymJ_b (g := g) (a := (yb (fun x y => x / y) s 10)) (b := (yb (fun x y => x - x / y * y) s 10)) (t := t) (x := x) (i := Int.toNat i) (Int.toNat j)
                have yj : yw (j + 1) = j + 1 := yw_s (j + 1) (by omega) (by omega)
                have e : ymJ g (yb (fun x y => x / y) s 10) (yb (fun x y => x - x / y * y) s 10) t x (Int.toNat i) (Int.toNat (j + 1)) = ymJ g (yb (fun x y => x / y) s 10) (yb (fun x y => x - x / y * y) s 10) t x (Int.toNat i) (Int.toNat j) + 0 := by
                  rw [show Int.toNat (j + 1) = Int.toNat j + 1 by omega]
                  exact (ymJ_0 (by omega)).trans (Int.add_zero _).symm
                have yu : yw (u + ymJ g (yb (fun x y => x / y) s 10) (yb (fun x y => x - x / y * y) s 10) t x (Int.toNat i) (Int.toNat j) + 0) = u + ymJ g (yb (fun x y => x / y) s 10) (yb (fun x y => x - x / y * y) s 10) t x (Int.toNat i) (Int.toNat (j + 1)) := by
                  rw [e]
                  have := yw_s (u + ymJ g (yb (fun x y => x / y) s 10) (yb (fun x y => x - x / y * y) s 10) t x (Int.toNat i) (Int.toNat j) + 0) (by omega) (by omega)
                  omega
                rw [yj, yu]
                exact ih (j + 1) (by omega) (by omega) _ _
              · refine ⟨(by have o1 := ho (Int.toNat i) (by omega); have o2 := ho (Int.toNat j) (by omega); have jb := ymJ_b (g := g) (a := (yb (fun x y => x / y) s 10)) (b := (yb (fun x y => x - x / y * y) s 10)) (t := t) (x := x) (i := Int.toNat i) (Int.toNat j); omega), ?_⟩
                refine ⟨fun h34 => ?_, fun h34 => ?_⟩
                · have o1 := ho (Int.toNat i) (by omega)
                  have o2 := ho (Int.toNat j) (by omega)
                  have jb := ymJ_b (g := g) (a := (yb (fun x y => x / y) s 10)) (b := (yb (fun x y => x - x / y * y) s 10)) (t := t) (x := x) (i := Int.toNat i) (Int.toNat j)
                  have yj : yw (j + 1) = j + 1 := yw_s (j + 1) (by omega) (by omega)
                  have e : ymJ g (yb (fun x y => x / y) s 10) (yb (fun x y => x - x / y * y) s 10) t x (Int.toNat i) (Int.toNat (j + 1)) = ymJ g (yb (fun x y => x / y) s 10) (yb (fun x y => x - x / y * y) s 10) t x (Int.toNat i) (Int.toNat j) + 0 := by
                    rw [show Int.toNat (j + 1) = Int.toNat j + 1 by omega]
                    exact (ymJ_0 (by omega)).trans (Int.add_zero _).symm
                  have yu : yw (u + ymJ g (yb (fun x y => x / y) s 10) (yb (fun x y => x - x / y * y) s 10) t x (Int.toNat i) (Int.toNat j) + 0) = u + ymJ g (yb (fun x y => x / y) s 10) (yb (fun x y => x - x / y * y) s 10) t x (Int.toNat i) (Int.toNat (j + 1)) := by
                    rw [e]
                    have := yw_s (u + ymJ g (yb (fun x y => x / y) s 10) (yb (fun x y => x - x / y * y) s 10) t x (Int.toNat i) (Int.toNat j) + 0) (by omega) (by omega)
                    omega
                  rw [yj, yu]
                  exact ih (j + 1) (by omega) (by omega) _ _
                · refine ⟨(by have o1 := ho (Int.toNat i) (by omega); have o2 := ho (Int.toNat j) (by omega); have jb := ymJ_b (g := g) (a := (yb (fun x y => x / y) s 10)) (b := (yb (fun x y => x - x / y * y) s 10)) (t := t) (x := x) (i := Int.toNat i) (Int.toNat j); omega), ?_⟩
                  refine ⟨(by have o1 := ho (Int.toNat i) (by omega); have o2 := ho (Int.toNat j) (by omega); have jb := ymJ_b (g := g) (a := (yb (fun x y => x / y) s 10)) (b := (yb (fun x y => x - x / y * y) s 10)) (t := t) (x := x) (i := Int.toNat i) (Int.toNat j); omega), ?_⟩
                  refine ⟨fun h35 => ?_, fun h35 => ?_⟩
                  · have o1 := ho (Int.toNat i) (by omega)
                    have o2 := ho (Int.toNat j) (by omega)
                    have jb := ymJ_b (g := g) (a := (yb (fun x y => x / y) s 10)) (b := (yb (fun x y => x - x / y * y) s 10)) (t := t) (x := x) (i := Int.toNat i) (Int.toNat j)
                    have yj : yw (j + 1) = j + 1 := yw_s (j + 1) (by omega) (by omega)
                    have e : ymJ g (yb (fun x y => x / y) s 10) (yb (fun x y => x - x / y * y) s 10) t x (Int.toNat i) (Int.toNat (j + 1)) = ymJ g (yb (fun x y => x / y) s 10) (yb (fun x y => x - x / y * y) s 10) t x (Int.toNat i) (Int.toNat j) + 0 := by
                      rw [show Int.toNat (j + 1) = Int.toNat j + 1 by omega]
                      exact (ymJ_0 (by omega)).trans (Int.add_zero _).symm
                    have yu : yw (u + ymJ g (yb (fun x y => x / y) s 10) (yb (fun x y => x - x / y * y) s 10) t x (Int.toNat i) (Int.toNat j) + 0) = u + ymJ g (yb (fun x y => x / y) s 10) (yb (fun x y => x - x / y * y) s 10) t x (Int.toNat i) (Int.toNat (j + 1)) := by
                      rw [e]
                      have := yw_s (u + ymJ g (yb (fun x y => x / y) s 10) (yb (fun x y => x - x / y * y) s 10) t x (Int.toNat i) (Int.toNat j) + 0) (by omega) (by omega)
                      omega
                    rw [yj, yu]
                    exact ih (j + 1) (by omega) (by omega) _ _
                  · refine ⟨_, _, _, rfl, ?_⟩
                    intro r39 p400
                    refine ⟨fun h41 => ?_, fun h41 => ?_⟩
                    · have o1 := ho (Int.toNat i) (by omega)
                      have o2 := ho (Int.toNat j) (by omega)
                      have jb := ymJ_b (g := g) (a := (yb (fun x y => x / y) s 10)) (b := (yb (fun x y => x - x / y * y) s 10)) (t := t) (x := x) (i := Int.toNat i) (Int.toNat j)
                      have := yw_s (-x)
                      have := yw_s ((g 102 (Int.toNat i)) - (g 102 (Int.toNat j)))
                      have yj : yw (j + 1) = j + 1 := yw_s (j + 1) (by omega) (by omega)
                      have e : ymJ g (yb (fun x y => x / y) s 10) (yb (fun x y => x - x / y * y) s 10) t x (Int.toNat i) (Int.toNat (j + 1)) = ymJ g (yb (fun x y => x / y) s 10) (yb (fun x y => x - x / y * y) s 10) t x (Int.toNat i) (Int.toNat j) + 0 := by
                        rw [show Int.toNat (j + 1) = Int.toNat j + 1 by omega]
                        exact (ymJ_0 (by omega)).trans (Int.add_zero _).symm
                      have yu : yw (u + ymJ g (yb (fun x y => x / y) s 10) (yb (fun x y => x - x / y * y) s 10) t x (Int.toNat i) (Int.toNat j) + 0) = u + ymJ g (yb (fun x y => x / y) s 10) (yb (fun x y => x - x / y * y) s 10) t x (Int.toNat i) (Int.toNat (j + 1)) := by
                        rw [e]
                        have := yw_s (u + ymJ g (yb (fun x y => x / y) s 10) (yb (fun x y => x - x / y * y) s 10) t x (Int.toNat i) (Int.toNat j) + 0) (by omega) (by omega)
                        omega
                      rw [yj, yu]
                      exact ih (j + 1) (by omega) (by omega) _ _
                    · have o1 := ho (Int.toNat i) (by omega)
                      have o2 := ho (Int.toNat j) (by omega)
                      have jb := ymJ_b (g := g) (a := (yb (fun x y => x / y) s 10)) (b := (yb (fun x y => x - x / y * y) s 10)) (t := t) (x := x) (i := Int.toNat i) (Int.toNat j)
                      have := yw_s (-x)
                      have := yw_s ((g 102 (Int.toNat i)) - (g 102 (Int.toNat j)))
                      have yj : yw (j + 1) = j + 1 := yw_s (j + 1) (by omega) (by omega)
                      have e : ymJ g (yb (fun x y => x / y) s 10) (yb (fun x y => x - x / y * y) s 10) t x (Int.toNat i) (Int.toNat (j + 1)) = ymJ g (yb (fun x y => x / y) s 10) (yb (fun x y => x - x / y * y) s 10) t x (Int.toNat i) (Int.toNat j) + 1 := by
                        rw [show Int.toNat (j + 1) = Int.toNat j + 1 by omega]
                        exact ymJ_1 (by omega)
                      have yu : yw (u + ymJ g (yb (fun x y => x / y) s 10) (yb (fun x y => x - x / y * y) s 10) t x (Int.toNat i) (Int.toNat j) + 1) = u + ymJ g (yb (fun x y => x / y) s 10) (yb (fun x y => x - x / y * y) s 10) t x (Int.toNat i) (Int.toNat (j + 1)) := by
                        rw [e]
                        have := yw_s (u + ymJ g (yb (fun x y => x / y) s 10) (yb (fun x y => x - x / y * y) s 10) t x (Int.toNat i) (Int.toNat j) + 1) (by omega) (by omega)
                        omega
                      rw [yj, yu]
                      exact ih (j + 1) (by omega) (by omega) _ _
theorem yt_MALX {K : List yV → yM → Prop} {Y : yNx} {g : yM} {s t x : Int} (hY : yCl zpD135 (zpZ, zpRS, zpP12, zpMT, [yC_IDY, yC_WM], (3, 85), 1) K Y) (hr_x : 0 ≤ x ∧ x < 100) (hs : 0 ≤ g 90 22 ∧ g 90 22 ≤ 40) (ho : ∀ n : Nat, (n : Int) < g 90 22 → 1 ≤ g 102 n ∧ g 102 n ≤ 719) {i u : Int} (hi : 0 ≤ i ∧ i < g 90 22) {w6 w7 w8 : yV} (hE : Y 49 [(3, 90), (1, s), (1, t), (1, x), (1, u), (1, i + 1), w6, w7, w8] [] g) : Y 222 [(3, 90), (1, s), (1, t), (1, x), (1, u), (1, i), w6, w7, w8] [] g := by
  refine yrun_ok (sp := fun pc => Nat.beq pc 49) hY 3 222 _ [] g ?_
  show (Y 49 [(3, 90), (1, s), (1, t), (1, x), (1, u), (1, (yw (i + 1))), w6, w7, w8] [] g)
  rw [show yw (i + 1) = i + 1 from yw_s (i + 1) (by omega) (by omega)]
  exact hE
set_option maxRecDepth 8000 in
theorem yl_MALI {K : List yV → yM → Prop} {Y : yNx} {g : yM} {s t x : Int} (hY : yCl zpD135 (zpZ, zpRS, zpP12, zpMT, [yC_IDY, yC_WM], (3, 85), 1) K Y) (hr_x : 0 ≤ x ∧ x < 100) (hs : 0 ≤ g 90 22 ∧ g 90 22 ≤ 40) (ho : ∀ n : Nat, (n : Int) < g 90 22 → 1 ≤ g 102 n ∧ g 102 n ≤ 719) (hK : K [(1, ymI g (yb (fun x y => x / y) s 10) (yb (fun x y => x - x / y * y) s 10) t x (Int.toNat (g 90 22)))] g) : ∀ (d : Nat) (i : Int), i + d = g 90 22 → 0 ≤ i → ∀ w6 w7 w8 : yV, Y 49 [(3, 90), (1, s), (1, t), (1, x), (1, ymI g (yb (fun x y => x / y) s 10) (yb (fun x y => x - x / y * y) s 10) t x (Int.toNat i)), (1, i), w6, w7, w8] [] g := by
  intro d
  induction d with
  | zero =>
    intro i hd h0 w6 w7 w8
    refine yrun_ok (sp := fun pc => Nat.beq pc 49 || Nat.beq pc 61) hY 7 49 _ [] g ?_
    show (((g 90 22) ≤ i → (K [(1, ymI g (yb (fun x y => x / y) s 10) (yb (fun x y => x - x / y * y) s 10) t x (Int.toNat i))] g)) ∧ (¬ ((g 90 22) ≤ i) → (Y 61 [(3, 90), (1, s), (1, t), (1, x), (1, ymI g (yb (fun x y => x / y) s 10) (yb (fun x y => x - x / y * y) s 10) t x (Int.toNat i)), (1, i), (1, 0), w7, w8] [] g)))
    refine ⟨fun h1 => ?_, fun h1 => ?_⟩
    · rw [show i = g 90 22 by omega]
      exact hK
    · omega
  | succ d ih =>
    intro i hd h0 w6 w7 w8
    refine yrun_ok (sp := fun pc => Nat.beq pc 49 || Nat.beq pc 61) hY 7 49 _ [] g ?_
    show (((g 90 22) ≤ i → (K [(1, ymI g (yb (fun x y => x / y) s 10) (yb (fun x y => x - x / y * y) s 10) t x (Int.toNat i))] g)) ∧ (¬ ((g 90 22) ≤ i) → (Y 61 [(3, 90), (1, s), (1, t), (1, x), (1, ymI g (yb (fun x y => x / y) s 10) (yb (fun x y => x - x / y * y) s 10) t x (Int.toNat i)), (1, i), (1, 0), w7, w8] [] g)))
    refine ⟨fun h1 => ?_, fun h1 => ?_⟩
    · omega
    · have ib := ymI_b (g := g) (a := (yb (fun x y => x / y) s 10)) (b := (yb (fun x y => x - x / y * y) s 10)) (t := t) (x := x) (Int.toNat i) (by omega)
      have jb := ymJ_b (g := g) (a := (yb (fun x y => x / y) s 10)) (b := (yb (fun x y => x - x / y * y) s 10)) (t := t) (x := x) (i := Int.toNat i) (Int.toNat i)
      have e0 : ymI g (yb (fun x y => x / y) s 10) (yb (fun x y => x - x / y * y) s 10) t x (Int.toNat i) + ymJ g (yb (fun x y => x / y) s 10) (yb (fun x y => x - x / y * y) s 10) t x (Int.toNat i) (Int.toNat 0) = ymI g (yb (fun x y => x / y) s 10) (yb (fun x y => x - x / y * y) s 10) t x (Int.toNat i) := Int.add_zero _
      have e1 : ymI g (yb (fun x y => x / y) s 10) (yb (fun x y => x - x / y * y) s 10) t x (Int.toNat i) + ymJ g (yb (fun x y => x / y) s 10) (yb (fun x y => x - x / y * y) s 10) t x (Int.toNat i) (Int.toNat i) = ymI g (yb (fun x y => x / y) s 10) (yb (fun x y => x - x / y * y) s 10) t x (Int.toNat (i + 1)) := by
        rw [show Int.toNat (i + 1) = Int.toNat i + 1 by omega]
        exact ymI_s.symm
      have h9 := yl_MALJ hY hr_x hs ho (i := i) (u := ymI g (yb (fun x y => x / y) s 10) (yb (fun x y => x - x / y * y) s 10) t x (Int.toNat i)) ⟨h0, by omega⟩ ⟨by omega, by omega⟩ (fun w6 w7 w8 => yt_MALX hY hr_x hs ho ⟨h0, by omega⟩ (by rw [e1]; exact ih (i + 1) (by omega) (by omega) w6 w7 w8)) (Int.toNat i) 0 (by omega) (by decide) w7 w8
      rw [e0] at h9
      exact h9
set_option maxRecDepth 8000 in
theorem yv_MAL {K : List yV → yM → Prop} {Y : yNx} {g : yM} {s t x : Int} (hY : yCl zpD135 (zpZ, zpRS, zpP12, zpMT, [yC_IDY, yC_WM], (3, 85), 1) K Y) (hr_s : -2147483648 ≤ s ∧ s ≤ 2147483647) (hr_t : -2147483648 ≤ t ∧ t ≤ 2147483647) (hr_x : -2147483648 ≤ x ∧ x ≤ 2147483647) (hp0 : 0 ≤ g 90 22 ∧ g 90 22 ≤ 40) (hp1 : ∀ n : Nat, (n : Int) < g 90 22 → 1 ≤ g 102 n ∧ g 102 n ≤ 719) (hK : ∀ (r : Int), (¬ (0 ≤ (yb (fun x y => x / y) s 10) ∧ (yb (fun x y => x / y) s 10) < 8 ∧ 0 ≤ (yb (fun x y => x - x / y * y) s 10) ∧ (yb (fun x y => x - x / y * y) s 10) < 8 ∧ 0 ≤ t ∧ t < 4 ∧ 0 ≤ x ∧ x < 100) → r = -1) → ((0 ≤ (yb (fun x y => x / y) s 10) ∧ (yb (fun x y => x / y) s 10) < 8 ∧ 0 ≤ (yb (fun x y => x - x / y * y) s 10) ∧ (yb (fun x y => x - x / y * y) s 10) < 8 ∧ 0 ≤ t ∧ t < 4 ∧ 0 ≤ x ∧ x < 100) → r = ymI g (yb (fun x y => x / y) s 10) (yb (fun x y => x - x / y * y) s 10) t x (Int.toNat (g 90 22))) → K [(1, r)] g) : Y 0 [(3, 90), (1, s), (1, t), (1, x), (0, 0), (0, 0), (0, 0), (0, 0), (0, 0)] [] g := by
  refine yrun_ok (sp := fun pc => Nat.beq pc 49) hY 26 0 _ [] g ?_
  show ((s < 0 → (K [(1, (-1))] g)) ∧ (¬ (s < 0) → ((10 : Int) ≠ 0 ∧ ((7 < (yb (fun x y => x / y) s 10) → (K [(1, (-1))] g)) ∧ (¬ (7 < (yb (fun x y => x / y) s 10)) → ((10 : Int) ≠ 0 ∧ ((7 < (yb (fun x y => x - x / y * y) s 10) → (K [(1, (-1))] g)) ∧ (¬ (7 < (yb (fun x y => x - x / y * y) s 10)) → (∃ (d4 : Int), [(1, t)] = [(1, d4)] ∧ (∀ (r5 : Int), ((r5 = 1 ∧ 0 ≤ d4 ∧ d4 ≤ 3) ∨ (r5 = 0 ∧ (d4 < 0 ∨ 3 < d4))) → ((r5 = 0 → (K [(1, (-1))] g)) ∧ (¬ (r5 = 0) → (∃ (v8 a9 b10 : Int), [(2, x), (2, 0), (2, 99)] = [(2, v8), (2, a9), (2, b10)] ∧ (∀ (r11 : Int), ((r11 = 1 ∧ a9 ≤ v8 ∧ v8 ≤ b10) ∨ (r11 = 0 ∧ (v8 < a9 ∨ b10 < v8))) → ((r11 ≠ 0 → (Y 49 [(3, 90), (1, s), (1, t), (1, x), (1, 0), (1, 0), (0, 0), (0, 0), (0, 0)] [] g)) ∧ (¬ (r11 ≠ 0) → (K [(1, (-1))] g)))))))))))))))))
  refine ⟨fun h1 => ?_, fun h1 => ?_⟩
  · have q1 := yb_rng (fun x y => x / y) s 10
    have q2 := yb_rng (fun x y => x - x / y * y) s 10
    have q3 := yq10 hr_s
    exact hK _ (fun _ => rfl) (fun h => absurd h (by omega))
  · refine ⟨(by have q1 := yb_rng (fun x y => x / y) s 10; have q2 := yb_rng (fun x y => x - x / y * y) s 10; have q3 := yq10 hr_s; omega), ?_⟩
    refine ⟨fun h2 => ?_, fun h2 => ?_⟩
    · have q1 := yb_rng (fun x y => x / y) s 10
      have q2 := yb_rng (fun x y => x - x / y * y) s 10
      have q3 := yq10 hr_s
      exact hK _ (fun _ => rfl) (fun h => absurd h (by omega))
    · refine ⟨(by have q1 := yb_rng (fun x y => x / y) s 10; have q2 := yb_rng (fun x y => x - x / y * y) s 10; have q3 := yq10 hr_s; omega), ?_⟩
      refine ⟨fun h3 => ?_, fun h3 => ?_⟩
      · have q1 := yb_rng (fun x y => x / y) s 10
        have q2 := yb_rng (fun x y => x - x / y * y) s 10
        have q3 := yq10 hr_s
        exact hK _ (fun _ => rfl) (fun h => absurd h (by omega))
      · refine ⟨_, rfl, ?_⟩
        intro r5 p60
        refine ⟨fun h7 => ?_, fun h7 => ?_⟩
        · have q1 := yb_rng (fun x y => x / y) s 10
          have q2 := yb_rng (fun x y => x - x / y * y) s 10
          have q3 := yq10 hr_s
          exact hK _ (fun _ => rfl) (fun h => absurd h (by omega))
        · refine ⟨_, _, _, rfl, ?_⟩
          intro r11 p120
          refine ⟨fun h13 => ?_, fun h13 => ?_⟩
          · have q1 := yb_rng (fun x y => x / y) s 10
            have q2 := yb_rng (fun x y => x - x / y * y) s 10
            have q3 := yq10 hr_s
            have ok : (0 ≤ (yb (fun x y => x / y) s 10) ∧ (yb (fun x y => x / y) s 10) < 8 ∧ 0 ≤ (yb (fun x y => x - x / y * y) s 10) ∧ (yb (fun x y => x - x / y * y) s 10) < 8 ∧ 0 ≤ t ∧ t < 4 ∧ 0 ≤ x ∧ x < 100) := by omega
            exact yl_MALI hY ⟨by omega, by omega⟩ hp0 hp1 (hK _ (fun h => absurd ok h) (fun _ => rfl)) (Int.toNat (g 90 22)) 0 (by omega) (by decide) _ _ _
          · have q1 := yb_rng (fun x y => x / y) s 10
            have q2 := yb_rng (fun x y => x - x / y * y) s 10
            have q3 := yq10 hr_s
            exact hK _ (fun _ => rfl) (fun h => absurd h (by omega))
theorem yM_MAL {l : Launch} {Ts : List Cond} {cl : List vw_C} {RO : zRO} (H : zHyp Ts cl RO) : yMet l Ts cl zpZ RO zpMT yC_MAL := ymet_of2 H.1 H.2.1 zpDj H.2.2.1 yRb H.p12 (ymets_cons (yM_IDY H) (ymets_cons (yM_WM H) ymets_nil)) (zrc1 rfl) (plainFor_of_name zpy12) zpDk135 (fun as g K Y h hA hY => by
  obtain ⟨s, t, x, rfl, hp0, hp1, hK⟩ := h
  exact yv_MAL hY (yAr1 hA (by simp)) (yAr1 hA (by simp)) (yAr1 hA (by simp)) hp0 hp1 hK)
theorem yJ_al {g : yM} {a b t x : Int} {i z : Nat} (hi : i < z) (h : ∀ n : Nat, n < z → g 101 n = g (50 + n) 0 ∧ g 102 n = g (50 + n) 2 ∧ g 103 n = g (50 + n) 3 ∧ g 105 n = g (50 + n) 5) : ∀ n : Nat, n ≤ i → ymJ g a b t x i n = ycJ g a b t x i n
  | 0, _ => rfl
  | n + 1, hn => by
    have ih := yJ_al (a := a) (b := b) (t := t) (x := x) hi h n (by omega)
    obtain ⟨e1, e2, e3, e4⟩ := h i hi
    obtain ⟨f1, f2, f3, f4⟩ := h n (by omega)
    rw [ymJ_s, ycJ_s, ih, e1, e2, e3, e4, f1, f2, f3, f4]
theorem yI_al {g : yM} {a b t x : Int} {z : Nat} (h : ∀ n : Nat, n < z → g 101 n = g (50 + n) 0 ∧ g 102 n = g (50 + n) 2 ∧ g 103 n = g (50 + n) 3 ∧ g 105 n = g (50 + n) 5) : ∀ n : Nat, n ≤ z → ymI g a b t x n = ycI g a b t x n
  | 0, _ => rfl
  | n + 1, hn => by
    rw [ymI_s, ycI_s, yI_al h n (by omega), yJ_al (by omega) h n (Nat.le_refl _)]
