/-! THE STARTS, SETTLED -/
/-- the one ahead of the i-th among the first n; the starts, with what is ahead given -/
def ymx (a b : Int) : Int := if a < b then b else a
def yAg (g : yM) (i : Nat) : Nat → Int
  | 0 => -1
  | n + 1 => if (g (50 + n) 0 = g (50 + i) 0 ∧ g (50 + n) 3 = g (50 + i) 3 ∧ (g (50 + n) 2 < g (50 + i) 2 ∨ (g (50 + n) 2 = g (50 + i) 2 ∧ n < i))) ∧ (yAg g i n = -1 ∨ (g (50 + Int.toNat (yAg g i n)) 2 < g (50 + n) 2 ∨ (g (50 + Int.toNat (yAg g i n)) 2 = g (50 + n) 2 ∧ yAg g i n < n))) then (n : Int) else yAg g i n
theorem yAg_1 {g : yM} {i n : Nat} (h : (g (50 + n) 0 = g (50 + i) 0 ∧ g (50 + n) 3 = g (50 + i) 3 ∧ (g (50 + n) 2 < g (50 + i) 2 ∨ (g (50 + n) 2 = g (50 + i) 2 ∧ n < i))) ∧ (yAg g i n = -1 ∨ (g (50 + Int.toNat (yAg g i n)) 2 < g (50 + n) 2 ∨ (g (50 + Int.toNat (yAg g i n)) 2 = g (50 + n) 2 ∧ yAg g i n < n)))) : yAg g i (n + 1) = n := if_pos h
theorem yAg_0 {g : yM} {i n : Nat} (h : ¬ ((g (50 + n) 0 = g (50 + i) 0 ∧ g (50 + n) 3 = g (50 + i) 3 ∧ (g (50 + n) 2 < g (50 + i) 2 ∨ (g (50 + n) 2 = g (50 + i) 2 ∧ n < i))) ∧ (yAg g i n = -1 ∨ (g (50 + Int.toNat (yAg g i n)) 2 < g (50 + n) 2 ∨ (g (50 + Int.toNat (yAg g i n)) 2 = g (50 + n) 2 ∧ yAg g i n < n))))) : yAg g i (n + 1) = yAg g i n := if_neg h
theorem yAg_b {g : yM} {i : Nat} : ∀ n : Nat, -1 ≤ yAg g i n ∧ yAg g i n < n ∨ yAg g i n = -1
  | 0 => Or.inr rfl
  | n + 1 => by
    have ih := @yAg_b g i n
    by_cases h : (g (50 + n) 0 = g (50 + i) 0 ∧ g (50 + n) 3 = g (50 + i) 3 ∧ (g (50 + n) 2 < g (50 + i) 2 ∨ (g (50 + n) 2 = g (50 + i) 2 ∧ n < i))) ∧ (yAg g i n = -1 ∨ (g (50 + Int.toNat (yAg g i n)) 2 < g (50 + n) 2 ∨ (g (50 + Int.toNat (yAg g i n)) 2 = g (50 + n) 2 ∧ yAg g i n < n)))
    · rw [yAg_1 h]; omega
    · rw [yAg_0 h]; omega
def yE1 (g : yM) (c : Nat) : Int := ymx (ymx 0 (yw (g (50 + c) 1 - g 1 9))) (yw (g (50 + c) 2 - g 14 (Int.toNat (g (50 + c) 4))))
def yE2 (g : yM) (c : Nat) (a : Int) : Int := if a = -1 then yE1 g c else ymx (yE1 g c) (g (50 + Int.toNat a) 2)
def yE3 (g : yM) (c : Nat) (e : Int) : Nat → Int
  | 0 => e
  | n + 1 => if g 15 n = g (50 + c) 3 ∧ g 16 n < g (50 + c) 2 then ymx (yE3 g c e n) (yw (g 17 n + 1)) else yE3 g c e n
theorem yE3_1 {g : yM} {c : Nat} {e : Int} {n : Nat} (h : g 15 n = g (50 + c) 3 ∧ g 16 n < g (50 + c) 2) : yE3 g c e (n + 1) = ymx (yE3 g c e n) (yw (g 17 n + 1)) := if_pos h
theorem yE3_0 {g : yM} {c : Nat} {e : Int} {n : Nat} (h : ¬ (g 15 n = g (50 + c) 3 ∧ g 16 n < g (50 + c) 2)) : yE3 g c e (n + 1) = yE3 g c e n := if_neg h
def yLt (g : yM) (c : Nat) : Int := yw (g (50 + c) 2 - g 13 (Int.toNat (g (50 + c) 4)))
def yEe (g : yM) (c : Nat) (a : Int) : Int := yE3 g c (yE2 g c a) (Int.toNat (g 1 7))
def yEf (g : yM) (c : Nat) (a : Int) : Int := if yEe g c a ≤ yLt g c then yEe g c a else -2
def yLf (g : yM) (c : Nat) (a : Int) : Int := if yEe g c a ≤ yLt g c then yLt g c else -2
def yst2 (g : yM) (c : Nat) : yM := yset (yset g (50 + c) 10 (yEf g c (g (50 + c) 9))) (50 + c) 11 (yLf g c (g (50 + c) 9))
/-- every comer's starts are as they should be -/
def yStl (g : yM) : Prop := ∀ i : Nat, (i : Int) < g 1 1 → g (50 + i) 9 = yAg g i (Int.toNat (g 1 1)) ∧ g (50 + i) 10 = yEf g i (yAg g i (Int.toNat (g 1 1))) ∧ g (50 + i) 11 = yLf g i (yAg g i (Int.toNat (g 1 1)))
theorem yAg_ws {g m : yM} (h : yWs g m) (i : Nat) (hi : i < 40) : ∀ n : Nat, n ≤ 40 → yAg m i n = yAg g i n
  | 0, _ => rfl
  | n + 1, hn => by
    have ih := yAg_ws h i hi n (by omega)
    have hb := @yAg_b g i n
    have e0 : m (50 + n) 0 = g (50 + n) 0 := h _ _ (by omega)
    have e1 : m (50 + i) 0 = g (50 + i) 0 := h _ _ (by omega)
    have e2 : m (50 + n) 3 = g (50 + n) 3 := h _ _ (by omega)
    have e3 : m (50 + i) 3 = g (50 + i) 3 := h _ _ (by omega)
    have e4 : m (50 + n) 2 = g (50 + n) 2 := h _ _ (by omega)
    have e5 : m (50 + i) 2 = g (50 + i) 2 := h _ _ (by omega)
    have e6 : m (50 + Int.toNat (yAg g i n)) 2 = g (50 + Int.toNat (yAg g i n)) 2 := h _ _ (by omega)
    by_cases c : (g (50 + n) 0 = g (50 + i) 0 ∧ g (50 + n) 3 = g (50 + i) 3 ∧ (g (50 + n) 2 < g (50 + i) 2 ∨ (g (50 + n) 2 = g (50 + i) 2 ∧ n < i))) ∧ (yAg g i n = -1 ∨ (g (50 + Int.toNat (yAg g i n)) 2 < g (50 + n) 2 ∨ (g (50 + Int.toNat (yAg g i n)) 2 = g (50 + n) 2 ∧ yAg g i n < n)))
    · rw [yAg_1 c, yAg_1 (by rw [ih, e0, e1, e2, e3, e4, e5, e6]; exact c)]
    · rw [yAg_0 c, yAg_0 (by rw [ih, e0, e1, e2, e3, e4, e5, e6]; exact c), ih]
theorem yE1_ws {g m : yM} (h : yWs g m) {c : Nat} (hc : c < 40) : yE1 m c = yE1 g c := by
  unfold yE1
  rw [h (50 + c) 1 (by omega), h 1 9 (by omega), h (50 + c) 2 (by omega), h (50 + c) 4 (by omega), h 14 _ (by omega)]
theorem yE2_ws {g m : yM} (h : yWs g m) {c : Nat} (hc : c < 40) (a : Int) : yE2 m c a = yE2 g c a := by
  unfold yE2
  rw [yE1_ws h hc, h (50 + Int.toNat a) 2 (by omega)]
theorem yE3_ws {g m : yM} (h : yWs g m) {c : Nat} (hc : c < 40) (e : Int) : ∀ n : Nat, yE3 m c e n = yE3 g c e n
  | 0 => rfl
  | n + 1 => by
    by_cases q : g 15 n = g (50 + c) 3 ∧ g 16 n < g (50 + c) 2
    · rw [yE3_1 q, yE3_1 (by rw [h 15 n (by omega), h (50 + c) 3 (by omega), h 16 n (by omega), h (50 + c) 2 (by omega)]; exact q), yE3_ws h hc e n, h 17 n (by omega)]
    · rw [yE3_0 q, yE3_0 (by rw [h 15 n (by omega), h (50 + c) 3 (by omega), h 16 n (by omega), h (50 + c) 2 (by omega)]; exact q), yE3_ws h hc e n]
theorem yLt_ws {g m : yM} (h : yWs g m) {c : Nat} (hc : c < 40) : yLt m c = yLt g c := by
  unfold yLt
  rw [h (50 + c) 2 (by omega), h (50 + c) 4 (by omega), h 13 _ (by omega)]
theorem yEe_ws {g m : yM} (h : yWs g m) {c : Nat} (hc : c < 40) (a : Int) : yEe m c a = yEe g c a := by
  unfold yEe
  rw [yE2_ws h hc, yE3_ws h hc, h 1 7 (by omega)]
theorem yEf_ws {g m : yM} (h : yWs g m) {c : Nat} (hc : c < 40) (a : Int) : yEf m c a = yEf g c a := by
  unfold yEf
  rw [yEe_ws h hc, yLt_ws h hc]
theorem yLf_ws {g m : yM} (h : yWs g m) {c : Nat} (hc : c < 40) (a : Int) : yLf m c a = yLf g c a := by
  unfold yLf
  rw [yEe_ws h hc, yLt_ws h hc]
def yP_MX : yPT := fun as g K => ∃ (a b : Int), as = [(1, a), (1, b)] ∧ (∀ (r : Int), (r = ymx a b) → K [(1, r)] g)
def yC_MX : yC := (218, (1, 40), yP_MX)
set_option maxRecDepth 8000 in
theorem yv_MX {K : List yV → yM → Prop} {Y : yNx} {g : yM} {a b : Int} (hY : yCl zpD218 (zpZ, zpRS, zpP14, zpMT, [], (1, 40), 1) K Y) (hr_a : -2147483648 ≤ a ∧ a ≤ 2147483647) (hr_b : -2147483648 ≤ b ∧ b ≤ 2147483647) (hK : ∀ (r : Int), (r = ymx a b) → K [(1, r)] g) : Y 0 [(1, a), (1, b)] [] g := by
  refine yrun_ok (sp := fun pc => false) hY 6 0 _ [] g ?_
  show ((a < b → (K [(1, b)] g)) ∧ (¬ (a < b) → (K [(1, a)] g)))
  refine ⟨fun h1 => ?_, fun h1 => ?_⟩
  · exact hK _ (by unfold ymx; rw [if_pos (by omega)])
  · exact hK _ (by unfold ymx; rw [if_neg (by omega)])
theorem yM_MX {l : Launch} {Ts : List Cond} {cl : List vw_C} {RO : zRO} (H : zHyp Ts cl RO) : yMet l Ts cl zpZ RO zpMT yC_MX := ymet_of2 H.1 H.2.1 zpDj H.2.2.1 yRb H.p14 ymets_nil (zrc1 rfl) (by decide +kernel) zpDk218 (fun as g K Y h hA hY => by
  obtain ⟨a, b, rfl, hK⟩ := h
  exact yv_MX hY (yAr1 hA (by simp)) (yAr1 hA (by simp)) hK)
def yP_IB : yPT := fun as g K => ∃ (a b : Int), as = [(3, 1), (1, a), (1, b)] ∧ (0 ≤ a ∧ a < 40) ∧ (0 ≤ b ∧ b < 40) ∧ (∀ (r : Int), ((r = 1 ∧ (g (50 + Int.toNat a) 2 < g (50 + Int.toNat b) 2 ∨ (g (50 + Int.toNat a) 2 = g (50 + Int.toNat b) 2 ∧ a < b))) ∨ (r = 0 ∧ ¬ (g (50 + Int.toNat a) 2 < g (50 + Int.toNat b) 2 ∨ (g (50 + Int.toNat a) 2 = g (50 + Int.toNat b) 2 ∧ a < b)))) → K [(1, r)] g)
def yC_IB : yC := (125, (1, 40), yP_IB)
set_option maxRecDepth 8000 in
theorem yv_IB {K : List yV → yM → Prop} {Y : yNx} {g : yM} {a b : Int} (hY : yCl zpD125 (zpZ, zpRS, zpP11, zpMT, [], (1, 40), 2) K Y) (hr_a : -2147483648 ≤ a ∧ a ≤ 2147483647) (hr_b : -2147483648 ≤ b ∧ b ≤ 2147483647) (hp0 : 0 ≤ a ∧ a < 40) (hp1 : 0 ≤ b ∧ b < 40) (hK : ∀ (r : Int), ((r = 1 ∧ (g (50 + Int.toNat a) 2 < g (50 + Int.toNat b) 2 ∨ (g (50 + Int.toNat a) 2 = g (50 + Int.toNat b) 2 ∧ a < b))) ∨ (r = 0 ∧ ¬ (g (50 + Int.toNat a) 2 < g (50 + Int.toNat b) 2 ∨ (g (50 + Int.toNat a) 2 = g (50 + Int.toNat b) 2 ∧ a < b)))) → K [(1, r)] g) : Y 0 [(3, 1), (1, a), (1, b), (0, 0), (0, 0)] [] g := by
  refine yrun_ok (sp := fun pc => false) hY 24 0 _ [] g ?_
  show (((0 : Int) ≤ a ∧ a < ((40 : Nat) : Int)) ∧ (((0 : Int) ≤ b ∧ b < ((40 : Nat) : Int)) ∧ (((g (50 + Int.toNat a) 2) < (g (50 + Int.toNat b) 2) → (((0 : Int) ≤ 1 ∧ 1 ≤ (1 : Int)) ∧ (K [(1, 1)] g))) ∧ (¬ ((g (50 + Int.toNat a) 2) < (g (50 + Int.toNat b) 2)) → (((g (50 + Int.toNat a) 2) ≠ (g (50 + Int.toNat b) 2) → (((0 : Int) ≤ 0 ∧ 0 ≤ (1 : Int)) ∧ (K [(1, 0)] g))) ∧ (¬ ((g (50 + Int.toNat a) 2) ≠ (g (50 + Int.toNat b) 2)) → ((b ≤ a → (((0 : Int) ≤ 0 ∧ 0 ≤ (1 : Int)) ∧ (K [(1, 0)] g))) ∧ (¬ (b ≤ a) → (((0 : Int) ≤ 1 ∧ 1 ≤ (1 : Int)) ∧ (K [(1, 1)] g))))))))))
  refine ⟨(by omega), ?_⟩
  refine ⟨(by omega), ?_⟩
  refine ⟨fun h1 => ?_, fun h1 => ?_⟩
  · refine ⟨(by omega), ?_⟩
    exact hK _ (by first | omega | exact fun _ => rfl | exact fun h => absurd h (by omega) | exact rfl | exact fun _ _ => rfl | exact fun h _ => absurd h (by omega) | exact fun _ h => absurd h (by omega))
  · refine ⟨fun h2 => ?_, fun h2 => ?_⟩
    · refine ⟨(by omega), ?_⟩
      exact hK _ (by first | omega | exact fun _ => rfl | exact fun h => absurd h (by omega) | exact rfl | exact fun _ _ => rfl | exact fun h _ => absurd h (by omega) | exact fun _ h => absurd h (by omega))
    · refine ⟨fun h3 => ?_, fun h3 => ?_⟩
      · refine ⟨(by omega), ?_⟩
        exact hK _ (by first | omega | exact fun _ => rfl | exact fun h => absurd h (by omega) | exact rfl | exact fun _ _ => rfl | exact fun h _ => absurd h (by omega) | exact fun _ h => absurd h (by omega))
      · refine ⟨(by omega), ?_⟩
        exact hK _ (by first | omega | exact fun _ => rfl | exact fun h => absurd h (by omega) | exact rfl | exact fun _ _ => rfl | exact fun h _ => absurd h (by omega) | exact fun _ h => absurd h (by omega))
theorem yM_IB {l : Launch} {Ts : List Cond} {cl : List vw_C} {RO : zRO} (H : zHyp Ts cl RO) : yMet l Ts cl zpZ RO zpMT yC_IB := ymet_of2 H.1 H.2.1 zpDj H.2.2.1 yRb H.p11 ymets_nil (zrc2 rfl) (plainFor_of_name zpy11) zpDk125 (fun as g K Y h hA hY => by
  obtain ⟨a, b, rfl, hp0, hp1, hK⟩ := h
  exact yv_IB hY (yAr1 hA (by simp)) (yAr1 hA (by simp)) hp0 hp1 hK)
def yP_OA : yPT := fun as g K => ∃ (w : Int), as = [(3, 1), (1, w)] ∧ (0 ≤ w ∧ w < 40) ∧ (0 ≤ g 1 1 ∧ g 1 1 ≤ 40) ∧ (∀ (r : Int), (r = yAg g (Int.toNat w) (Int.toNat (g 1 1))) → K [(1, r)] g)
def yC_OA : yC := (127, (2, 64), yP_OA)
set_option maxRecDepth 8000 in
theorem yl_OA {K : List yV → yM → Prop} {Y : yNx} {g : yM} {w : Int} (hY : yCl zpD127 (zpZ, zpRS, zpP11, zpMT, [yC_IB], (2, 64), 1) K Y) (hw : 0 ≤ w ∧ w < 40) (hs : 0 ≤ g 1 1 ∧ g 1 1 ≤ 40) (hK : K [(1, yAg g (Int.toNat w) (Int.toNat (g 1 1)))] g) : ∀ (d : Nat) (i : Int), i + d = g 1 1 → 0 ≤ i → ∀ x5 : yV, Y 12 [(3, 1), (1, w), (1, yAg g (Int.toNat w) (Int.toNat i)), (141, w), (1, i), x5] [] g := by
  intro d
  induction d with
  | zero =>
    intro i hd h0 x5
    refine yrun_ok (sp := fun pc => Nat.beq pc 12) hY 37 12 _ [] g ?_
    show (((g 1 1) ≤ i → (K [(1, yAg g (Int.toNat w) (Int.toNat i))] g)) ∧ (¬ ((g 1 1) ≤ i) → (((0 : Int) ≤ i ∧ i < ((40 : Nat) : Int)) ∧ (((g (50 + Int.toNat i) 0) ≠ (g (50 + Int.toNat w) 0) → (Y 12 [(3, 1), (1, w), (1, yAg g (Int.toNat w) (Int.toNat i)), (141, w), (1, (yw (i + 1))), (141, i)] [] g)) ∧ (¬ ((g (50 + Int.toNat i) 0) ≠ (g (50 + Int.toNat w) 0)) → (((g (50 + Int.toNat i) 3) ≠ (g (50 + Int.toNat w) 3) → (Y 12 [(3, 1), (1, w), (1, yAg g (Int.toNat w) (Int.toNat i)), (141, w), (1, (yw (i + 1))), (141, i)] [] g)) ∧ (¬ ((g (50 + Int.toNat i) 3) ≠ (g (50 + Int.toNat w) 3)) → (∃ (a4 b5 : Int), [(3, 1), (1, i), (1, w)] = [(3, 1), (1, a4), (1, b5)] ∧ (0 ≤ a4 ∧ a4 < 40) ∧ (0 ≤ b5 ∧ b5 < 40) ∧ (∀ (r6 : Int), ((r6 = 1 ∧ (g (50 + Int.toNat a4) 2 < g (50 + Int.toNat b5) 2 ∨ (g (50 + Int.toNat a4) 2 = g (50 + Int.toNat b5) 2 ∧ a4 < b5))) ∨ (r6 = 0 ∧ ¬ (g (50 + Int.toNat a4) 2 < g (50 + Int.toNat b5) 2 ∨ (g (50 + Int.toNat a4) 2 = g (50 + Int.toNat b5) 2 ∧ a4 < b5)))) → ((r6 = 0 → (Y 12 [(3, 1), (1, w), (1, yAg g (Int.toNat w) (Int.toNat i)), (141, w), (1, (yw (i + 1))), (141, i)] [] g)) ∧ (¬ (r6 = 0) → ((yAg g (Int.toNat w) (Int.toNat i) = (-1) → (Y 12 [(3, 1), (1, w), (1, i), (141, w), (1, (yw (i + 1))), (141, i)] [] g)) ∧ (¬ (yAg g (Int.toNat w) (Int.toNat i) = (-1)) → (∃ (a10 b11 : Int), [(3, 1), (1, yAg g (Int.toNat w) (Int.toNat i)), (1, i)] = [(3, 1), (1, a10), (1, b11)] ∧ (0 ≤ a10 ∧ a10 < 40) ∧ (0 ≤ b11 ∧ b11 < 40) ∧ (∀ (r12 : Int), ((r12 = 1 ∧ (g (50 + Int.toNat a10) 2 < g (50 + Int.toNat b11) 2 ∨ (g (50 + Int.toNat a10) 2 = g (50 + Int.toNat b11) 2 ∧ a10 < b11))) ∨ (r12 = 0 ∧ ¬ (g (50 + Int.toNat a10) 2 < g (50 + Int.toNat b11) 2 ∨ (g (50 + Int.toNat a10) 2 = g (50 + Int.toNat b11) 2 ∧ a10 < b11)))) → ((r12 = 0 → (Y 12 [(3, 1), (1, w), (1, yAg g (Int.toNat w) (Int.toNat i)), (141, w), (1, (yw (i + 1))), (141, i)] [] g)) ∧ (¬ (r12 = 0) → (Y 12 [(3, 1), (1, w), (1, i), (141, w), (1, (yw (i + 1))), (141, i)] [] g))))))))))))))))))
    refine ⟨fun h1 => ?_, fun h1 => ?_⟩
    · rw [show i = g 1 1 by omega]
      exact hK
    · refine ⟨(by have hb := @yAg_b g (Int.toNat w) (Int.toNat i); omega), ?_⟩
      refine ⟨fun h2 => ?_, fun h2 => ?_⟩
      · omega
      · refine ⟨fun h3 => ?_, fun h3 => ?_⟩
        · omega
        · refine ⟨_, _, rfl, (by have hb := @yAg_b g (Int.toNat w) (Int.toNat i); omega), (by have hb := @yAg_b g (Int.toNat w) (Int.toNat i); omega), ?_⟩
          intro r6 p70
          refine ⟨fun h8 => ?_, fun h8 => ?_⟩
          · omega
          · refine ⟨fun h9 => ?_, fun h9 => ?_⟩
            · omega
            · refine ⟨_, _, rfl, (by have hb := @yAg_b g (Int.toNat w) (Int.toNat i); omega), (by have hb := @yAg_b g (Int.toNat w) (Int.toNat i); omega), ?_⟩
              intro r12 p130
              refine ⟨fun h14 => ?_, fun h14 => ?_⟩
              · omega
              · omega
  | succ d ih =>
    intro i hd h0 x5
    refine yrun_ok (sp := fun pc => Nat.beq pc 12) hY 37 12 _ [] g ?_
    show (((g 1 1) ≤ i → (K [(1, yAg g (Int.toNat w) (Int.toNat i))] g)) ∧ (¬ ((g 1 1) ≤ i) → (((0 : Int) ≤ i ∧ i < ((40 : Nat) : Int)) ∧ (((g (50 + Int.toNat i) 0) ≠ (g (50 + Int.toNat w) 0) → (Y 12 [(3, 1), (1, w), (1, yAg g (Int.toNat w) (Int.toNat i)), (141, w), (1, (yw (i + 1))), (141, i)] [] g)) ∧ (¬ ((g (50 + Int.toNat i) 0) ≠ (g (50 + Int.toNat w) 0)) → (((g (50 + Int.toNat i) 3) ≠ (g (50 + Int.toNat w) 3) → (Y 12 [(3, 1), (1, w), (1, yAg g (Int.toNat w) (Int.toNat i)), (141, w), (1, (yw (i + 1))), (141, i)] [] g)) ∧ (¬ ((g (50 + Int.toNat i) 3) ≠ (g (50 + Int.toNat w) 3)) → (∃ (a4 b5 : Int), [(3, 1), (1, i), (1, w)] = [(3, 1), (1, a4), (1, b5)] ∧ (0 ≤ a4 ∧ a4 < 40) ∧ (0 ≤ b5 ∧ b5 < 40) ∧ (∀ (r6 : Int), ((r6 = 1 ∧ (g (50 + Int.toNat a4) 2 < g (50 + Int.toNat b5) 2 ∨ (g (50 + Int.toNat a4) 2 = g (50 + Int.toNat b5) 2 ∧ a4 < b5))) ∨ (r6 = 0 ∧ ¬ (g (50 + Int.toNat a4) 2 < g (50 + Int.toNat b5) 2 ∨ (g (50 + Int.toNat a4) 2 = g (50 + Int.toNat b5) 2 ∧ a4 < b5)))) → ((r6 = 0 → (Y 12 [(3, 1), (1, w), (1, yAg g (Int.toNat w) (Int.toNat i)), (141, w), (1, (yw (i + 1))), (141, i)] [] g)) ∧ (¬ (r6 = 0) → ((yAg g (Int.toNat w) (Int.toNat i) = (-1) → (Y 12 [(3, 1), (1, w), (1, i), (141, w), (1, (yw (i + 1))), (141, i)] [] g)) ∧ (¬ (yAg g (Int.toNat w) (Int.toNat i) = (-1)) → (∃ (a10 b11 : Int), [(3, 1), (1, yAg g (Int.toNat w) (Int.toNat i)), (1, i)] = [(3, 1), (1, a10), (1, b11)] ∧ (0 ≤ a10 ∧ a10 < 40) ∧ (0 ≤ b11 ∧ b11 < 40) ∧ (∀ (r12 : Int), ((r12 = 1 ∧ (g (50 + Int.toNat a10) 2 < g (50 + Int.toNat b11) 2 ∨ (g (50 + Int.toNat a10) 2 = g (50 + Int.toNat b11) 2 ∧ a10 < b11))) ∨ (r12 = 0 ∧ ¬ (g (50 + Int.toNat a10) 2 < g (50 + Int.toNat b11) 2 ∨ (g (50 + Int.toNat a10) 2 = g (50 + Int.toNat b11) 2 ∧ a10 < b11)))) → ((r12 = 0 → (Y 12 [(3, 1), (1, w), (1, yAg g (Int.toNat w) (Int.toNat i)), (141, w), (1, (yw (i + 1))), (141, i)] [] g)) ∧ (¬ (r12 = 0) → (Y 12 [(3, 1), (1, w), (1, i), (141, w), (1, (yw (i + 1))), (141, i)] [] g))))))))))))))))))
    refine ⟨fun h1 => ?_, fun h1 => ?_⟩
    · omega
    · refine ⟨(by have hb := @yAg_b g (Int.toNat w) (Int.toNat i); omega), ?_⟩
      refine ⟨fun h2 => ?_, fun h2 => ?_⟩
      · have hb := @yAg_b g (Int.toNat w) (Int.toNat i)
        have yi : yw (i + 1) = i + 1 := yw_s (i + 1) (by omega) (by omega)
        have e : yAg g (Int.toNat w) (Int.toNat (i + 1)) = yAg g (Int.toNat w) (Int.toNat i) := by
          rw [show Int.toNat (i + 1) = Int.toNat i + 1 by omega]
          exact yAg_0 (by omega)
        have h9 := ih (i + 1) (by omega) (by omega) (141, i)
        rw [e] at h9
        rw [yi]
        exact h9
      · refine ⟨fun h3 => ?_, fun h3 => ?_⟩
        · have hb := @yAg_b g (Int.toNat w) (Int.toNat i)
          have yi : yw (i + 1) = i + 1 := yw_s (i + 1) (by omega) (by omega)
          have e : yAg g (Int.toNat w) (Int.toNat (i + 1)) = yAg g (Int.toNat w) (Int.toNat i) := by
            rw [show Int.toNat (i + 1) = Int.toNat i + 1 by omega]
            exact yAg_0 (by omega)
          have h9 := ih (i + 1) (by omega) (by omega) (141, i)
          rw [e] at h9
          rw [yi]
          exact h9
        · refine ⟨_, _, rfl, (by have hb := @yAg_b g (Int.toNat w) (Int.toNat i); omega), (by have hb := @yAg_b g (Int.toNat w) (Int.toNat i); omega), ?_⟩
          intro r6 p70
          refine ⟨fun h8 => ?_, fun h8 => ?_⟩
          · have hb := @yAg_b g (Int.toNat w) (Int.toNat i)
            have yi : yw (i + 1) = i + 1 := yw_s (i + 1) (by omega) (by omega)
            have e : yAg g (Int.toNat w) (Int.toNat (i + 1)) = yAg g (Int.toNat w) (Int.toNat i) := by
              rw [show Int.toNat (i + 1) = Int.toNat i + 1 by omega]
              exact yAg_0 (by omega)
            have h9 := ih (i + 1) (by omega) (by omega) (141, i)
            rw [e] at h9
            rw [yi]
            exact h9
          · refine ⟨fun h9 => ?_, fun h9 => ?_⟩
            · have hb := @yAg_b g (Int.toNat w) (Int.toNat i)
              have yi : yw (i + 1) = i + 1 := yw_s (i + 1) (by omega) (by omega)
              have e : yAg g (Int.toNat w) (Int.toNat (i + 1)) = i := by
                rw [show Int.toNat (i + 1) = Int.toNat i + 1 by omega]
                exact (yAg_1 (by omega)).trans (by omega)
              have h9 := ih (i + 1) (by omega) (by omega) (141, i)
              rw [e] at h9
              rw [yi]
              exact h9
            · refine ⟨_, _, rfl, (by have hb := @yAg_b g (Int.toNat w) (Int.toNat i); omega), (by have hb := @yAg_b g (Int.toNat w) (Int.toNat i); omega), ?_⟩
              intro r12 p130
              refine ⟨fun h14 => ?_, fun h14 => ?_⟩
              · have hb := @yAg_b g (Int.toNat w) (Int.toNat i)
                have yi : yw (i + 1) = i + 1 := yw_s (i + 1) (by omega) (by omega)
                have e : yAg g (Int.toNat w) (Int.toNat (i + 1)) = yAg g (Int.toNat w) (Int.toNat i) := by
                  rw [show Int.toNat (i + 1) = Int.toNat i + 1 by omega]
                  exact yAg_0 (by omega)
                have h9 := ih (i + 1) (by omega) (by omega) (141, i)
                rw [e] at h9
                rw [yi]
                exact h9
              · have hb := @yAg_b g (Int.toNat w) (Int.toNat i)
                have yi : yw (i + 1) = i + 1 := yw_s (i + 1) (by omega) (by omega)
                have e : yAg g (Int.toNat w) (Int.toNat (i + 1)) = i := by
                  rw [show Int.toNat (i + 1) = Int.toNat i + 1 by omega]
                  exact (yAg_1 (by omega)).trans (by omega)
                have h9 := ih (i + 1) (by omega) (by omega) (141, i)
                rw [e] at h9
                rw [yi]
                exact h9
set_option maxRecDepth 8000 in
theorem yv_OA {K : List yV → yM → Prop} {Y : yNx} {g : yM} {w : Int} (hY : yCl zpD127 (zpZ, zpRS, zpP11, zpMT, [yC_IB], (2, 64), 1) K Y) (hr_w : -2147483648 ≤ w ∧ w ≤ 2147483647) (hp0 : 0 ≤ w ∧ w < 40) (hp1 : 0 ≤ g 1 1 ∧ g 1 1 ≤ 40) (hK : ∀ (r : Int), (r = yAg g (Int.toNat w) (Int.toNat (g 1 1))) → K [(1, r)] g) : Y 0 [(3, 1), (1, w), (0, 0), (0, 0), (0, 0), (0, 0)] [] g := by
  refine yrun_ok (sp := fun pc => Nat.beq pc 12) hY 10 0 _ [] g ?_
  show (((0 : Int) ≤ w ∧ w < ((40 : Nat) : Int)) ∧ (Y 12 [(3, 1), (1, w), (1, (-1)), (141, w), (1, 0), (0, 0)] [] g))
  refine ⟨(by omega), ?_⟩
  exact yl_OA hY hp0 hp1 (hK _ rfl) (Int.toNat (g 1 1)) 0 (by omega) (by decide) _
theorem yM_OA {l : Launch} {Ts : List Cond} {cl : List vw_C} {RO : zRO} (H : zHyp Ts cl RO) : yMet l Ts cl zpZ RO zpMT yC_OA := ymet_of2 H.1 H.2.1 zpDj H.2.2.1 yRb H.p11 (ymets_cons (yM_IB H) ymets_nil) (zrc1 rfl) (plainFor_of_name zpy11) zpDk127 (fun as g K Y h hA hY => by
  obtain ⟨w, rfl, hp0, hp1, hK⟩ := h
  exact yv_OA hY (yAr1 hA (by simp)) hp0 hp1 hK)
def yP_SS : yPT := fun as g K => ∃ (w : Int), as = [(3, 1), (141, w)] ∧ (0 ≤ w ∧ w < g 1 1) ∧ (yTy zpZ g) ∧ (∀ (g' : yM), (g' = yst2 g (Int.toNat w)) → K [] g')
def yC_SS : yC := (129, (2, 61), yP_SS)
set_option maxRecDepth 8000 in
theorem yl_SS {K : List yV → yM → Prop} {Y : yNx} {g : yM} {w : Int} (hY : yCl zpD129 (zpZ, zpRS, zpP11, zpMT, [yC_MX], (2, 61), 0) K Y) (hw : 0 ≤ w ∧ w < g 1 1) (hT : yTy zpZ g) (hK : K [] (yst2 g (Int.toNat w))) : ∀ (d : Nat) (i : Int), i + d = g 1 7 → 0 ≤ i → Y 58 [(3, 1), (141, w), (1, yE3 g (Int.toNat w) (yE2 g (Int.toNat w) (g (50 + Int.toNat w) 9)) (Int.toNat i)), (1, i)] [] g := by
  intro d
  induction d with
  | zero =>
    intro i hd h0
    refine yrun_ok (sp := fun pc => Nat.beq pc 58) hY 30 58 _ [] g ?_
    show (((g 1 7) ≤ i → (((0 : Int) ≤ (g (50 + Int.toNat w) 4) ∧ (g (50 + Int.toNat w) 4) < ((6 : Nat) : Int)) ∧ (((yw ((g (50 + Int.toNat w) 2) - (g 13 (Int.toNat (g (50 + Int.toNat w) 4))))) < yE3 g (Int.toNat w) (yE2 g (Int.toNat w) (g (50 + Int.toNat w) 9)) (Int.toNat i) → (((yw ((g (50 + Int.toNat w) 2) - (g 13 (Int.toNat (g (50 + Int.toNat w) 4))))) < yE3 g (Int.toNat w) (yE2 g (Int.toNat w) (g (50 + Int.toNat w) 9)) (Int.toNat i) → (K [] (yset (yset g (50 + Int.toNat w) 10 (-2)) (50 + Int.toNat w) 11 (-2)))) ∧ (¬ ((yw ((g (50 + Int.toNat w) 2) - (g 13 (Int.toNat (g (50 + Int.toNat w) 4))))) < yE3 g (Int.toNat w) (yE2 g (Int.toNat w) (g (50 + Int.toNat w) 9)) (Int.toNat i)) → (K [] (yset (yset g (50 + Int.toNat w) 10 (-2)) (50 + Int.toNat w) 11 (yw ((g (50 + Int.toNat w) 2) - (g 13 (Int.toNat (g (50 + Int.toNat w) 4)))))))))) ∧ (¬ ((yw ((g (50 + Int.toNat w) 2) - (g 13 (Int.toNat (g (50 + Int.toNat w) 4))))) < yE3 g (Int.toNat w) (yE2 g (Int.toNat w) (g (50 + Int.toNat w) 9)) (Int.toNat i)) → (((yw ((g (50 + Int.toNat w) 2) - (g 13 (Int.toNat (g (50 + Int.toNat w) 4))))) < yE3 g (Int.toNat w) (yE2 g (Int.toNat w) (g (50 + Int.toNat w) 9)) (Int.toNat i) → (K [] (yset (yset g (50 + Int.toNat w) 10 (yE3 g (Int.toNat w) (yE2 g (Int.toNat w) (g (50 + Int.toNat w) 9)) (Int.toNat i))) (50 + Int.toNat w) 11 (-2)))) ∧ (¬ ((yw ((g (50 + Int.toNat w) 2) - (g 13 (Int.toNat (g (50 + Int.toNat w) 4))))) < yE3 g (Int.toNat w) (yE2 g (Int.toNat w) (g (50 + Int.toNat w) 9)) (Int.toNat i)) → (K [] (yset (yset g (50 + Int.toNat w) 10 (yE3 g (Int.toNat w) (yE2 g (Int.toNat w) (g (50 + Int.toNat w) 9)) (Int.toNat i))) (50 + Int.toNat w) 11 (yw ((g (50 + Int.toNat w) 2) - (g 13 (Int.toNat (g (50 + Int.toNat w) 4))))))))))))) ∧ (¬ ((g 1 7) ≤ i) → (((0 : Int) ≤ i ∧ i < ((12 : Nat) : Int)) ∧ (((g 15 (Int.toNat i)) ≠ (g (50 + Int.toNat w) 3) → (Y 58 [(3, 1), (141, w), (1, yE3 g (Int.toNat w) (yE2 g (Int.toNat w) (g (50 + Int.toNat w) 9)) (Int.toNat i)), (1, (yw (i + 1)))] [] g)) ∧ (¬ ((g 15 (Int.toNat i)) ≠ (g (50 + Int.toNat w) 3)) → (((0 : Int) ≤ i ∧ i < ((12 : Nat) : Int)) ∧ (((g (50 + Int.toNat w) 2) ≤ (g 16 (Int.toNat i)) → (Y 58 [(3, 1), (141, w), (1, yE3 g (Int.toNat w) (yE2 g (Int.toNat w) (g (50 + Int.toNat w) 9)) (Int.toNat i)), (1, (yw (i + 1)))] [] g)) ∧ (¬ ((g (50 + Int.toNat w) 2) ≤ (g 16 (Int.toNat i))) → (((0 : Int) ≤ i ∧ i < ((12 : Nat) : Int)) ∧ (∃ (a7 b8 : Int), [(1, yE3 g (Int.toNat w) (yE2 g (Int.toNat w) (g (50 + Int.toNat w) 9)) (Int.toNat i)), (1, (yw ((g 17 (Int.toNat i)) + 1)))] = [(1, a7), (1, b8)] ∧ (∀ (r9 : Int), (r9 = ymx a7 b8) → (Y 58 [(3, 1), (141, w), (1, r9), (1, (yw (i + 1)))] [] g))))))))))))
    refine ⟨fun h1 => ?_, fun h1 => ?_⟩
    · refine ⟨(by have hz := hT.sz; have h7 := hT.fO (q := 1) (j := 7) (List.mem_of_getElem? (i := 1) rfl) rfl; have hm := hT.fM (i := Int.toNat w) (by omega); omega), ?_⟩
      refine ⟨fun h2 => ?_, fun h2 => ?_⟩
      · refine ⟨fun h3 => ?_, fun h3 => ?_⟩
        · have e1 : i = g 1 7 := by omega
          subst e1
          have e : yst2 g (Int.toNat w) = yset (yset g (50 + Int.toNat w) 10 (-2)) (50 + Int.toNat w) 11 (-2) := by
            unfold yst2 yEf yLf
            have c : ¬ (yEe g (Int.toNat w) (g (50 + Int.toNat w) 9) ≤ yLt g (Int.toNat w)) := by
              unfold yEe yLt
              omega
            rw [if_neg c, if_neg c]
          rw [e] at hK
          exact hK
        · omega
      · refine ⟨fun h4 => ?_, fun h4 => ?_⟩
        · omega
        · have e1 : i = g 1 7 := by omega
          subst e1
          have e : yst2 g (Int.toNat w) = yset (yset g (50 + Int.toNat w) 10 (yE3 g (Int.toNat w) (yE2 g (Int.toNat w) (g (50 + Int.toNat w) 9)) (Int.toNat (g 1 7)))) (50 + Int.toNat w) 11 (yw ((g (50 + Int.toNat w) 2) - (g 13 (Int.toNat (g (50 + Int.toNat w) 4))))) := by
            unfold yst2 yEf yLf
            have c : (yEe g (Int.toNat w) (g (50 + Int.toNat w) 9) ≤ yLt g (Int.toNat w)) := by
              unfold yEe yLt
              omega
            rw [if_pos c, if_pos c]
            rfl
          rw [e] at hK
          exact hK
    · refine ⟨(by have hz := hT.sz; have h7 := hT.fO (q := 1) (j := 7) (List.mem_of_getElem? (i := 1) rfl) rfl; have hm := hT.fM (i := Int.toNat w) (by omega); omega), ?_⟩
      refine ⟨fun h5 => ?_, fun h5 => ?_⟩
      · omega
      · refine ⟨(by have hz := hT.sz; have h7 := hT.fO (q := 1) (j := 7) (List.mem_of_getElem? (i := 1) rfl) rfl; have hm := hT.fM (i := Int.toNat w) (by omega); omega), ?_⟩
        refine ⟨fun h6 => ?_, fun h6 => ?_⟩
        · omega
        · refine ⟨(by have hz := hT.sz; have h7 := hT.fO (q := 1) (j := 7) (List.mem_of_getElem? (i := 1) rfl) rfl; have hm := hT.fM (i := Int.toNat w) (by omega); omega), ?_⟩
          refine ⟨_, _, rfl, ?_⟩
          intro r9 p100
          omega
  | succ d ih =>
    intro i hd h0
    refine yrun_ok (sp := fun pc => Nat.beq pc 58) hY 30 58 _ [] g ?_
    show (((g 1 7) ≤ i → (((0 : Int) ≤ (g (50 + Int.toNat w) 4) ∧ (g (50 + Int.toNat w) 4) < ((6 : Nat) : Int)) ∧ (((yw ((g (50 + Int.toNat w) 2) - (g 13 (Int.toNat (g (50 + Int.toNat w) 4))))) < yE3 g (Int.toNat w) (yE2 g (Int.toNat w) (g (50 + Int.toNat w) 9)) (Int.toNat i) → (((yw ((g (50 + Int.toNat w) 2) - (g 13 (Int.toNat (g (50 + Int.toNat w) 4))))) < yE3 g (Int.toNat w) (yE2 g (Int.toNat w) (g (50 + Int.toNat w) 9)) (Int.toNat i) → (K [] (yset (yset g (50 + Int.toNat w) 10 (-2)) (50 + Int.toNat w) 11 (-2)))) ∧ (¬ ((yw ((g (50 + Int.toNat w) 2) - (g 13 (Int.toNat (g (50 + Int.toNat w) 4))))) < yE3 g (Int.toNat w) (yE2 g (Int.toNat w) (g (50 + Int.toNat w) 9)) (Int.toNat i)) → (K [] (yset (yset g (50 + Int.toNat w) 10 (-2)) (50 + Int.toNat w) 11 (yw ((g (50 + Int.toNat w) 2) - (g 13 (Int.toNat (g (50 + Int.toNat w) 4)))))))))) ∧ (¬ ((yw ((g (50 + Int.toNat w) 2) - (g 13 (Int.toNat (g (50 + Int.toNat w) 4))))) < yE3 g (Int.toNat w) (yE2 g (Int.toNat w) (g (50 + Int.toNat w) 9)) (Int.toNat i)) → (((yw ((g (50 + Int.toNat w) 2) - (g 13 (Int.toNat (g (50 + Int.toNat w) 4))))) < yE3 g (Int.toNat w) (yE2 g (Int.toNat w) (g (50 + Int.toNat w) 9)) (Int.toNat i) → (K [] (yset (yset g (50 + Int.toNat w) 10 (yE3 g (Int.toNat w) (yE2 g (Int.toNat w) (g (50 + Int.toNat w) 9)) (Int.toNat i))) (50 + Int.toNat w) 11 (-2)))) ∧ (¬ ((yw ((g (50 + Int.toNat w) 2) - (g 13 (Int.toNat (g (50 + Int.toNat w) 4))))) < yE3 g (Int.toNat w) (yE2 g (Int.toNat w) (g (50 + Int.toNat w) 9)) (Int.toNat i)) → (K [] (yset (yset g (50 + Int.toNat w) 10 (yE3 g (Int.toNat w) (yE2 g (Int.toNat w) (g (50 + Int.toNat w) 9)) (Int.toNat i))) (50 + Int.toNat w) 11 (yw ((g (50 + Int.toNat w) 2) - (g 13 (Int.toNat (g (50 + Int.toNat w) 4))))))))))))) ∧ (¬ ((g 1 7) ≤ i) → (((0 : Int) ≤ i ∧ i < ((12 : Nat) : Int)) ∧ (((g 15 (Int.toNat i)) ≠ (g (50 + Int.toNat w) 3) → (Y 58 [(3, 1), (141, w), (1, yE3 g (Int.toNat w) (yE2 g (Int.toNat w) (g (50 + Int.toNat w) 9)) (Int.toNat i)), (1, (yw (i + 1)))] [] g)) ∧ (¬ ((g 15 (Int.toNat i)) ≠ (g (50 + Int.toNat w) 3)) → (((0 : Int) ≤ i ∧ i < ((12 : Nat) : Int)) ∧ (((g (50 + Int.toNat w) 2) ≤ (g 16 (Int.toNat i)) → (Y 58 [(3, 1), (141, w), (1, yE3 g (Int.toNat w) (yE2 g (Int.toNat w) (g (50 + Int.toNat w) 9)) (Int.toNat i)), (1, (yw (i + 1)))] [] g)) ∧ (¬ ((g (50 + Int.toNat w) 2) ≤ (g 16 (Int.toNat i))) → (((0 : Int) ≤ i ∧ i < ((12 : Nat) : Int)) ∧ (∃ (a7 b8 : Int), [(1, yE3 g (Int.toNat w) (yE2 g (Int.toNat w) (g (50 + Int.toNat w) 9)) (Int.toNat i)), (1, (yw ((g 17 (Int.toNat i)) + 1)))] = [(1, a7), (1, b8)] ∧ (∀ (r9 : Int), (r9 = ymx a7 b8) → (Y 58 [(3, 1), (141, w), (1, r9), (1, (yw (i + 1)))] [] g))))))))))))
    refine ⟨fun h1 => ?_, fun h1 => ?_⟩
    · refine ⟨(by have hz := hT.sz; have h7 := hT.fO (q := 1) (j := 7) (List.mem_of_getElem? (i := 1) rfl) rfl; have hm := hT.fM (i := Int.toNat w) (by omega); omega), ?_⟩
      refine ⟨fun h2 => ?_, fun h2 => ?_⟩
      · refine ⟨fun h3 => ?_, fun h3 => ?_⟩
        · omega
        · omega
      · refine ⟨fun h4 => ?_, fun h4 => ?_⟩
        · omega
        · omega
    · refine ⟨(by have hz := hT.sz; have h7 := hT.fO (q := 1) (j := 7) (List.mem_of_getElem? (i := 1) rfl) rfl; have hm := hT.fM (i := Int.toNat w) (by omega); omega), ?_⟩
      refine ⟨fun h5 => ?_, fun h5 => ?_⟩
      · have hz := hT.sz
        have h7 := hT.fO (q := 1) (j := 7) (List.mem_of_getElem? (i := 1) rfl) rfl
        have hm := hT.fM (i := Int.toNat w) (by omega)
        have yi : yw (i + 1) = i + 1 := yw_s (i + 1) (by omega) (by omega)
        have e : yE3 g (Int.toNat w) (yE2 g (Int.toNat w) (g (50 + Int.toNat w) 9)) (Int.toNat (i + 1)) = yE3 g (Int.toNat w) (yE2 g (Int.toNat w) (g (50 + Int.toNat w) 9)) (Int.toNat i) := by
          rw [show Int.toNat (i + 1) = Int.toNat i + 1 by omega]
          exact yE3_0 (by omega)
        have h9 := ih (i + 1) (by omega) (by omega)
        rw [e] at h9
        rw [yi]
        exact h9
      · refine ⟨(by have hz := hT.sz; have h7 := hT.fO (q := 1) (j := 7) (List.mem_of_getElem? (i := 1) rfl) rfl; have hm := hT.fM (i := Int.toNat w) (by omega); omega), ?_⟩
        refine ⟨fun h6 => ?_, fun h6 => ?_⟩
        · have hz := hT.sz
          have h7 := hT.fO (q := 1) (j := 7) (List.mem_of_getElem? (i := 1) rfl) rfl
          have hm := hT.fM (i := Int.toNat w) (by omega)
          have yi : yw (i + 1) = i + 1 := yw_s (i + 1) (by omega) (by omega)
          have e : yE3 g (Int.toNat w) (yE2 g (Int.toNat w) (g (50 + Int.toNat w) 9)) (Int.toNat (i + 1)) = yE3 g (Int.toNat w) (yE2 g (Int.toNat w) (g (50 + Int.toNat w) 9)) (Int.toNat i) := by
            rw [show Int.toNat (i + 1) = Int.toNat i + 1 by omega]
            exact yE3_0 (by omega)
          have h9 := ih (i + 1) (by omega) (by omega)
          rw [e] at h9
          rw [yi]
          exact h9
        · refine ⟨(by have hz := hT.sz; have h7 := hT.fO (q := 1) (j := 7) (List.mem_of_getElem? (i := 1) rfl) rfl; have hm := hT.fM (i := Int.toNat w) (by omega); omega), ?_⟩
          refine ⟨_, _, rfl, ?_⟩
          intro r9 p100
          have hz := hT.sz
          have h7 := hT.fO (q := 1) (j := 7) (List.mem_of_getElem? (i := 1) rfl) rfl
          have hm := hT.fM (i := Int.toNat w) (by omega)
          have yi : yw (i + 1) = i + 1 := yw_s (i + 1) (by omega) (by omega)
          have e : yE3 g (Int.toNat w) (yE2 g (Int.toNat w) (g (50 + Int.toNat w) 9)) (Int.toNat (i + 1)) = r9 := by
            rw [show Int.toNat (i + 1) = Int.toNat i + 1 by omega]
            rw [p100]
            exact yE3_1 (by omega)
          have h9 := ih (i + 1) (by omega) (by omega)
          rw [e] at h9
          rw [yi]
          exact h9
set_option maxRecDepth 8000 in
theorem yv_SS {K : List yV → yM → Prop} {Y : yNx} {g : yM} {w : Int} (hY : yCl zpD129 (zpZ, zpRS, zpP11, zpMT, [yC_MX], (2, 61), 0) K Y) (hp0 : 0 ≤ w ∧ w < g 1 1) (hp1 : yTy zpZ g) (hK : ∀ (g' : yM), (g' = yst2 g (Int.toNat w)) → K [] g') : Y 0 [(3, 1), (141, w), (0, 0), (0, 0)] [] g := by
  refine yrun_ok (sp := fun pc => Nat.beq pc 58) hY 33 0 _ [] g ?_
  show (∃ (a1 b2 : Int), [(1, 0), (1, (yw ((g (50 + Int.toNat w) 1) - (g 1 9))))] = [(1, a1), (1, b2)] ∧ (∀ (r3 : Int), (r3 = ymx a1 b2) → (((0 : Int) ≤ (g (50 + Int.toNat w) 4) ∧ (g (50 + Int.toNat w) 4) < ((6 : Nat) : Int)) ∧ (∃ (a5 b6 : Int), [(1, r3), (1, (yw ((g (50 + Int.toNat w) 2) - (g 14 (Int.toNat (g (50 + Int.toNat w) 4))))))] = [(1, a5), (1, b6)] ∧ (∀ (r7 : Int), (r7 = ymx a5 b6) → (((g (50 + Int.toNat w) 9) = (-1) → (Y 58 [(3, 1), (141, w), (1, r7), (1, 0)] [] g)) ∧ (¬ ((g (50 + Int.toNat w) 9) = (-1)) → (((0 : Int) ≤ (g (50 + Int.toNat w) 9) ∧ (g (50 + Int.toNat w) 9) < ((40 : Nat) : Int)) ∧ (∃ (a10 b11 : Int), [(1, r7), (1, (g (50 + Int.toNat (g (50 + Int.toNat w) 9)) 2))] = [(1, a10), (1, b11)] ∧ (∀ (r12 : Int), (r12 = ymx a10 b11) → (Y 58 [(3, 1), (141, w), (1, r12), (1, 0)] [] g)))))))))))
  refine ⟨_, _, rfl, ?_⟩
  intro r3 p40
  refine ⟨(by have hT := hp1; have hz := hT.sz; have h7 := hT.fO (q := 1) (j := 7) (List.mem_of_getElem? (i := 1) rfl) rfl; have hm := hT.fM (i := Int.toNat w) (by omega); have h9 := hT.fR (j := 9) (q := 50 + Int.toNat w) (List.mem_of_getElem? (i := 41) rfl) (by omega) (by omega) rfl; omega), ?_⟩
  refine ⟨_, _, rfl, ?_⟩
  intro r7 p80
  refine ⟨fun h9 => ?_, fun h9 => ?_⟩
  · have hT := hp1
    have hz := hT.sz
    have h7 := hT.fO (q := 1) (j := 7) (List.mem_of_getElem? (i := 1) rfl) rfl
    have hm := hT.fM (i := Int.toNat w) (by omega)
    have h9 := hT.fR (j := 9) (q := 50 + Int.toNat w) (List.mem_of_getElem? (i := 41) rfl) (by omega) (by omega) rfl
    have e : yE3 g (Int.toNat w) (yE2 g (Int.toNat w) (g (50 + Int.toNat w) 9)) (Int.toNat 0) = r7 := by
      show (yE2 g (Int.toNat w) (g (50 + Int.toNat w) 9)) = _
      unfold yE2 yE1
      rw [if_pos (by omega)]
      rw [p80, p40]
    have h8 := yl_SS hY hp0 hp1 (hK _ rfl) (Int.toNat (g 1 7)) 0 (by omega) (by decide)
    rw [e] at h8
    exact h8
  · refine ⟨(by have hT := hp1; have hz := hT.sz; have h7 := hT.fO (q := 1) (j := 7) (List.mem_of_getElem? (i := 1) rfl) rfl; have hm := hT.fM (i := Int.toNat w) (by omega); have h9 := hT.fR (j := 9) (q := 50 + Int.toNat w) (List.mem_of_getElem? (i := 41) rfl) (by omega) (by omega) rfl; omega), ?_⟩
    refine ⟨_, _, rfl, ?_⟩
    intro r12 p130
    have hT := hp1
    have hz := hT.sz
    have h7 := hT.fO (q := 1) (j := 7) (List.mem_of_getElem? (i := 1) rfl) rfl
    have hm := hT.fM (i := Int.toNat w) (by omega)
    have h9 := hT.fR (j := 9) (q := 50 + Int.toNat w) (List.mem_of_getElem? (i := 41) rfl) (by omega) (by omega) rfl
    have e : yE3 g (Int.toNat w) (yE2 g (Int.toNat w) (g (50 + Int.toNat w) 9)) (Int.toNat 0) = r12 := by
      show (yE2 g (Int.toNat w) (g (50 + Int.toNat w) 9)) = _
      unfold yE2 yE1
      rw [if_neg (by omega)]
      rw [p130, p80, p40]
    have h8 := yl_SS hY hp0 hp1 (hK _ rfl) (Int.toNat (g 1 7)) 0 (by omega) (by decide)
    rw [e] at h8
    exact h8
theorem yM_SS {l : Launch} {Ts : List Cond} {cl : List vw_C} {RO : zRO} (H : zHyp Ts cl RO) : yMet l Ts cl zpZ RO zpMT yC_SS := ymet_of2 H.1 H.2.1 zpDj H.2.2.1 yRb H.p11 (ymets_cons (yM_MX H) ymets_nil) (zrc0 rfl) (plainFor_of_name zpy11) zpDk129 (fun as g K Y h hA hY => by
  obtain ⟨w, rfl, hp0, hp1, hK⟩ := h
  exact yv_SS hY  hp0 hp1 hK)
def yP_SE2 : yPT := fun as g K => as = [(3, 1)] ∧ (yTy zpZ g) ∧ (∀ (g' : yM), (yTy zpZ g') → (yWs g g') → (yStl g') → K [] g')
def yC_SE2 : yC := (128, (3, 89), yP_SE2)
theorem yw_rng (z : Int) : -2147483648 ≤ yw z ∧ yw z ≤ 2147483647 := by
  unfold yw
  have h1 := Int.le_bmod (x := z) (m := 4294967296) (by decide)
  have h2 := Int.bmod_lt (x := z) (m := 4294967296) (by decide)
  omega
/-- the first i are settled, out of g -/
def ySg (g m : yM) (i : Int) : Prop := yTy zpZ m ∧ yWs g m ∧ ∀ j : Nat, (j : Int) < i → m (50 + j) 9 = yAg g j (Int.toNat (g 1 1)) ∧ m (50 + j) 10 = yEf g j (yAg g j (Int.toNat (g 1 1))) ∧ m (50 + j) 11 = yLf g j (yAg g j (Int.toNat (g 1 1)))
theorem yst2_nc {g : yM} {c a b : Nat} (h : ¬ (a = 50 + c ∧ 10 ≤ b ∧ b ≤ 11)) : yst2 g c a b = g a b := by
  unfold yst2
  rw [yset_ne (fun z => h (by omega)), yset_ne (fun z => h (by omega))]
theorem yEf_b {g : yM} (hT : yTy zpZ g) (c : Nat) (a : Int) : -2147483648 ≤ yEf g c a ∧ yEf g c a ≤ 2147483647 := by
  unfold yEf
  have h1 : -2147483648 ≤ yLt g c ∧ yLt g c ≤ 2147483647 := yw_rng _
  split
  · refine ⟨?_, by omega⟩
    have key : ∀ n e, -2147483648 ≤ e → -2147483648 ≤ yE3 g c e n := fun n => by
      induction n with
      | zero => exact fun e h => h
      | succ n ih =>
        intro e h
        have i1 := ih e h
        have h2 := yw_rng (g 17 n + 1)
        by_cases q : g 15 n = g (50 + c) 3 ∧ g 16 n < g (50 + c) 2
        · rw [yE3_1 q]
          unfold ymx
          split <;> omega
        · rw [yE3_0 q]
          exact i1
    unfold yEe
    refine key _ _ ?_
    have h3 := yw_rng (g (50 + c) 1 - g 1 9)
    have h4 := yw_rng (g (50 + c) 2 - g 14 (Int.toNat (g (50 + c) 4)))
    have h5 : -2147483648 ≤ yE1 g c := by
      unfold yE1 ymx
      split
      · omega
      · split <;> omega
    unfold yE2 ymx
    split
    · exact h5
    · split
      · omega
      · exact h5
  · exact ⟨by decide, by decide⟩
theorem yLf_b (g : yM) (c : Nat) (a : Int) : -2147483648 ≤ yLf g c a ∧ yLf g c a ≤ 2147483647 := by
  unfold yLf
  have h1 : -2147483648 ≤ yLt g c ∧ yLt g c ≤ 2147483647 := yw_rng _
  split
  · exact h1
  · exact ⟨by decide, by decide⟩
theorem ySg.step {g m : yM} {i : Int} (h : ySg g m i) (hi : 0 ≤ i ∧ i < g 1 1) (hz : g 1 1 ≤ 40) : yTy zpZ (yset m (50 + Int.toNat i) 9 (yAg m (Int.toNat i) (Int.toNat (m 1 1)))) ∧ ySg g (yst2 (yset m (50 + Int.toNat i) 9 (yAg m (Int.toNat i) (Int.toNat (m 1 1)))) (Int.toNat i)) (i + 1) := by
  obtain ⟨h1, h2, h3⟩ := h
  have e11 : m 1 1 = g 1 1 := h2 1 1 (by omega)
  have ea : yAg m (Int.toNat i) (Int.toNat (m 1 1)) = yAg g (Int.toNat i) (Int.toNat (g 1 1)) := by
    rw [e11]
    exact yAg_ws h2 _ (by omega) _ (by omega)
  rw [ea]
  have hb := @yAg_b g (Int.toNat i) (Int.toNat (g 1 1))
  have t1 : yTy zpZ (yset m (50 + Int.toNat i) 9 (yAg g (Int.toNat i) (Int.toNat (g 1 1)))) := h1.sR (j := 9) (List.mem_of_getElem? (i := 41) rfl) (by omega) (by omega) rfl (by omega) ⟨by omega, by omega⟩
  have w1 : yWs g (yset m (50 + Int.toNat i) 9 (yAg g (Int.toNat i) (Int.toNat (g 1 1)))) := fun a b hab => by
    rw [yset_ne (fun z => hab (by omega))]
    exact h2 a b hab
  have e9 : (yset m (50 + Int.toNat i) 9 (yAg g (Int.toNat i) (Int.toNat (g 1 1)))) (50 + Int.toNat i) 9 = yAg g (Int.toNat i) (Int.toNat (g 1 1)) := yset_eq
  refine ⟨t1, ?_, fun a b hab => ?_, fun j hj => ?_⟩
  · unfold yst2
    refine yTy.sR (j := 11) ?_ (List.mem_of_getElem? (i := 41) rfl) (by omega) (by omega) rfl (by omega) (yLf_b _ _ _)
    exact yTy.sR (j := 10) t1 (List.mem_of_getElem? (i := 41) rfl) (by omega) (by omega) rfl (by omega) (yEf_b t1 _ _)
  · rw [yst2_nc (fun z => hab (by omega))]
    exact w1 a b hab
  · by_cases ej : j = Int.toNat i
    · subst ej
      refine ⟨?_, ?_, ?_⟩
      · rw [yst2_nc (by omega)]
        exact e9
      · unfold yst2
        rw [yset_ne (by omega), yset_eq, e9, yEf_ws w1 (by omega)]
      · unfold yst2
        rw [yset_eq, e9, yLf_ws w1 (by omega)]
    · rw [yst2_nc (by omega), yst2_nc (by omega), yst2_nc (by omega), yset_ne (by omega), yset_ne (by omega), yset_ne (by omega)]
      exact h3 j (by omega)
theorem ySg.all {g m : yM} (h : ySg g m (g 1 1)) (hz : 0 ≤ g 1 1 ∧ g 1 1 ≤ 40) : yStl m := by
  intro i hi
  have e11 : m 1 1 = g 1 1 := h.2.1 1 1 (by omega)
  rw [e11] at hi ⊢
  rw [yAg_ws h.2.1 i (by omega) _ (by omega), yEf_ws h.2.1 (by omega), yLf_ws h.2.1 (by omega)]
  exact h.2.2 i hi
set_option maxRecDepth 8000 in
theorem yl_SE2 {K : List yV → yM → Prop} {Y : yNx} {g : yM} (hY : yCl zpD128 (zpZ, zpRS, zpP11, zpMT, [yC_OA, yC_SS], (3, 89), 0) K Y) (hz : 0 ≤ g 1 1 ∧ g 1 1 ≤ 40) (hK : ∀ g' : yM, yTy zpZ g' → yWs g g' → yStl g' → K [] g') : ∀ (d : Nat) (i : Int), i + d = g 1 1 → 0 ≤ i → ∀ m : yM, ySg g m i → Y 2 [(3, 1), (1, i)] [] m := by
  intro d
  induction d with
  | zero =>
    intro i hd h0 m hm
    refine yrun_ok (sp := fun pc => Nat.beq pc 2) hY 21 2 _ [] m ?_
    show (((m 1 1) ≤ i → (K [] m)) ∧ (¬ ((m 1 1) ≤ i) → (((0 : Int) ≤ i ∧ i < ((40 : Nat) : Int)) ∧ (∃ (w2 : Int), [(3, 1), (1, i)] = [(3, 1), (1, w2)] ∧ (0 ≤ w2 ∧ w2 < 40) ∧ (0 ≤ m 1 1 ∧ m 1 1 ≤ 40) ∧ (∀ (r3 : Int), (r3 = yAg m (Int.toNat w2) (Int.toNat (m 1 1))) → (((0 : Int) ≤ i ∧ i < ((40 : Nat) : Int)) ∧ (∃ (w5 : Int), [(3, 1), (141, i)] = [(3, 1), (141, w5)] ∧ (0 ≤ w5 ∧ w5 < (yset m (50 + Int.toNat i) 9 r3) 1 1) ∧ (yTy zpZ (yset m (50 + Int.toNat i) 9 r3)) ∧ (∀ (g6 : yM), (g6 = yst2 (yset m (50 + Int.toNat i) 9 r3) (Int.toNat w5)) → (Y 2 [(3, 1), (1, (yw (i + 1)))] [] g6)))))))))
    refine ⟨fun h1 => ?_, fun h1 => ?_⟩
    · have e11 : m 1 1 = g 1 1 := hm.2.1 1 1 (by omega)
      have ei : i = g 1 1 := by omega
      subst ei
      exact hK _ hm.1 hm.2.1 (hm.all hz)
    · refine ⟨(by have e11 : m 1 1 = g 1 1 := hm.2.1 1 1 (by omega); omega), ?_⟩
      refine ⟨_, rfl, (by have e11 : m 1 1 = g 1 1 := hm.2.1 1 1 (by omega); omega), (by have e11 : m 1 1 = g 1 1 := hm.2.1 1 1 (by omega); omega), ?_⟩
      intro r3 p40
      refine ⟨(by have e11 : m 1 1 = g 1 1 := hm.2.1 1 1 (by omega); omega), ?_⟩
      refine ⟨_, rfl, (by have e11 : m 1 1 = g 1 1 := hm.2.1 1 1 (by omega); omega), (by have e11 : m 1 1 = g 1 1 := hm.2.1 1 1 (by omega); exfalso; omega), ?_⟩
      intro g6 p70
      have e11 : m 1 1 = g 1 1 := hm.2.1 1 1 (by omega)
      omega
  | succ d ih =>
    intro i hd h0 m hm
    refine yrun_ok (sp := fun pc => Nat.beq pc 2) hY 21 2 _ [] m ?_
    show (((m 1 1) ≤ i → (K [] m)) ∧ (¬ ((m 1 1) ≤ i) → (((0 : Int) ≤ i ∧ i < ((40 : Nat) : Int)) ∧ (∃ (w2 : Int), [(3, 1), (1, i)] = [(3, 1), (1, w2)] ∧ (0 ≤ w2 ∧ w2 < 40) ∧ (0 ≤ m 1 1 ∧ m 1 1 ≤ 40) ∧ (∀ (r3 : Int), (r3 = yAg m (Int.toNat w2) (Int.toNat (m 1 1))) → (((0 : Int) ≤ i ∧ i < ((40 : Nat) : Int)) ∧ (∃ (w5 : Int), [(3, 1), (141, i)] = [(3, 1), (141, w5)] ∧ (0 ≤ w5 ∧ w5 < (yset m (50 + Int.toNat i) 9 r3) 1 1) ∧ (yTy zpZ (yset m (50 + Int.toNat i) 9 r3)) ∧ (∀ (g6 : yM), (g6 = yst2 (yset m (50 + Int.toNat i) 9 r3) (Int.toNat w5)) → (Y 2 [(3, 1), (1, (yw (i + 1)))] [] g6)))))))))
    refine ⟨fun h1 => ?_, fun h1 => ?_⟩
    · have e11 : m 1 1 = g 1 1 := hm.2.1 1 1 (by omega)
      omega
    · refine ⟨(by have e11 : m 1 1 = g 1 1 := hm.2.1 1 1 (by omega); omega), ?_⟩
      refine ⟨_, rfl, (by have e11 : m 1 1 = g 1 1 := hm.2.1 1 1 (by omega); omega), (by have e11 : m 1 1 = g 1 1 := hm.2.1 1 1 (by omega); omega), ?_⟩
      intro r3 p40
      refine ⟨(by have e11 : m 1 1 = g 1 1 := hm.2.1 1 1 (by omega); omega), ?_⟩
      refine ⟨_, rfl, (by have e11 : m 1 1 = g 1 1 := hm.2.1 1 1 (by omega); have := show (yset m (50 + Int.toNat i) 9 r3) 1 1 = m 1 1 from yset_ne (by omega); omega), (by have e11 : m 1 1 = g 1 1 := hm.2.1 1 1 (by omega); have hs := hm.step (i := i) ⟨h0, by omega⟩ hz.2; rw [p40]; exact hs.1), ?_⟩
      intro g6 p70
      have e11 : m 1 1 = g 1 1 := hm.2.1 1 1 (by omega)
      have hs := hm.step (i := i) ⟨h0, by omega⟩ hz.2
      have yi : yw (i + 1) = i + 1 := yw_s (i + 1) (by omega) (by omega)
      rw [yi]
      refine ih (i + 1) (by omega) (by omega) _ ?_
      rw [p70, p40]
      exact hs.2
set_option maxRecDepth 8000 in
theorem yv_SE2 {K : List yV → yM → Prop} {Y : yNx} {g : yM} (hY : yCl zpD128 (zpZ, zpRS, zpP11, zpMT, [yC_OA, yC_SS], (3, 89), 0) K Y) (hp0 : yTy zpZ g) (hK : ∀ (g' : yM), (yTy zpZ g') → (yWs g g') → (yStl g') → K [] g') : Y 0 [(3, 1), (0, 0)] [] g := by
  refine yrun_ok (sp := fun pc => Nat.beq pc 2) hY 3 0 _ [] g ?_
  show (Y 2 [(3, 1), (1, 0)] [] g)
  exact yl_SE2 hY hp0.sz (fun g' a b c => hK g' a b c) (Int.toNat (g 1 1)) 0 (by have := hp0.sz; omega) (by decide) g ⟨hp0, fun _ _ _ => rfl, fun j hj => absurd hj (by omega)⟩
theorem yM_SE2 {l : Launch} {Ts : List Cond} {cl : List vw_C} {RO : zRO} (H : zHyp Ts cl RO) : yMet l Ts cl zpZ RO zpMT yC_SE2 := ymet_of2 H.1 H.2.1 zpDj H.2.2.1 yRb H.p11 (ymets_cons (yM_OA H) (ymets_cons (yM_SS H) ymets_nil)) (zrc0 rfl) (plainFor_of_name zpy11) zpDk128 (fun as g K Y h hA hY => by
  obtain ⟨rfl, hp0, hK⟩ := h
  exact yv_SE2 hY  hp0 hK)
theorem yStl.keep {g m : yM} (h : yStl g) (hz : g 1 1 ≤ 40) (e1 : m 1 1 = g 1 1) (e7 : m 1 7 = g 1 7) (e9 : m 1 9 = g 1 9) (eA : ∀ a b : Nat, 13 ≤ a → a ≤ 17 → m a b = g a b) (eC : ∀ i b : Nat, (i : Int) < g 1 1 → b ≤ 4 ∨ (9 ≤ b ∧ b ≤ 11) → m (50 + i) b = g (50 + i) b) : yStl m := by
  intro i hi
  rw [e1] at hi ⊢
  have hA : ∀ n : Nat, (n : Int) ≤ g 1 1 → yAg m i n = yAg g i n := fun n => by
    induction n with
    | zero => exact fun _ => rfl
    | succ n ih =>
      intro hn
      have ih := ih (by omega)
      have hb := @yAg_b g i n
      have q0 := eC n 0 (by omega) (by omega)
      have q2 := eC n 2 (by omega) (by omega)
      have q3 := eC n 3 (by omega) (by omega)
      have i0 := eC i 0 hi (by omega)
      have i2 := eC i 2 hi (by omega)
      have i3 := eC i 3 hi (by omega)
      have a2 := eC (Int.toNat (yAg g i n)) 2 (by omega) (by omega)
      by_cases c : (g (50 + n) 0 = g (50 + i) 0 ∧ g (50 + n) 3 = g (50 + i) 3 ∧ (g (50 + n) 2 < g (50 + i) 2 ∨ (g (50 + n) 2 = g (50 + i) 2 ∧ n < i))) ∧ (yAg g i n = -1 ∨ (g (50 + Int.toNat (yAg g i n)) 2 < g (50 + n) 2 ∨ (g (50 + Int.toNat (yAg g i n)) 2 = g (50 + n) 2 ∧ yAg g i n < n)))
      · rw [yAg_1 c, yAg_1 (by rw [ih, q0, i0, q2, i2, q3, i3, a2]; exact c)]
      · rw [yAg_0 c, yAg_0 (by rw [ih, q0, i0, q2, i2, q3, i3, a2]; exact c), ih]
  have hAi := hA (Int.toNat (g 1 1)) (by omega)
  have hb := @yAg_b g i (Int.toNat (g 1 1))
  rw [hAi]
  generalize yAg g i (Int.toNat (g 1 1)) = a at hb hAi ⊢
  have f1 := eC i 1 hi (by omega)
  have f2 := eC i 2 hi (by omega)
  have f3 := eC i 3 hi (by omega)
  have f4 := eC i 4 hi (by omega)
  have g2 := eC (Int.toNat a) 2 (by omega) (by omega)
  have h1 : yE1 m i = yE1 g i := by
    unfold yE1
    rw [f1, f2, f4, e9, eA 14 _ (by omega) (by omega)]
  have h2 : yE2 m i a = yE2 g i a := by
    unfold yE2
    rw [h1, g2]
  have h3 : ∀ (e : Int) (n : Nat), yE3 m i e n = yE3 g i e n := fun e n => by
    induction n with
    | zero => rfl
    | succ n ih =>
      by_cases q : g 15 n = g (50 + i) 3 ∧ g 16 n < g (50 + i) 2
      · rw [yE3_1 q, yE3_1 (by rw [eA 15 n (by omega) (by omega), f3, eA 16 n (by omega) (by omega), f2]; exact q), ih, eA 17 n (by omega) (by omega)]
      · rw [yE3_0 q, yE3_0 (by rw [eA 15 n (by omega) (by omega), f3, eA 16 n (by omega) (by omega), f2]; exact q), ih]
  have h4 : yLt m i = yLt g i := by
    unfold yLt
    rw [f2, f4, eA 13 _ (by omega) (by omega)]
  have h5 : yEe m i a = yEe g i a := by
    unfold yEe
    rw [h2, h3, e7]
  have h6 : yEf m i a = yEf g i a := by
    unfold yEf
    rw [h5, h4]
  have h7 : yLf m i a = yLf g i a := by
    unfold yLf
    rw [h5, h4]
  obtain ⟨w9, w10, w11⟩ := h i hi
  rw [h6, h7, eC i 9 hi (by omega), eC i 10 hi (by omega), eC i 11 hi (by omega)]
  rw [hA (Int.toNat (g 1 1)) (by omega)] at hAi
  rw [hAi] at w9 w10 w11
  exact ⟨w9, w10, w11⟩
def yWz (g g' : yM) : Prop := yWs g g' ∧ yStl g'
theorem yWz.un {g g' : yM} (h : yWz g g') : yUn yWSs g g' := h.1.un
def yP_SE : yPT := fun as g K => as = [(3, 1)] ∧ (yTy zpZ g) ∧ (∀ (g' : yM), (yTy zpZ g') → (yWz g g') → K [] g')
def yC_SE : yC := (128, (3, 89), yP_SE)
theorem yM_SE {l : Launch} {Ts : List Cond} {cl : List vw_C} {RO : zRO} (H : zHyp Ts cl RO) : yMet l Ts cl zpZ RO zpMT yC_SE := fun D tys A ad ws g as As K hMem hSA hlen hD hK0 => yM_SE2 H D tys A ad ws g as As K hMem hSA hlen hD (by
  obtain ⟨h1, h2, h3⟩ := hK0
  exact ⟨h1, h2, fun g' a b c => h3 g' a ⟨b, c⟩⟩)
