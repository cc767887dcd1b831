/-! OF -/
def yP_TE : yPT := fun as g K => ∃ (w x : Int), as = [(141, w), (1, x)] ∧ (0 ≤ w ∧ w < 40) ∧ (∀ (r : Int), (x < 0 ∨ 10 < x → r = -1) → (0 ≤ x ∧ x ≤ 7 → r = g (50 + Int.toNat w) (Int.toNat x)) → (8 ≤ x ∧ x ≤ 10 → r = g (50 + Int.toNat w) (Int.toNat x + 1)) → K [(1, r)] g)
def yC_TE : yC := (54, (1, 40), yP_TE)
set_option maxRecDepth 8000 in
theorem yv_TE {K : List yV → yM → Prop} {Y : yNx} {g : yM} {w x : Int} (hY : yCl zpD54 (zpZ, zpRS, zpP3, zpMT, [], (1, 40), 1) K Y) (hr_x : -2147483648 ≤ x ∧ x ≤ 2147483647) (hp0 : 0 ≤ w ∧ w < 40) (hK : ∀ (r : Int), (x < 0 ∨ 10 < x → r = -1) → (0 ≤ x ∧ x ≤ 7 → r = g (50 + Int.toNat w) (Int.toNat x)) → (8 ≤ x ∧ x ≤ 10 → r = g (50 + Int.toNat w) (Int.toNat x + 1)) → K [(1, r)] g) : Y 0 [(141, w), (1, x)] [] g := by
  refine yrun_ok (sp := fun pc => false) hY 5 0 _ [] g ?_
  show (((11 : Nat) : Int) = (10 : Int) - 0 + 1 ∧ (x < 0 ∨ 10 < x → (K [(1, (-1))] g)) ∧ (x = 0 → (K [(1, (g (50 + Int.toNat w) 0))] g)) ∧ (x = 0 + 1 → (K [(1, (g (50 + Int.toNat w) 1))] g)) ∧ (x = 0 + 1 + 1 → (K [(1, (g (50 + Int.toNat w) 2))] g)) ∧ (x = 0 + 1 + 1 + 1 → (K [(1, (g (50 + Int.toNat w) 3))] g)) ∧ (x = 0 + 1 + 1 + 1 + 1 → (K [(1, (g (50 + Int.toNat w) 4))] g)) ∧ (x = 0 + 1 + 1 + 1 + 1 + 1 → (K [(1, (g (50 + Int.toNat w) 5))] g)) ∧ (x = 0 + 1 + 1 + 1 + 1 + 1 + 1 → (K [(1, (g (50 + Int.toNat w) 6))] g)) ∧ (x = 0 + 1 + 1 + 1 + 1 + 1 + 1 + 1 → (K [(1, (g (50 + Int.toNat w) 7))] g)) ∧ (x = 0 + 1 + 1 + 1 + 1 + 1 + 1 + 1 + 1 → (K [(1, (g (50 + Int.toNat w) 9))] g)) ∧ (x = 0 + 1 + 1 + 1 + 1 + 1 + 1 + 1 + 1 + 1 → (K [(1, (g (50 + Int.toNat w) 10))] g)) ∧ (x = 0 + 1 + 1 + 1 + 1 + 1 + 1 + 1 + 1 + 1 + 1 → (K [(1, (g (50 + Int.toNat w) 11))] g)) ∧ True)
  refine ⟨by decide, fun h1 => ?_, fun h1 => ?_, fun h1 => ?_, fun h1 => ?_, fun h1 => ?_, fun h1 => ?_, fun h1 => ?_, fun h1 => ?_, fun h1 => ?_, fun h1 => ?_, fun h1 => ?_, fun h1 => ?_, trivial⟩
  · exact hK _ (fun _ => rfl) (fun h => absurd h (by omega)) (fun h => absurd h (by omega))
  · obtain rfl : x = 0 := by omega
    exact hK _ (fun h => absurd h (by omega)) (fun _ => rfl) (fun h => absurd h (by omega))
  · obtain rfl : x = 1 := by omega
    exact hK _ (fun h => absurd h (by omega)) (fun _ => rfl) (fun h => absurd h (by omega))
  · obtain rfl : x = 2 := by omega
    exact hK _ (fun h => absurd h (by omega)) (fun _ => rfl) (fun h => absurd h (by omega))
  · obtain rfl : x = 3 := by omega
    exact hK _ (fun h => absurd h (by omega)) (fun _ => rfl) (fun h => absurd h (by omega))
  · obtain rfl : x = 4 := by omega
    exact hK _ (fun h => absurd h (by omega)) (fun _ => rfl) (fun h => absurd h (by omega))
  · obtain rfl : x = 5 := by omega
    exact hK _ (fun h => absurd h (by omega)) (fun _ => rfl) (fun h => absurd h (by omega))
  · obtain rfl : x = 6 := by omega
    exact hK _ (fun h => absurd h (by omega)) (fun _ => rfl) (fun h => absurd h (by omega))
  · obtain rfl : x = 7 := by omega
    exact hK _ (fun h => absurd h (by omega)) (fun _ => rfl) (fun h => absurd h (by omega))
  · obtain rfl : x = 8 := by omega
    exact hK _ (fun h => absurd h (by omega)) (fun h => absurd h (by omega)) (fun _ => rfl)
  · obtain rfl : x = 9 := by omega
    exact hK _ (fun h => absurd h (by omega)) (fun h => absurd h (by omega)) (fun _ => rfl)
  · obtain rfl : x = 10 := by omega
    exact hK _ (fun h => absurd h (by omega)) (fun h => absurd h (by omega)) (fun _ => rfl)
theorem yM_TE {l : Launch} {Ts : List Cond} {cl : List vw_C} {RO : zRO} (H : zHyp Ts cl RO) : yMet l Ts cl zpZ RO zpMT yC_TE := ymet_of2 H.1 H.2.1 zpDj H.2.2.1 yRb H.p3 ymets_nil (zrc1 rfl) (plainFor_of_name zpy3) zpDk54 (fun as g K Y h hA hY => by
  obtain ⟨w, x, rfl, hp0, hK⟩ := h
  exact yv_TE hY (yAr1 hA (by simp)) hp0 hK)
def yP_COF : yPT := fun as g K => ∃ (w x : Int), as = [(3, 0), (1, w), (1, x)] ∧ (0 ≤ g 1 1 ∧ g 1 1 ≤ 40) ∧ (∀ (r : Int), (¬ (0 ≤ w ∧ w < g 1 1) → r = -1) → (0 ≤ w ∧ w < g 1 1 → x < 0 ∨ 10 < x → r = -1) → (0 ≤ w ∧ w < g 1 1 → 0 ≤ x ∧ x ≤ 7 → r = g (50 + Int.toNat w) (Int.toNat x)) → (0 ≤ w ∧ w < g 1 1 → 8 ≤ x ∧ x ≤ 10 → r = g (50 + Int.toNat w) (Int.toNat x + 1)) → K [(1, r)] g)
def yC_COF : yC := (23, (3, 82), yP_COF)
set_option maxRecDepth 8000 in
theorem yv_COF {K : List yV → yM → Prop} {Y : yNx} {g : yM} {w x : Int} (hY : yCl zpD23 (zpZ, zpRS, zpP0, zpMT, [yC_HC, yC_TE], (3, 82), 1) K Y) (hr_w : -2147483648 ≤ w ∧ w ≤ 2147483647) (hr_x : -2147483648 ≤ x ∧ x ≤ 2147483647) (hp0 : 0 ≤ g 1 1 ∧ g 1 1 ≤ 40) (hK : ∀ (r : Int), (¬ (0 ≤ w ∧ w < g 1 1) → r = -1) → (0 ≤ w ∧ w < g 1 1 → x < 0 ∨ 10 < x → r = -1) → (0 ≤ w ∧ w < g 1 1 → 0 ≤ x ∧ x ≤ 7 → r = g (50 + Int.toNat w) (Int.toNat x)) → (0 ≤ w ∧ w < g 1 1 → 8 ≤ x ∧ x ≤ 10 → r = g (50 + Int.toNat w) (Int.toNat x + 1)) → K [(1, r)] g) : Y 0 [(3, 0), (1, w), (1, x)] [] g := by
  refine yrun_ok (sp := fun pc => false) hY 14 0 _ [] g ?_
  show (∃ (w1 : Int), [(3, 1), (1, w)] = [(3, 1), (1, w1)] ∧ (∀ (r2 : Int), ((r2 = 1 ∧ 0 ≤ w1 ∧ w1 < g 1 1) ∨ (r2 = 0 ∧ (w1 < 0 ∨ g 1 1 ≤ w1))) → ((r2 = 0 → (K [(1, (-1))] g)) ∧ (¬ (r2 = 0) → (((0 : Int) ≤ w ∧ w < ((40 : Nat) : Int)) ∧ (∃ (w5 x6 : Int), [(141, w), (1, x)] = [(141, w5), (1, x6)] ∧ (0 ≤ w5 ∧ w5 < 40) ∧ (∀ (r7 : Int), (x6 < 0 ∨ 10 < x6 → r7 = -1) → (0 ≤ x6 ∧ x6 ≤ 7 → r7 = g (50 + Int.toNat w5) (Int.toNat x6)) → (8 ≤ x6 ∧ x6 ≤ 10 → r7 = g (50 + Int.toNat w5) (Int.toNat x6 + 1)) → (K [(1, r7)] g))))))))
  refine ⟨_, rfl, ?_⟩
  intro r2 p30
  refine ⟨fun h4 => ?_, fun h4 => ?_⟩
  · exact hK _ (fun _ => rfl) (fun h => absurd h (by omega)) (fun h => absurd h (by omega)) (fun h => absurd h (by omega))
  · refine ⟨(by omega), ?_⟩
    refine ⟨_, _, rfl, (by omega), ?_⟩
    intro r7 p80 p81 p82
    exact hK _ (fun h => absurd (by omega) h) (fun _ => p80) (fun _ => p81) (fun _ => p82)
theorem yM_COF {l : Launch} {Ts : List Cond} {cl : List vw_C} {RO : zRO} (H : zHyp Ts cl RO) : yMet l Ts cl zpZ RO zpMT yC_COF := ymet_of2 H.1 H.2.1 zpDj H.2.2.1 yRb H.p0 (ymets_cons (yM_HC H) (ymets_cons (yM_TE H) ymets_nil)) (zrc1 rfl) (plainFor_of_name zpy0) zpDk23 (fun as g K Y h hA hY => by
  obtain ⟨w, x, rfl, hp0, hK⟩ := h
  exact yv_COF hY (yAr1 hA (by simp)) (yAr1 hA (by simp)) hp0 hK)
def yP_MOF : yPT := fun as g K => ∃ (w x : Int), as = [(3, 90), (1, w), (1, x)] ∧ (0 ≤ g 90 22 ∧ g 90 22 ≤ 40) ∧ (0 ≤ g 90 6 ∧ g 90 6 ≤ 12) ∧ (∀ n : Nat, (n : Int) < g 90 22 → (0 ≤ g 104 n ∧ g 104 n ≤ 5) ∧ g 102 n ≤ 719) ∧ (∀ (r : Int), (¬ (0 ≤ w ∧ w < g 90 22) → r = -1) → (0 ≤ w ∧ w < g 90 22 → x < 0 ∨ 10 < x → r = -1) → (0 ≤ w ∧ w < g 90 22 → x = 0 → r = g 101 (Int.toNat w)) → (0 ≤ w ∧ w < g 90 22 → x = 1 → r = g 91 (Int.toNat w)) → (0 ≤ w ∧ w < g 90 22 → x = 2 → r = g 102 (Int.toNat w)) → (0 ≤ w ∧ w < g 90 22 → x = 3 → r = g 103 (Int.toNat w)) → (0 ≤ w ∧ w < g 90 22 → x = 4 → r = g 104 (Int.toNat w)) → (0 ≤ w ∧ w < g 90 22 → x = 5 → r = g 105 (Int.toNat w)) → (0 ≤ w ∧ w < g 90 22 → x = 6 → r = g 106 (Int.toNat w)) → (0 ≤ w ∧ w < g 90 22 → x = 7 → r = g 107 (Int.toNat w)) → (0 ≤ w ∧ w < g 90 22 → x = 8 → r = yMg g (Int.toNat w) (Int.toNat (g 90 22))) → (0 ≤ w ∧ w < g 90 22 → x = 9 → r = yMf g (Int.toNat w)) → (0 ≤ w ∧ w < g 90 22 → x = 10 → r = if yMf g (Int.toNat w) = -2 then -2 else yMl g (Int.toNat w)) → K [(1, r)] g)
def yC_MOF : yC := (182, (4, 113), yP_MOF)
set_option maxRecDepth 8000 in
theorem yv_MOF {K : List yV → yM → Prop} {Y : yNx} {g : yM} {w x : Int} (hY : yCl zpD182 (zpZ, zpRS, zpP12, zpMT, [yC_ICX, yC_AHO, yC_ELO, yC_LTO], (4, 113), 1) K Y) (hr_w : -2147483648 ≤ w ∧ w ≤ 2147483647) (hr_x : -2147483648 ≤ x ∧ x ≤ 2147483647) (hp0 : 0 ≤ g 90 22 ∧ g 90 22 ≤ 40) (hp1 : 0 ≤ g 90 6 ∧ g 90 6 ≤ 12) (hp2 : ∀ n : Nat, (n : Int) < g 90 22 → (0 ≤ g 104 n ∧ g 104 n ≤ 5) ∧ g 102 n ≤ 719) (hK : ∀ (r : Int), (¬ (0 ≤ w ∧ w < g 90 22) → r = -1) → (0 ≤ w ∧ w < g 90 22 → x < 0 ∨ 10 < x → r = -1) → (0 ≤ w ∧ w < g 90 22 → x = 0 → r = g 101 (Int.toNat w)) → (0 ≤ w ∧ w < g 90 22 → x = 1 → r = g 91 (Int.toNat w)) → (0 ≤ w ∧ w < g 90 22 → x = 2 → r = g 102 (Int.toNat w)) → (0 ≤ w ∧ w < g 90 22 → x = 3 → r = g 103 (Int.toNat w)) → (0 ≤ w ∧ w < g 90 22 → x = 4 → r = g 104 (Int.toNat w)) → (0 ≤ w ∧ w < g 90 22 → x = 5 → r = g 105 (Int.toNat w)) → (0 ≤ w ∧ w < g 90 22 → x = 6 → r = g 106 (Int.toNat w)) → (0 ≤ w ∧ w < g 90 22 → x = 7 → r = g 107 (Int.toNat w)) → (0 ≤ w ∧ w < g 90 22 → x = 8 → r = yMg g (Int.toNat w) (Int.toNat (g 90 22))) → (0 ≤ w ∧ w < g 90 22 → x = 9 → r = yMf g (Int.toNat w)) → (0 ≤ w ∧ w < g 90 22 → x = 10 → r = if yMf g (Int.toNat w) = -2 then -2 else yMl g (Int.toNat w)) → K [(1, r)] g) : Y 0 [(3, 90), (1, w), (1, x)] [] g := by
  refine yrun_ok (sp := fun pc => false) hY 15 0 _ [] g ?_
  show (∃ (w1 : Int), [(3, 90), (1, w)] = [(3, 90), (1, w1)] ∧ (0 ≤ g 90 22 ∧ g 90 22 ≤ 40) ∧ (∀ (r2 : Int), ((r2 = 1 ∧ 0 ≤ w1 ∧ w1 < g 90 22) ∨ (r2 = 0 ∧ (w1 < 0 ∨ g 90 22 ≤ w1))) → ((r2 ≠ 0 → (((11 : Nat) : Int) = (10 : Int) - 0 + 1 ∧ (x < 0 ∨ 10 < x → (K [(1, (-1))] g)) ∧ (x = 0 → (((0 : Int) ≤ w ∧ w < ((40 : Nat) : Int)) ∧ (K [(1, (g 101 (Int.toNat w)))] g))) ∧ (x = 0 + 1 → (((0 : Int) ≤ w ∧ w < ((53 : Nat) : Int)) ∧ (K [(1, (g 91 (Int.toNat w)))] g))) ∧ (x = 0 + 1 + 1 → (((0 : Int) ≤ w ∧ w < ((40 : Nat) : Int)) ∧ (K [(1, (g 102 (Int.toNat w)))] g))) ∧ (x = 0 + 1 + 1 + 1 → (((0 : Int) ≤ w ∧ w < ((40 : Nat) : Int)) ∧ (K [(1, (g 103 (Int.toNat w)))] g))) ∧ (x = 0 + 1 + 1 + 1 + 1 → (((0 : Int) ≤ w ∧ w < ((40 : Nat) : Int)) ∧ (K [(1, (g 104 (Int.toNat w)))] g))) ∧ (x = 0 + 1 + 1 + 1 + 1 + 1 → (((0 : Int) ≤ w ∧ w < ((40 : Nat) : Int)) ∧ (K [(1, (g 105 (Int.toNat w)))] g))) ∧ (x = 0 + 1 + 1 + 1 + 1 + 1 + 1 → (((0 : Int) ≤ w ∧ w < ((40 : Nat) : Int)) ∧ (K [(1, (g 106 (Int.toNat w)))] g))) ∧ (x = 0 + 1 + 1 + 1 + 1 + 1 + 1 + 1 → (((0 : Int) ≤ w ∧ w < ((40 : Nat) : Int)) ∧ (K [(1, (g 107 (Int.toNat w)))] g))) ∧ (x = 0 + 1 + 1 + 1 + 1 + 1 + 1 + 1 + 1 → (∃ (w6 : Int), [(3, 90), (1, w)] = [(3, 90), (1, w6)] ∧ (0 ≤ w6 ∧ w6 < 40) ∧ (0 ≤ g 90 22 ∧ g 90 22 ≤ 40) ∧ (∀ (r7 : Int), (r7 = yMg g (Int.toNat w6) (Int.toNat (g 90 22))) → (K [(1, r7)] g)))) ∧ (x = 0 + 1 + 1 + 1 + 1 + 1 + 1 + 1 + 1 + 1 → (∃ (w9 : Int), [(3, 90), (1, w)] = [(3, 90), (1, w9)] ∧ (0 ≤ w9 ∧ w9 < 40) ∧ (0 ≤ g 90 22 ∧ g 90 22 ≤ 40) ∧ (0 ≤ g 90 6 ∧ g 90 6 ≤ 12) ∧ (0 ≤ g 104 (Int.toNat w9) ∧ g 104 (Int.toNat w9) ≤ 5) ∧ (g 102 (Int.toNat w9) ≤ 719) ∧ (∀ (r10 : Int), (r10 = yMf g (Int.toNat w9)) → (K [(1, r10)] g)))) ∧ (x = 0 + 1 + 1 + 1 + 1 + 1 + 1 + 1 + 1 + 1 + 1 → (∃ (w12 : Int), [(3, 90), (1, w)] = [(3, 90), (1, w12)] ∧ (0 ≤ w12 ∧ w12 < 40) ∧ (0 ≤ g 90 22 ∧ g 90 22 ≤ 40) ∧ (0 ≤ g 90 6 ∧ g 90 6 ≤ 12) ∧ (0 ≤ g 104 (Int.toNat w12) ∧ g 104 (Int.toNat w12) ≤ 5) ∧ (g 102 (Int.toNat w12) ≤ 719) ∧ (∀ (r13 : Int), (r13 = yMf g (Int.toNat w12)) → ((r13 ≠ (-2) → (∃ (w16 : Int), [(3, 90), (1, w)] = [(3, 90), (1, w16)] ∧ (0 ≤ w16 ∧ w16 < 40) ∧ (0 ≤ g 104 (Int.toNat w16) ∧ g 104 (Int.toNat w16) ≤ 5) ∧ (∀ (r17 : Int), (r17 = yMl g (Int.toNat w16)) → (K [(1, r17)] g)))) ∧ (¬ (r13 ≠ (-2)) → (K [(1, (-2))] g)))))) ∧ True)) ∧ (¬ (r2 ≠ 0) → (K [(1, (-1))] g)))))
  refine ⟨_, rfl, (by omega), ?_⟩
  intro r2 p30
  refine ⟨fun h4 => ?_, fun h4 => ?_⟩
  · refine ⟨by decide, fun h5 => ?_, fun h5 => ?_, fun h5 => ?_, fun h5 => ?_, fun h5 => ?_, fun h5 => ?_, fun h5 => ?_, fun h5 => ?_, fun h5 => ?_, fun h5 => ?_, fun h5 => ?_, fun h5 => ?_, trivial⟩
    · exact hK _ (fun _ => rfl) (fun _ _ => rfl) (fun _ h => absurd h (by omega)) (fun _ h => absurd h (by omega)) (fun _ h => absurd h (by omega)) (fun _ h => absurd h (by omega)) (fun _ h => absurd h (by omega)) (fun _ h => absurd h (by omega)) (fun _ h => absurd h (by omega)) (fun _ h => absurd h (by omega)) (fun _ h => absurd h (by omega)) (fun _ h => absurd h (by omega)) (fun _ h => absurd h (by omega))
    · refine ⟨(by have hq := hp2 (Int.toNat w) (by omega); omega), ?_⟩
      obtain rfl : x = 0 := by omega
      exact hK _ (fun h => absurd (by omega) h) (fun _ h => absurd h (by omega)) (fun _ _ => rfl) (fun _ h => absurd h (by omega)) (fun _ h => absurd h (by omega)) (fun _ h => absurd h (by omega)) (fun _ h => absurd h (by omega)) (fun _ h => absurd h (by omega)) (fun _ h => absurd h (by omega)) (fun _ h => absurd h (by omega)) (fun _ h => absurd h (by omega)) (fun _ h => absurd h (by omega)) (fun _ h => absurd h (by omega))
    · refine ⟨(by have hq := hp2 (Int.toNat w) (by omega); omega), ?_⟩
      obtain rfl : x = 1 := by omega
      exact hK _ (fun h => absurd (by omega) h) (fun _ h => absurd h (by omega)) (fun _ h => absurd h (by omega)) (fun _ _ => rfl) (fun _ h => absurd h (by omega)) (fun _ h => absurd h (by omega)) (fun _ h => absurd h (by omega)) (fun _ h => absurd h (by omega)) (fun _ h => absurd h (by omega)) (fun _ h => absurd h (by omega)) (fun _ h => absurd h (by omega)) (fun _ h => absurd h (by omega)) (fun _ h => absurd h (by omega))
    · refine ⟨(by have hq := hp2 (Int.toNat w) (by omega); omega), ?_⟩
      obtain rfl : x = 2 := by omega
      exact hK _ (fun h => absurd (by omega) h) (fun _ h => absurd h (by omega)) (fun _ h => absurd h (by omega)) (fun _ h => absurd h (by omega)) (fun _ _ => rfl) (fun _ h => absurd h (by omega)) (fun _ h => absurd h (by omega)) (fun _ h => absurd h (by omega)) (fun _ h => absurd h (by omega)) (fun _ h => absurd h (by omega)) (fun _ h => absurd h (by omega)) (fun _ h => absurd h (by omega)) (fun _ h => absurd h (by omega))
    · refine ⟨(by have hq := hp2 (Int.toNat w) (by omega); omega), ?_⟩
      obtain rfl : x = 3 := by omega
      exact hK _ (fun h => absurd (by omega) h) (fun _ h => absurd h (by omega)) (fun _ h => absurd h (by omega)) (fun _ h => absurd h (by omega)) (fun _ h => absurd h (by omega)) (fun _ _ => rfl) (fun _ h => absurd h (by omega)) (fun _ h => absurd h (by omega)) (fun _ h => absurd h (by omega)) (fun _ h => absurd h (by omega)) (fun _ h => absurd h (by omega)) (fun _ h => absurd h (by omega)) (fun _ h => absurd h (by omega))
    · refine ⟨(by have hq := hp2 (Int.toNat w) (by omega); omega), ?_⟩
      obtain rfl : x = 4 := by omega
      exact hK _ (fun h => absurd (by omega) h) (fun _ h => absurd h (by omega)) (fun _ h => absurd h (by omega)) (fun _ h => absurd h (by omega)) (fun _ h => absurd h (by omega)) (fun _ h => absurd h (by omega)) (fun _ _ => rfl) (fun _ h => absurd h (by omega)) (fun _ h => absurd h (by omega)) (fun _ h => absurd h (by omega)) (fun _ h => absurd h (by omega)) (fun _ h => absurd h (by omega)) (fun _ h => absurd h (by omega))
    · refine ⟨(by have hq := hp2 (Int.toNat w) (by omega); omega), ?_⟩
      obtain rfl : x = 5 := by omega
      exact hK _ (fun h => absurd (by omega) h) (fun _ h => absurd h (by omega)) (fun _ h => absurd h (by omega)) (fun _ h => absurd h (by omega)) (fun _ h => absurd h (by omega)) (fun _ h => absurd h (by omega)) (fun _ h => absurd h (by omega)) (fun _ _ => rfl) (fun _ h => absurd h (by omega)) (fun _ h => absurd h (by omega)) (fun _ h => absurd h (by omega)) (fun _ h => absurd h (by omega)) (fun _ h => absurd h (by omega))
    · refine ⟨(by have hq := hp2 (Int.toNat w) (by omega); omega), ?_⟩
      obtain rfl : x = 6 := by omega
      exact hK _ (fun h => absurd (by omega) h) (fun _ h => absurd h (by omega)) (fun _ h => absurd h (by omega)) (fun _ h => absurd h (by omega)) (fun _ h => absurd h (by omega)) (fun _ h => absurd h (by omega)) (fun _ h => absurd h (by omega)) (fun _ h => absurd h (by omega)) (fun _ _ => rfl) (fun _ h => absurd h (by omega)) (fun _ h => absurd h (by omega)) (fun _ h => absurd h (by omega)) (fun _ h => absurd h (by omega))
    · refine ⟨(by have hq := hp2 (Int.toNat w) (by omega); omega), ?_⟩
      obtain rfl : x = 7 := by omega
      exact hK _ (fun h => absurd (by omega) h) (fun _ h => absurd h (by omega)) (fun _ h => absurd h (by omega)) (fun _ h => absurd h (by omega)) (fun _ h => absurd h (by omega)) (fun _ h => absurd h (by omega)) (fun _ h => absurd h (by omega)) (fun _ h => absurd h (by omega)) (fun _ h => absurd h (by omega)) (fun _ _ => rfl) (fun _ h => absurd h (by omega)) (fun _ h => absurd h (by omega)) (fun _ h => absurd h (by omega))
    · refine ⟨_, rfl, (by have hq := hp2 (Int.toNat w) (by omega); omega), (by have hq := hp2 (Int.toNat w) (by omega); omega), ?_⟩
      intro r7 p80
      obtain rfl : x = 8 := by omega
      exact hK _ (fun h => absurd (by omega) h) (fun _ h => absurd h (by omega)) (fun _ h => absurd h (by omega)) (fun _ h => absurd h (by omega)) (fun _ h => absurd h (by omega)) (fun _ h => absurd h (by omega)) (fun _ h => absurd h (by omega)) (fun _ h => absurd h (by omega)) (fun _ h => absurd h (by omega)) (fun _ h => absurd h (by omega)) (fun _ _ => p80) (fun _ h => absurd h (by omega)) (fun _ h => absurd h (by omega))
    · refine ⟨_, rfl, (by have hq := hp2 (Int.toNat w) (by omega); omega), (by have hq := hp2 (Int.toNat w) (by omega); omega), (by have hq := hp2 (Int.toNat w) (by omega); omega), (by have hq := hp2 (Int.toNat w) (by omega); omega), (by have hq := hp2 (Int.toNat w) (by omega); omega), ?_⟩
      intro r10 p110
      obtain rfl : x = 9 := by omega
      exact hK _ (fun h => absurd (by omega) h) (fun _ h => absurd h (by omega)) (fun _ h => absurd h (by omega)) (fun _ h => absurd h (by omega)) (fun _ h => absurd h (by omega)) (fun _ h => absurd h (by omega)) (fun _ h => absurd h (by omega)) (fun _ h => absurd h (by omega)) (fun _ h => absurd h (by omega)) (fun _ h => absurd h (by omega)) (fun _ h => absurd h (by omega)) (fun _ _ => p110) (fun _ h => absurd h (by omega))
    · refine ⟨_, rfl, (by have hq := hp2 (Int.toNat w) (by omega); omega), (by have hq := hp2 (Int.toNat w) (by omega); omega), (by have hq := hp2 (Int.toNat w) (by omega); omega), (by have hq := hp2 (Int.toNat w) (by omega); omega), (by have hq := hp2 (Int.toNat w) (by omega); omega), ?_⟩
      intro r13 p140
      refine ⟨fun h15 => ?_, fun h15 => ?_⟩
      · refine ⟨_, rfl, (by have hq := hp2 (Int.toNat w) (by omega); omega), (by have hq := hp2 (Int.toNat w) (by omega); omega), ?_⟩
        intro r17 p180
        obtain rfl : x = 10 := by omega
        exact hK _ (fun h => absurd (by omega) h) (fun _ h => absurd h (by omega)) (fun _ h => absurd h (by omega)) (fun _ h => absurd h (by omega)) (fun _ h => absurd h (by omega)) (fun _ h => absurd h (by omega)) (fun _ h => absurd h (by omega)) (fun _ h => absurd h (by omega)) (fun _ h => absurd h (by omega)) (fun _ h => absurd h (by omega)) (fun _ h => absurd h (by omega)) (fun _ h => absurd h (by omega)) (fun _ _ => by rw [if_neg (by omega)]; exact p180)
      · obtain rfl : x = 10 := by omega
        exact hK _ (fun h => absurd (by omega) h) (fun _ h => absurd h (by omega)) (fun _ h => absurd h (by omega)) (fun _ h => absurd h (by omega)) (fun _ h => absurd h (by omega)) (fun _ h => absurd h (by omega)) (fun _ h => absurd h (by omega)) (fun _ h => absurd h (by omega)) (fun _ h => absurd h (by omega)) (fun _ h => absurd h (by omega)) (fun _ h => absurd h (by omega)) (fun _ h => absurd h (by omega)) (fun _ _ => by rw [if_pos (by omega)])
  · exact hK _ (fun _ => rfl) (fun h => absurd h (by omega)) (fun h => absurd h (by omega)) (fun h => absurd h (by omega)) (fun h => absurd h (by omega)) (fun h => absurd h (by omega)) (fun h => absurd h (by omega)) (fun h => absurd h (by omega)) (fun h => absurd h (by omega)) (fun h => absurd h (by omega)) (fun h => absurd h (by omega)) (fun h => absurd h (by omega)) (fun h => absurd h (by omega))
theorem yM_MOF {l : Launch} {Ts : List Cond} {cl : List vw_C} {RO : zRO} (H : zHyp Ts cl RO) : yMet l Ts cl zpZ RO zpMT yC_MOF := ymet_of2 H.1 H.2.1 zpDj H.2.2.1 yRb H.p12 (ymets_cons (yM_ICX H) (ymets_cons (yM_AHO H) (ymets_cons (yM_ELO H) (ymets_cons (yM_LTO H) ymets_nil)))) (zrc1 rfl) (plainFor_of_name zpy12) zpDk182 (fun as g K Y h hA hY => by
  obtain ⟨w, x, rfl, hp0, hp1, hp2, hK⟩ := h
  exact yv_MOF hY (yAr1 hA (by simp)) (yAr1 hA (by simp)) hp0 hp1 hp2 hK)
