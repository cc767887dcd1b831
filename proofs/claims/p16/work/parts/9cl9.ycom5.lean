/-! A NUMBER READ: THE REFERENCE -/
def yP_NR : yPT := fun as g K => ∃ (d a b : Int), as = [(3, 90), (1, d), (1, a), (1, b)] ∧ (d = 1 ∨ d = 2 ∨ d = 3) ∧ (0 ≤ g 90 17 ∧ g 90 17 ≤ 60) ∧ (g 90 18 ≤ 60) ∧ (-1 ≤ g 90 19) ∧ (g 90 16 < 0) ∧ (∀ (r : Int) (g' : yM), (g' = yset (yset g 90 17 (yRn (ySm g) (Int.toNat d) a b (g 90 17) (g 90 19)).1) 90 19 (yRn (ySm g) (Int.toNat d) a b (g 90 17) (g 90 19)).2.1) → ((yRn (ySm g) (Int.toNat d) a b (g 90 17) (g 90 19)).2.1 = -1 → r = (yRn (ySm g) (Int.toNat d) a b (g 90 17) (g 90 19)).2.2) → (0 ≤ r ∧ r ≤ 999) → K [(1, r)] g')
def yC_NR : yC := (181, (2, 65), yP_NR)
set_option maxRecDepth 8000 in
theorem yl_NR0 {K : List yV → yM → Prop} {Y : yNx} {g : yM} {p v d a b q : Int} (hY : yCl zpD181 (zpZ, zpRS, zpP12, zpMT, [yC_BA, yC_WM, yC_WR], (2, 65), 1) K Y) (hp : 0 ≤ p ∧ p ≤ 60) (hn : g 90 18 ≤ 60) (hb : g 90 16 < 0) (hf : g 90 19 = -1) (hi : p + 0 = q + d ∧ 0 ≤ q ∧ q ≤ 60 ∧ 1 ≤ d ∧ d ≤ 3) (hv : 0 ≤ v ∧ v ≤ 999) (hK : Y 73 [(3, 90), (1, d), (1, a), (1, b), (1, q), (1, (yNm (ySm g) 0 p v).2)] [] (yset g 90 17 (yNm (ySm g) 0 p v).1)) : Y 9 [(3, 90), (1, d), (1, a), (1, b), (1, q), (1, v)] [] (yset g 90 17 p) := by
  refine yrun_ok (sp := fun pc => Nat.beq pc 9 || Nat.beq pc 73) hY 34 9 _ [] _ ?_
  show ((0 ≤ (g 90 19) → (Y 73 [(3, 90), (1, d), (1, a), (1, b), (1, q), (1, v)] [] (yset g 90 17 p))) ∧ (¬ (0 ≤ (g 90 19)) → (((yw (q + d)) ≤ p → (Y 73 [(3, 90), (1, d), (1, a), (1, b), (1, q), (1, v)] [] (yset g 90 17 p))) ∧ (¬ ((yw (q + d)) ≤ p) → ([(3, 90)] = [(3, 90)] ∧ (0 ≤ (yset g 90 17 p) 90 17) ∧ ((yset g 90 17 p) 90 18 ≤ 60) ∧ ((yset g 90 17 p) 90 16 < 0) ∧ (∀ (r3 : Int), (r3 = ySm (yset g 90 17 p) ((yset g 90 17 p) 90 17)) → ((r3 < 48 → (Y 73 [(3, 90), (1, d), (1, a), (1, b), (1, q), (1, v)] [] (yset g 90 17 p))) ∧ (¬ (r3 < 48) → ([(3, 90)] = [(3, 90)] ∧ (0 ≤ (yset g 90 17 p) 90 17) ∧ ((yset g 90 17 p) 90 18 ≤ 60) ∧ ((yset g 90 17 p) 90 16 < 0) ∧ (∀ (r6 : Int), (r6 = ySm (yset g 90 17 p) ((yset g 90 17 p) 90 17)) → ((57 < r6 → (Y 73 [(3, 90), (1, d), (1, a), (1, b), (1, q), (1, v)] [] (yset g 90 17 p))) ∧ (¬ (57 < r6) → ([(3, 90)] = [(3, 90)] ∧ (0 ≤ (yset g 90 17 p) 90 17) ∧ ((yset g 90 17 p) 90 18 ≤ 60) ∧ ((yset g 90 17 p) 90 16 < 0) ∧ (∀ (r9 : Int), (r9 = ySm (yset g 90 17 p) ((yset g 90 17 p) 90 17)) → (Y 9 [(3, 90), (1, d), (1, a), (1, b), (1, q), (1, (yw ((yw ((yw (10 * v)) + r9)) - 48)))] [] (yset (yset g 90 17 p) 90 17 (yw (p + 1))))))))))))))))))
  refine ⟨fun h1 => ?_, fun h1 => ?_⟩
  · have y0 := yw_s (q + d) (by omega) (by omega)
    have e0 : (yset g 90 17 p) 90 19 = -1 := (by rw [yset_ne (by decide)]; exact hf)
    have e1 : (yset g 90 17 p) 90 17 = p := yset_eq
    have e2 : (yset g 90 17 p) 90 18 = g 90 18 := yset_ne (by decide)
    have e9 : (yset g 90 17 p) 90 16 = g 90 16 := yset_ne (by decide)
    omega
  · refine ⟨fun h2 => ?_, fun h2 => ?_⟩
    · have y0 := yw_s (q + d) (by omega) (by omega)
      have e0 : (yset g 90 17 p) 90 19 = -1 := (by rw [yset_ne (by decide)]; exact hf)
      have e1 : (yset g 90 17 p) 90 17 = p := yset_eq
      have e2 : (yset g 90 17 p) 90 18 = g 90 18 := yset_ne (by decide)
      have e9 : (yset g 90 17 p) 90 16 = g 90 16 := yset_ne (by decide)
      first
        | omega
        | (have e4 := hK
           unfold yNm at e4
           exact e4)
    · refine ⟨rfl, (by have y0 := yw_s (q + d) (by omega) (by omega); have e0 : (yset g 90 17 p) 90 19 = -1 := (by rw [yset_ne (by decide)]; exact hf); have e1 : (yset g 90 17 p) 90 17 = p := yset_eq; have e2 : (yset g 90 17 p) 90 18 = g 90 18 := yset_ne (by decide); have e9 : (yset g 90 17 p) 90 16 = g 90 16 := yset_ne (by decide); omega), (by have y0 := yw_s (q + d) (by omega) (by omega); have e0 : (yset g 90 17 p) 90 19 = -1 := (by rw [yset_ne (by decide)]; exact hf); have e1 : (yset g 90 17 p) 90 17 = p := yset_eq; have e2 : (yset g 90 17 p) 90 18 = g 90 18 := yset_ne (by decide); have e9 : (yset g 90 17 p) 90 16 = g 90 16 := yset_ne (by decide); omega), (by have y0 := yw_s (q + d) (by omega) (by omega); have e0 : (yset g 90 17 p) 90 19 = -1 := (by rw [yset_ne (by decide)]; exact hf); have e1 : (yset g 90 17 p) 90 17 = p := yset_eq; have e2 : (yset g 90 17 p) 90 18 = g 90 18 := yset_ne (by decide); have e9 : (yset g 90 17 p) 90 16 = g 90 16 := yset_ne (by decide); omega), ?_⟩
      intro r3 p40
      refine ⟨fun h5 => ?_, fun h5 => ?_⟩
      · have y0 := yw_s (q + d) (by omega) (by omega)
        have e0 : (yset g 90 17 p) 90 19 = -1 := (by rw [yset_ne (by decide)]; exact hf)
        have e1 : (yset g 90 17 p) 90 17 = p := yset_eq
        have e2 : (yset g 90 17 p) 90 18 = g 90 18 := yset_ne (by decide)
        have e9 : (yset g 90 17 p) 90 16 = g 90 16 := yset_ne (by decide)
        omega
      · refine ⟨rfl, (by have y0 := yw_s (q + d) (by omega) (by omega); have e0 : (yset g 90 17 p) 90 19 = -1 := (by rw [yset_ne (by decide)]; exact hf); have e1 : (yset g 90 17 p) 90 17 = p := yset_eq; have e2 : (yset g 90 17 p) 90 18 = g 90 18 := yset_ne (by decide); have e9 : (yset g 90 17 p) 90 16 = g 90 16 := yset_ne (by decide); omega), (by have y0 := yw_s (q + d) (by omega) (by omega); have e0 : (yset g 90 17 p) 90 19 = -1 := (by rw [yset_ne (by decide)]; exact hf); have e1 : (yset g 90 17 p) 90 17 = p := yset_eq; have e2 : (yset g 90 17 p) 90 18 = g 90 18 := yset_ne (by decide); have e9 : (yset g 90 17 p) 90 16 = g 90 16 := yset_ne (by decide); omega), (by have y0 := yw_s (q + d) (by omega) (by omega); have e0 : (yset g 90 17 p) 90 19 = -1 := (by rw [yset_ne (by decide)]; exact hf); have e1 : (yset g 90 17 p) 90 17 = p := yset_eq; have e2 : (yset g 90 17 p) 90 18 = g 90 18 := yset_ne (by decide); have e9 : (yset g 90 17 p) 90 16 = g 90 16 := yset_ne (by decide); omega), ?_⟩
        intro r6 p70
        refine ⟨fun h8 => ?_, fun h8 => ?_⟩
        · have y0 := yw_s (q + d) (by omega) (by omega)
          have e0 : (yset g 90 17 p) 90 19 = -1 := (by rw [yset_ne (by decide)]; exact hf)
          have e1 : (yset g 90 17 p) 90 17 = p := yset_eq
          have e2 : (yset g 90 17 p) 90 18 = g 90 18 := yset_ne (by decide)
          have e9 : (yset g 90 17 p) 90 16 = g 90 16 := yset_ne (by decide)
          omega
        · refine ⟨rfl, (by have y0 := yw_s (q + d) (by omega) (by omega); have e0 : (yset g 90 17 p) 90 19 = -1 := (by rw [yset_ne (by decide)]; exact hf); have e1 : (yset g 90 17 p) 90 17 = p := yset_eq; have e2 : (yset g 90 17 p) 90 18 = g 90 18 := yset_ne (by decide); have e9 : (yset g 90 17 p) 90 16 = g 90 16 := yset_ne (by decide); omega), (by have y0 := yw_s (q + d) (by omega) (by omega); have e0 : (yset g 90 17 p) 90 19 = -1 := (by rw [yset_ne (by decide)]; exact hf); have e1 : (yset g 90 17 p) 90 17 = p := yset_eq; have e2 : (yset g 90 17 p) 90 18 = g 90 18 := yset_ne (by decide); have e9 : (yset g 90 17 p) 90 16 = g 90 16 := yset_ne (by decide); omega), (by have y0 := yw_s (q + d) (by omega) (by omega); have e0 : (yset g 90 17 p) 90 19 = -1 := (by rw [yset_ne (by decide)]; exact hf); have e1 : (yset g 90 17 p) 90 17 = p := yset_eq; have e2 : (yset g 90 17 p) 90 18 = g 90 18 := yset_ne (by decide); have e9 : (yset g 90 17 p) 90 16 = g 90 16 := yset_ne (by decide); omega), ?_⟩
          intro r9 p100
          have y0 := yw_s (q + d) (by omega) (by omega)
          have e0 : (yset g 90 17 p) 90 19 = -1 := (by rw [yset_ne (by decide)]; exact hf)
          have e1 : (yset g 90 17 p) 90 17 = p := yset_eq
          have e2 : (yset g 90 17 p) 90 18 = g 90 18 := yset_ne (by decide)
          have e9 : (yset g 90 17 p) 90 16 = g 90 16 := yset_ne (by decide)
          omega
set_option maxRecDepth 8000 in
theorem yl_NR1 {K : List yV → yM → Prop} {Y : yNx} {g : yM} {p v d a b q : Int} (hY : yCl zpD181 (zpZ, zpRS, zpP12, zpMT, [yC_BA, yC_WM, yC_WR], (2, 65), 1) K Y) (hp : 0 ≤ p ∧ p ≤ 60) (hn : g 90 18 ≤ 60) (hb : g 90 16 < 0) (hf : g 90 19 = -1) (hi : p + 1 = q + d ∧ 0 ≤ q ∧ q ≤ 60 ∧ 1 ≤ d ∧ d ≤ 3) (hv : 0 ≤ v ∧ v ≤ 99) (hK : Y 73 [(3, 90), (1, d), (1, a), (1, b), (1, q), (1, (yNm (ySm g) 1 p v).2)] [] (yset g 90 17 (yNm (ySm g) 1 p v).1)) : Y 9 [(3, 90), (1, d), (1, a), (1, b), (1, q), (1, v)] [] (yset g 90 17 p) := by
  refine yrun_ok (sp := fun pc => Nat.beq pc 9 || Nat.beq pc 73) hY 34 9 _ [] _ ?_
  show ((0 ≤ (g 90 19) → (Y 73 [(3, 90), (1, d), (1, a), (1, b), (1, q), (1, v)] [] (yset g 90 17 p))) ∧ (¬ (0 ≤ (g 90 19)) → (((yw (q + d)) ≤ p → (Y 73 [(3, 90), (1, d), (1, a), (1, b), (1, q), (1, v)] [] (yset g 90 17 p))) ∧ (¬ ((yw (q + d)) ≤ p) → ([(3, 90)] = [(3, 90)] ∧ (0 ≤ (yset g 90 17 p) 90 17) ∧ ((yset g 90 17 p) 90 18 ≤ 60) ∧ ((yset g 90 17 p) 90 16 < 0) ∧ (∀ (r3 : Int), (r3 = ySm (yset g 90 17 p) ((yset g 90 17 p) 90 17)) → ((r3 < 48 → (Y 73 [(3, 90), (1, d), (1, a), (1, b), (1, q), (1, v)] [] (yset g 90 17 p))) ∧ (¬ (r3 < 48) → ([(3, 90)] = [(3, 90)] ∧ (0 ≤ (yset g 90 17 p) 90 17) ∧ ((yset g 90 17 p) 90 18 ≤ 60) ∧ ((yset g 90 17 p) 90 16 < 0) ∧ (∀ (r6 : Int), (r6 = ySm (yset g 90 17 p) ((yset g 90 17 p) 90 17)) → ((57 < r6 → (Y 73 [(3, 90), (1, d), (1, a), (1, b), (1, q), (1, v)] [] (yset g 90 17 p))) ∧ (¬ (57 < r6) → ([(3, 90)] = [(3, 90)] ∧ (0 ≤ (yset g 90 17 p) 90 17) ∧ ((yset g 90 17 p) 90 18 ≤ 60) ∧ ((yset g 90 17 p) 90 16 < 0) ∧ (∀ (r9 : Int), (r9 = ySm (yset g 90 17 p) ((yset g 90 17 p) 90 17)) → (Y 9 [(3, 90), (1, d), (1, a), (1, b), (1, q), (1, (yw ((yw ((yw (10 * v)) + r9)) - 48)))] [] (yset (yset g 90 17 p) 90 17 (yw (p + 1))))))))))))))))))
  refine ⟨fun h1 => ?_, fun h1 => ?_⟩
  · have y0 := yw_s (q + d) (by omega) (by omega)
    have e0 : (yset g 90 17 p) 90 19 = -1 := (by rw [yset_ne (by decide)]; exact hf)
    have e1 : (yset g 90 17 p) 90 17 = p := yset_eq
    have e2 : (yset g 90 17 p) 90 18 = g 90 18 := yset_ne (by decide)
    have e9 : (yset g 90 17 p) 90 16 = g 90 16 := yset_ne (by decide)
    omega
  · refine ⟨fun h2 => ?_, fun h2 => ?_⟩
    · have y0 := yw_s (q + d) (by omega) (by omega)
      have e0 : (yset g 90 17 p) 90 19 = -1 := (by rw [yset_ne (by decide)]; exact hf)
      have e1 : (yset g 90 17 p) 90 17 = p := yset_eq
      have e2 : (yset g 90 17 p) 90 18 = g 90 18 := yset_ne (by decide)
      have e9 : (yset g 90 17 p) 90 16 = g 90 16 := yset_ne (by decide)
      omega
    · refine ⟨rfl, (by have y0 := yw_s (q + d) (by omega) (by omega); have e0 : (yset g 90 17 p) 90 19 = -1 := (by rw [yset_ne (by decide)]; exact hf); have e1 : (yset g 90 17 p) 90 17 = p := yset_eq; have e2 : (yset g 90 17 p) 90 18 = g 90 18 := yset_ne (by decide); have e9 : (yset g 90 17 p) 90 16 = g 90 16 := yset_ne (by decide); omega), (by have y0 := yw_s (q + d) (by omega) (by omega); have e0 : (yset g 90 17 p) 90 19 = -1 := (by rw [yset_ne (by decide)]; exact hf); have e1 : (yset g 90 17 p) 90 17 = p := yset_eq; have e2 : (yset g 90 17 p) 90 18 = g 90 18 := yset_ne (by decide); have e9 : (yset g 90 17 p) 90 16 = g 90 16 := yset_ne (by decide); omega), (by have y0 := yw_s (q + d) (by omega) (by omega); have e0 : (yset g 90 17 p) 90 19 = -1 := (by rw [yset_ne (by decide)]; exact hf); have e1 : (yset g 90 17 p) 90 17 = p := yset_eq; have e2 : (yset g 90 17 p) 90 18 = g 90 18 := yset_ne (by decide); have e9 : (yset g 90 17 p) 90 16 = g 90 16 := yset_ne (by decide); omega), ?_⟩
      intro r3 p40
      refine ⟨fun h5 => ?_, fun h5 => ?_⟩
      · have y0 := yw_s (q + d) (by omega) (by omega)
        have e0 : (yset g 90 17 p) 90 19 = -1 := (by rw [yset_ne (by decide)]; exact hf)
        have e1 : (yset g 90 17 p) 90 17 = p := yset_eq
        have e2 : (yset g 90 17 p) 90 18 = g 90 18 := yset_ne (by decide)
        have e9 : (yset g 90 17 p) 90 16 = g 90 16 := yset_ne (by decide)
        rw [e1, ySm_at] at p40
        have e4 := hK
        unfold yNm at e4
        rw [if_neg (by omega)] at e4
        exact e4
      · refine ⟨rfl, (by have y0 := yw_s (q + d) (by omega) (by omega); have e0 : (yset g 90 17 p) 90 19 = -1 := (by rw [yset_ne (by decide)]; exact hf); have e1 : (yset g 90 17 p) 90 17 = p := yset_eq; have e2 : (yset g 90 17 p) 90 18 = g 90 18 := yset_ne (by decide); have e9 : (yset g 90 17 p) 90 16 = g 90 16 := yset_ne (by decide); omega), (by have y0 := yw_s (q + d) (by omega) (by omega); have e0 : (yset g 90 17 p) 90 19 = -1 := (by rw [yset_ne (by decide)]; exact hf); have e1 : (yset g 90 17 p) 90 17 = p := yset_eq; have e2 : (yset g 90 17 p) 90 18 = g 90 18 := yset_ne (by decide); have e9 : (yset g 90 17 p) 90 16 = g 90 16 := yset_ne (by decide); omega), (by have y0 := yw_s (q + d) (by omega) (by omega); have e0 : (yset g 90 17 p) 90 19 = -1 := (by rw [yset_ne (by decide)]; exact hf); have e1 : (yset g 90 17 p) 90 17 = p := yset_eq; have e2 : (yset g 90 17 p) 90 18 = g 90 18 := yset_ne (by decide); have e9 : (yset g 90 17 p) 90 16 = g 90 16 := yset_ne (by decide); omega), ?_⟩
        intro r6 p70
        refine ⟨fun h8 => ?_, fun h8 => ?_⟩
        · have y0 := yw_s (q + d) (by omega) (by omega)
          have e0 : (yset g 90 17 p) 90 19 = -1 := (by rw [yset_ne (by decide)]; exact hf)
          have e1 : (yset g 90 17 p) 90 17 = p := yset_eq
          have e2 : (yset g 90 17 p) 90 18 = g 90 18 := yset_ne (by decide)
          have e9 : (yset g 90 17 p) 90 16 = g 90 16 := yset_ne (by decide)
          rw [e1, ySm_at] at p40
          rw [e1, ySm_at] at p70
          have e4 := hK
          unfold yNm at e4
          rw [if_neg (by omega)] at e4
          exact e4
        · refine ⟨rfl, (by have y0 := yw_s (q + d) (by omega) (by omega); have e0 : (yset g 90 17 p) 90 19 = -1 := (by rw [yset_ne (by decide)]; exact hf); have e1 : (yset g 90 17 p) 90 17 = p := yset_eq; have e2 : (yset g 90 17 p) 90 18 = g 90 18 := yset_ne (by decide); have e9 : (yset g 90 17 p) 90 16 = g 90 16 := yset_ne (by decide); omega), (by have y0 := yw_s (q + d) (by omega) (by omega); have e0 : (yset g 90 17 p) 90 19 = -1 := (by rw [yset_ne (by decide)]; exact hf); have e1 : (yset g 90 17 p) 90 17 = p := yset_eq; have e2 : (yset g 90 17 p) 90 18 = g 90 18 := yset_ne (by decide); have e9 : (yset g 90 17 p) 90 16 = g 90 16 := yset_ne (by decide); omega), (by have y0 := yw_s (q + d) (by omega) (by omega); have e0 : (yset g 90 17 p) 90 19 = -1 := (by rw [yset_ne (by decide)]; exact hf); have e1 : (yset g 90 17 p) 90 17 = p := yset_eq; have e2 : (yset g 90 17 p) 90 18 = g 90 18 := yset_ne (by decide); have e9 : (yset g 90 17 p) 90 16 = g 90 16 := yset_ne (by decide); omega), ?_⟩
          intro r9 p100
          have y0 := yw_s (q + d) (by omega) (by omega)
          have e0 : (yset g 90 17 p) 90 19 = -1 := (by rw [yset_ne (by decide)]; exact hf)
          have e1 : (yset g 90 17 p) 90 17 = p := yset_eq
          have e2 : (yset g 90 17 p) 90 18 = g 90 18 := yset_ne (by decide)
          have e9 : (yset g 90 17 p) 90 16 = g 90 16 := yset_ne (by decide)
          rw [e1, ySm_at] at p40
          rw [e1, ySm_at] at p70
          rw [e1, ySm_at] at p100
          have e6 : 48 ≤ ySm g p ∧ ySm g p ≤ 57 := by omega
          have e7 : p < 60 := by
            by_cases h : p < g 90 18
            · omega
            · have : ySm g p = 0 := by unfold ySm; rw [if_neg h]
              omega
          have e8 := hK
          unfold yNm at e8
          rw [if_pos e6] at e8
          have y1 := yw_s (10 * v)
          have y2 := yw_s (10 * v + ySm g p)
          have y3 := yw_s (10 * v + ySm g p - 48)
          have y4 := yw_s (p + 1)
          subst p40 p70 p100
          have e5 := yl_NR0 (p := p + 1) (v := v * 10 + ySm g p - 48) hY ⟨by omega, by omega⟩ hn hb hf ⟨by omega, by omega, by omega, by omega, by omega⟩ ⟨by omega, by omega⟩ e8
          have z1 : yw (10 * v) = 10 * v := by omega
          have z2 : yw (10 * v + ySm g p) = 10 * v + ySm g p := by omega
          have z3 : yw (10 * v + ySm g p - 48) = v * 10 + ySm g p - 48 := by omega
          have z4 : yw (p + 1) = p + 1 := by omega
          rw [z1, z2, z3, z4, yset_yset]
          exact e5
set_option maxRecDepth 8000 in
theorem yl_NR2 {K : List yV → yM → Prop} {Y : yNx} {g : yM} {p v d a b q : Int} (hY : yCl zpD181 (zpZ, zpRS, zpP12, zpMT, [yC_BA, yC_WM, yC_WR], (2, 65), 1) K Y) (hp : 0 ≤ p ∧ p ≤ 60) (hn : g 90 18 ≤ 60) (hb : g 90 16 < 0) (hf : g 90 19 = -1) (hi : p + 2 = q + d ∧ 0 ≤ q ∧ q ≤ 60 ∧ 1 ≤ d ∧ d ≤ 3) (hv : 0 ≤ v ∧ v ≤ 9) (hK : Y 73 [(3, 90), (1, d), (1, a), (1, b), (1, q), (1, (yNm (ySm g) 2 p v).2)] [] (yset g 90 17 (yNm (ySm g) 2 p v).1)) : Y 9 [(3, 90), (1, d), (1, a), (1, b), (1, q), (1, v)] [] (yset g 90 17 p) := by
  refine yrun_ok (sp := fun pc => Nat.beq pc 9 || Nat.beq pc 73) hY 34 9 _ [] _ ?_
  show ((0 ≤ (g 90 19) → (Y 73 [(3, 90), (1, d), (1, a), (1, b), (1, q), (1, v)] [] (yset g 90 17 p))) ∧ (¬ (0 ≤ (g 90 19)) → (((yw (q + d)) ≤ p → (Y 73 [(3, 90), (1, d), (1, a), (1, b), (1, q), (1, v)] [] (yset g 90 17 p))) ∧ (¬ ((yw (q + d)) ≤ p) → ([(3, 90)] = [(3, 90)] ∧ (0 ≤ (yset g 90 17 p) 90 17) ∧ ((yset g 90 17 p) 90 18 ≤ 60) ∧ ((yset g 90 17 p) 90 16 < 0) ∧ (∀ (r3 : Int), (r3 = ySm (yset g 90 17 p) ((yset g 90 17 p) 90 17)) → ((r3 < 48 → (Y 73 [(3, 90), (1, d), (1, a), (1, b), (1, q), (1, v)] [] (yset g 90 17 p))) ∧ (¬ (r3 < 48) → ([(3, 90)] = [(3, 90)] ∧ (0 ≤ (yset g 90 17 p) 90 17) ∧ ((yset g 90 17 p) 90 18 ≤ 60) ∧ ((yset g 90 17 p) 90 16 < 0) ∧ (∀ (r6 : Int), (r6 = ySm (yset g 90 17 p) ((yset g 90 17 p) 90 17)) → ((57 < r6 → (Y 73 [(3, 90), (1, d), (1, a), (1, b), (1, q), (1, v)] [] (yset g 90 17 p))) ∧ (¬ (57 < r6) → ([(3, 90)] = [(3, 90)] ∧ (0 ≤ (yset g 90 17 p) 90 17) ∧ ((yset g 90 17 p) 90 18 ≤ 60) ∧ ((yset g 90 17 p) 90 16 < 0) ∧ (∀ (r9 : Int), (r9 = ySm (yset g 90 17 p) ((yset g 90 17 p) 90 17)) → (Y 9 [(3, 90), (1, d), (1, a), (1, b), (1, q), (1, (yw ((yw ((yw (10 * v)) + r9)) - 48)))] [] (yset (yset g 90 17 p) 90 17 (yw (p + 1))))))))))))))))))
  refine ⟨fun h1 => ?_, fun h1 => ?_⟩
  · have y0 := yw_s (q + d) (by omega) (by omega)
    have e0 : (yset g 90 17 p) 90 19 = -1 := (by rw [yset_ne (by decide)]; exact hf)
    have e1 : (yset g 90 17 p) 90 17 = p := yset_eq
    have e2 : (yset g 90 17 p) 90 18 = g 90 18 := yset_ne (by decide)
    have e9 : (yset g 90 17 p) 90 16 = g 90 16 := yset_ne (by decide)
    omega
  · refine ⟨fun h2 => ?_, fun h2 => ?_⟩
    · have y0 := yw_s (q + d) (by omega) (by omega)
      have e0 : (yset g 90 17 p) 90 19 = -1 := (by rw [yset_ne (by decide)]; exact hf)
      have e1 : (yset g 90 17 p) 90 17 = p := yset_eq
      have e2 : (yset g 90 17 p) 90 18 = g 90 18 := yset_ne (by decide)
      have e9 : (yset g 90 17 p) 90 16 = g 90 16 := yset_ne (by decide)
      omega
    · refine ⟨rfl, (by have y0 := yw_s (q + d) (by omega) (by omega); have e0 : (yset g 90 17 p) 90 19 = -1 := (by rw [yset_ne (by decide)]; exact hf); have e1 : (yset g 90 17 p) 90 17 = p := yset_eq; have e2 : (yset g 90 17 p) 90 18 = g 90 18 := yset_ne (by decide); have e9 : (yset g 90 17 p) 90 16 = g 90 16 := yset_ne (by decide); omega), (by have y0 := yw_s (q + d) (by omega) (by omega); have e0 : (yset g 90 17 p) 90 19 = -1 := (by rw [yset_ne (by decide)]; exact hf); have e1 : (yset g 90 17 p) 90 17 = p := yset_eq; have e2 : (yset g 90 17 p) 90 18 = g 90 18 := yset_ne (by decide); have e9 : (yset g 90 17 p) 90 16 = g 90 16 := yset_ne (by decide); omega), (by have y0 := yw_s (q + d) (by omega) (by omega); have e0 : (yset g 90 17 p) 90 19 = -1 := (by rw [yset_ne (by decide)]; exact hf); have e1 : (yset g 90 17 p) 90 17 = p := yset_eq; have e2 : (yset g 90 17 p) 90 18 = g 90 18 := yset_ne (by decide); have e9 : (yset g 90 17 p) 90 16 = g 90 16 := yset_ne (by decide); omega), ?_⟩
      intro r3 p40
      refine ⟨fun h5 => ?_, fun h5 => ?_⟩
      · have y0 := yw_s (q + d) (by omega) (by omega)
        have e0 : (yset g 90 17 p) 90 19 = -1 := (by rw [yset_ne (by decide)]; exact hf)
        have e1 : (yset g 90 17 p) 90 17 = p := yset_eq
        have e2 : (yset g 90 17 p) 90 18 = g 90 18 := yset_ne (by decide)
        have e9 : (yset g 90 17 p) 90 16 = g 90 16 := yset_ne (by decide)
        rw [e1, ySm_at] at p40
        have e4 := hK
        unfold yNm at e4
        rw [if_neg (by omega)] at e4
        exact e4
      · refine ⟨rfl, (by have y0 := yw_s (q + d) (by omega) (by omega); have e0 : (yset g 90 17 p) 90 19 = -1 := (by rw [yset_ne (by decide)]; exact hf); have e1 : (yset g 90 17 p) 90 17 = p := yset_eq; have e2 : (yset g 90 17 p) 90 18 = g 90 18 := yset_ne (by decide); have e9 : (yset g 90 17 p) 90 16 = g 90 16 := yset_ne (by decide); omega), (by have y0 := yw_s (q + d) (by omega) (by omega); have e0 : (yset g 90 17 p) 90 19 = -1 := (by rw [yset_ne (by decide)]; exact hf); have e1 : (yset g 90 17 p) 90 17 = p := yset_eq; have e2 : (yset g 90 17 p) 90 18 = g 90 18 := yset_ne (by decide); have e9 : (yset g 90 17 p) 90 16 = g 90 16 := yset_ne (by decide); omega), (by have y0 := yw_s (q + d) (by omega) (by omega); have e0 : (yset g 90 17 p) 90 19 = -1 := (by rw [yset_ne (by decide)]; exact hf); have e1 : (yset g 90 17 p) 90 17 = p := yset_eq; have e2 : (yset g 90 17 p) 90 18 = g 90 18 := yset_ne (by decide); have e9 : (yset g 90 17 p) 90 16 = g 90 16 := yset_ne (by decide); omega), ?_⟩
        intro r6 p70
        refine ⟨fun h8 => ?_, fun h8 => ?_⟩
        · have y0 := yw_s (q + d) (by omega) (by omega)
          have e0 : (yset g 90 17 p) 90 19 = -1 := (by rw [yset_ne (by decide)]; exact hf)
          have e1 : (yset g 90 17 p) 90 17 = p := yset_eq
          have e2 : (yset g 90 17 p) 90 18 = g 90 18 := yset_ne (by decide)
          have e9 : (yset g 90 17 p) 90 16 = g 90 16 := yset_ne (by decide)
          rw [e1, ySm_at] at p40
          rw [e1, ySm_at] at p70
          have e4 := hK
          unfold yNm at e4
          rw [if_neg (by omega)] at e4
          exact e4
        · refine ⟨rfl, (by have y0 := yw_s (q + d) (by omega) (by omega); have e0 : (yset g 90 17 p) 90 19 = -1 := (by rw [yset_ne (by decide)]; exact hf); have e1 : (yset g 90 17 p) 90 17 = p := yset_eq; have e2 : (yset g 90 17 p) 90 18 = g 90 18 := yset_ne (by decide); have e9 : (yset g 90 17 p) 90 16 = g 90 16 := yset_ne (by decide); omega), (by have y0 := yw_s (q + d) (by omega) (by omega); have e0 : (yset g 90 17 p) 90 19 = -1 := (by rw [yset_ne (by decide)]; exact hf); have e1 : (yset g 90 17 p) 90 17 = p := yset_eq; have e2 : (yset g 90 17 p) 90 18 = g 90 18 := yset_ne (by decide); have e9 : (yset g 90 17 p) 90 16 = g 90 16 := yset_ne (by decide); omega), (by have y0 := yw_s (q + d) (by omega) (by omega); have e0 : (yset g 90 17 p) 90 19 = -1 := (by rw [yset_ne (by decide)]; exact hf); have e1 : (yset g 90 17 p) 90 17 = p := yset_eq; have e2 : (yset g 90 17 p) 90 18 = g 90 18 := yset_ne (by decide); have e9 : (yset g 90 17 p) 90 16 = g 90 16 := yset_ne (by decide); omega), ?_⟩
          intro r9 p100
          have y0 := yw_s (q + d) (by omega) (by omega)
          have e0 : (yset g 90 17 p) 90 19 = -1 := (by rw [yset_ne (by decide)]; exact hf)
          have e1 : (yset g 90 17 p) 90 17 = p := yset_eq
          have e2 : (yset g 90 17 p) 90 18 = g 90 18 := yset_ne (by decide)
          have e9 : (yset g 90 17 p) 90 16 = g 90 16 := yset_ne (by decide)
          rw [e1, ySm_at] at p40
          rw [e1, ySm_at] at p70
          rw [e1, ySm_at] at p100
          have e6 : 48 ≤ ySm g p ∧ ySm g p ≤ 57 := by omega
          have e7 : p < 60 := by
            by_cases h : p < g 90 18
            · omega
            · have : ySm g p = 0 := by unfold ySm; rw [if_neg h]
              omega
          have e8 := hK
          unfold yNm at e8
          rw [if_pos e6] at e8
          have y1 := yw_s (10 * v)
          have y2 := yw_s (10 * v + ySm g p)
          have y3 := yw_s (10 * v + ySm g p - 48)
          have y4 := yw_s (p + 1)
          subst p40 p70 p100
          have e5 := yl_NR1 (p := p + 1) (v := v * 10 + ySm g p - 48) hY ⟨by omega, by omega⟩ hn hb hf ⟨by omega, by omega, by omega, by omega, by omega⟩ ⟨by omega, by omega⟩ e8
          have z1 : yw (10 * v) = 10 * v := by omega
          have z2 : yw (10 * v + ySm g p) = 10 * v + ySm g p := by omega
          have z3 : yw (10 * v + ySm g p - 48) = v * 10 + ySm g p - 48 := by omega
          have z4 : yw (p + 1) = p + 1 := by omega
          rw [z1, z2, z3, z4, yset_yset]
          exact e5
set_option maxRecDepth 8000 in
theorem yl_NR3 {K : List yV → yM → Prop} {Y : yNx} {g : yM} {p v d a b q : Int} (hY : yCl zpD181 (zpZ, zpRS, zpP12, zpMT, [yC_BA, yC_WM, yC_WR], (2, 65), 1) K Y) (hp : 0 ≤ p ∧ p ≤ 60) (hn : g 90 18 ≤ 60) (hb : g 90 16 < 0) (hf : g 90 19 = -1) (hi : p + 3 = q + d ∧ 0 ≤ q ∧ q ≤ 60 ∧ 1 ≤ d ∧ d ≤ 3) (hv : 0 ≤ v ∧ v ≤ 0) (hK : Y 73 [(3, 90), (1, d), (1, a), (1, b), (1, q), (1, (yNm (ySm g) 3 p v).2)] [] (yset g 90 17 (yNm (ySm g) 3 p v).1)) : Y 9 [(3, 90), (1, d), (1, a), (1, b), (1, q), (1, v)] [] (yset g 90 17 p) := by
  refine yrun_ok (sp := fun pc => Nat.beq pc 9 || Nat.beq pc 73) hY 34 9 _ [] _ ?_
  show ((0 ≤ (g 90 19) → (Y 73 [(3, 90), (1, d), (1, a), (1, b), (1, q), (1, v)] [] (yset g 90 17 p))) ∧ (¬ (0 ≤ (g 90 19)) → (((yw (q + d)) ≤ p → (Y 73 [(3, 90), (1, d), (1, a), (1, b), (1, q), (1, v)] [] (yset g 90 17 p))) ∧ (¬ ((yw (q + d)) ≤ p) → ([(3, 90)] = [(3, 90)] ∧ (0 ≤ (yset g 90 17 p) 90 17) ∧ ((yset g 90 17 p) 90 18 ≤ 60) ∧ ((yset g 90 17 p) 90 16 < 0) ∧ (∀ (r3 : Int), (r3 = ySm (yset g 90 17 p) ((yset g 90 17 p) 90 17)) → ((r3 < 48 → (Y 73 [(3, 90), (1, d), (1, a), (1, b), (1, q), (1, v)] [] (yset g 90 17 p))) ∧ (¬ (r3 < 48) → ([(3, 90)] = [(3, 90)] ∧ (0 ≤ (yset g 90 17 p) 90 17) ∧ ((yset g 90 17 p) 90 18 ≤ 60) ∧ ((yset g 90 17 p) 90 16 < 0) ∧ (∀ (r6 : Int), (r6 = ySm (yset g 90 17 p) ((yset g 90 17 p) 90 17)) → ((57 < r6 → (Y 73 [(3, 90), (1, d), (1, a), (1, b), (1, q), (1, v)] [] (yset g 90 17 p))) ∧ (¬ (57 < r6) → ([(3, 90)] = [(3, 90)] ∧ (0 ≤ (yset g 90 17 p) 90 17) ∧ ((yset g 90 17 p) 90 18 ≤ 60) ∧ ((yset g 90 17 p) 90 16 < 0) ∧ (∀ (r9 : Int), (r9 = ySm (yset g 90 17 p) ((yset g 90 17 p) 90 17)) → (Y 9 [(3, 90), (1, d), (1, a), (1, b), (1, q), (1, (yw ((yw ((yw (10 * v)) + r9)) - 48)))] [] (yset (yset g 90 17 p) 90 17 (yw (p + 1))))))))))))))))))
  refine ⟨fun h1 => ?_, fun h1 => ?_⟩
  · have y0 := yw_s (q + d) (by omega) (by omega)
    have e0 : (yset g 90 17 p) 90 19 = -1 := (by rw [yset_ne (by decide)]; exact hf)
    have e1 : (yset g 90 17 p) 90 17 = p := yset_eq
    have e2 : (yset g 90 17 p) 90 18 = g 90 18 := yset_ne (by decide)
    have e9 : (yset g 90 17 p) 90 16 = g 90 16 := yset_ne (by decide)
    omega
  · refine ⟨fun h2 => ?_, fun h2 => ?_⟩
    · have y0 := yw_s (q + d) (by omega) (by omega)
      have e0 : (yset g 90 17 p) 90 19 = -1 := (by rw [yset_ne (by decide)]; exact hf)
      have e1 : (yset g 90 17 p) 90 17 = p := yset_eq
      have e2 : (yset g 90 17 p) 90 18 = g 90 18 := yset_ne (by decide)
      have e9 : (yset g 90 17 p) 90 16 = g 90 16 := yset_ne (by decide)
      omega
    · refine ⟨rfl, (by have y0 := yw_s (q + d) (by omega) (by omega); have e0 : (yset g 90 17 p) 90 19 = -1 := (by rw [yset_ne (by decide)]; exact hf); have e1 : (yset g 90 17 p) 90 17 = p := yset_eq; have e2 : (yset g 90 17 p) 90 18 = g 90 18 := yset_ne (by decide); have e9 : (yset g 90 17 p) 90 16 = g 90 16 := yset_ne (by decide); omega), (by have y0 := yw_s (q + d) (by omega) (by omega); have e0 : (yset g 90 17 p) 90 19 = -1 := (by rw [yset_ne (by decide)]; exact hf); have e1 : (yset g 90 17 p) 90 17 = p := yset_eq; have e2 : (yset g 90 17 p) 90 18 = g 90 18 := yset_ne (by decide); have e9 : (yset g 90 17 p) 90 16 = g 90 16 := yset_ne (by decide); omega), (by have y0 := yw_s (q + d) (by omega) (by omega); have e0 : (yset g 90 17 p) 90 19 = -1 := (by rw [yset_ne (by decide)]; exact hf); have e1 : (yset g 90 17 p) 90 17 = p := yset_eq; have e2 : (yset g 90 17 p) 90 18 = g 90 18 := yset_ne (by decide); have e9 : (yset g 90 17 p) 90 16 = g 90 16 := yset_ne (by decide); omega), ?_⟩
      intro r3 p40
      refine ⟨fun h5 => ?_, fun h5 => ?_⟩
      · have y0 := yw_s (q + d) (by omega) (by omega)
        have e0 : (yset g 90 17 p) 90 19 = -1 := (by rw [yset_ne (by decide)]; exact hf)
        have e1 : (yset g 90 17 p) 90 17 = p := yset_eq
        have e2 : (yset g 90 17 p) 90 18 = g 90 18 := yset_ne (by decide)
        have e9 : (yset g 90 17 p) 90 16 = g 90 16 := yset_ne (by decide)
        rw [e1, ySm_at] at p40
        have e4 := hK
        unfold yNm at e4
        rw [if_neg (by omega)] at e4
        exact e4
      · refine ⟨rfl, (by have y0 := yw_s (q + d) (by omega) (by omega); have e0 : (yset g 90 17 p) 90 19 = -1 := (by rw [yset_ne (by decide)]; exact hf); have e1 : (yset g 90 17 p) 90 17 = p := yset_eq; have e2 : (yset g 90 17 p) 90 18 = g 90 18 := yset_ne (by decide); have e9 : (yset g 90 17 p) 90 16 = g 90 16 := yset_ne (by decide); omega), (by have y0 := yw_s (q + d) (by omega) (by omega); have e0 : (yset g 90 17 p) 90 19 = -1 := (by rw [yset_ne (by decide)]; exact hf); have e1 : (yset g 90 17 p) 90 17 = p := yset_eq; have e2 : (yset g 90 17 p) 90 18 = g 90 18 := yset_ne (by decide); have e9 : (yset g 90 17 p) 90 16 = g 90 16 := yset_ne (by decide); omega), (by have y0 := yw_s (q + d) (by omega) (by omega); have e0 : (yset g 90 17 p) 90 19 = -1 := (by rw [yset_ne (by decide)]; exact hf); have e1 : (yset g 90 17 p) 90 17 = p := yset_eq; have e2 : (yset g 90 17 p) 90 18 = g 90 18 := yset_ne (by decide); have e9 : (yset g 90 17 p) 90 16 = g 90 16 := yset_ne (by decide); omega), ?_⟩
        intro r6 p70
        refine ⟨fun h8 => ?_, fun h8 => ?_⟩
        · have y0 := yw_s (q + d) (by omega) (by omega)
          have e0 : (yset g 90 17 p) 90 19 = -1 := (by rw [yset_ne (by decide)]; exact hf)
          have e1 : (yset g 90 17 p) 90 17 = p := yset_eq
          have e2 : (yset g 90 17 p) 90 18 = g 90 18 := yset_ne (by decide)
          have e9 : (yset g 90 17 p) 90 16 = g 90 16 := yset_ne (by decide)
          rw [e1, ySm_at] at p40
          rw [e1, ySm_at] at p70
          have e4 := hK
          unfold yNm at e4
          rw [if_neg (by omega)] at e4
          exact e4
        · refine ⟨rfl, (by have y0 := yw_s (q + d) (by omega) (by omega); have e0 : (yset g 90 17 p) 90 19 = -1 := (by rw [yset_ne (by decide)]; exact hf); have e1 : (yset g 90 17 p) 90 17 = p := yset_eq; have e2 : (yset g 90 17 p) 90 18 = g 90 18 := yset_ne (by decide); have e9 : (yset g 90 17 p) 90 16 = g 90 16 := yset_ne (by decide); omega), (by have y0 := yw_s (q + d) (by omega) (by omega); have e0 : (yset g 90 17 p) 90 19 = -1 := (by rw [yset_ne (by decide)]; exact hf); have e1 : (yset g 90 17 p) 90 17 = p := yset_eq; have e2 : (yset g 90 17 p) 90 18 = g 90 18 := yset_ne (by decide); have e9 : (yset g 90 17 p) 90 16 = g 90 16 := yset_ne (by decide); omega), (by have y0 := yw_s (q + d) (by omega) (by omega); have e0 : (yset g 90 17 p) 90 19 = -1 := (by rw [yset_ne (by decide)]; exact hf); have e1 : (yset g 90 17 p) 90 17 = p := yset_eq; have e2 : (yset g 90 17 p) 90 18 = g 90 18 := yset_ne (by decide); have e9 : (yset g 90 17 p) 90 16 = g 90 16 := yset_ne (by decide); omega), ?_⟩
          intro r9 p100
          have y0 := yw_s (q + d) (by omega) (by omega)
          have e0 : (yset g 90 17 p) 90 19 = -1 := (by rw [yset_ne (by decide)]; exact hf)
          have e1 : (yset g 90 17 p) 90 17 = p := yset_eq
          have e2 : (yset g 90 17 p) 90 18 = g 90 18 := yset_ne (by decide)
          have e9 : (yset g 90 17 p) 90 16 = g 90 16 := yset_ne (by decide)
          rw [e1, ySm_at] at p40
          rw [e1, ySm_at] at p70
          rw [e1, ySm_at] at p100
          have e6 : 48 ≤ ySm g p ∧ ySm g p ≤ 57 := by omega
          have e7 : p < 60 := by
            by_cases h : p < g 90 18
            · omega
            · have : ySm g p = 0 := by unfold ySm; rw [if_neg h]
              omega
          have e8 := hK
          unfold yNm at e8
          rw [if_pos e6] at e8
          have y1 := yw_s (10 * v)
          have y2 := yw_s (10 * v + ySm g p)
          have y3 := yw_s (10 * v + ySm g p - 48)
          have y4 := yw_s (p + 1)
          subst p40 p70 p100
          have e5 := yl_NR2 (p := p + 1) (v := v * 10 + ySm g p - 48) hY ⟨by omega, by omega⟩ hn hb hf ⟨by omega, by omega, by omega, by omega, by omega⟩ ⟨by omega, by omega⟩ e8
          have z1 : yw (10 * v) = 10 * v := by omega
          have z2 : yw (10 * v + ySm g p) = 10 * v + ySm g p := by omega
          have z3 : yw (10 * v + ySm g p - 48) = v * 10 + ySm g p - 48 := by omega
          have z4 : yw (p + 1) = p + 1 := by omega
          rw [z1, z2, z3, z4, yset_yset]
          exact e5
set_option maxRecDepth 8000 in
theorem yt_NR {K : List yV → yM → Prop} {Y : yNx} {m : yM} {d a b q v : Int} (hY : yCl zpD181 (zpZ, zpRS, zpP12, zpMT, [yC_BA, yC_WM, yC_WR], (2, 65), 1) K Y) (hq : 0 ≤ q ∧ q ≤ 60) (hat : q ≤ m 90 17 ∧ m 90 17 ≤ 60) (hf : -1 ≤ m 90 19) (hff : m 90 19 ≠ -1 → m 90 17 = q) (u1 : m 90 19 = -1 → m 90 17 ≠ q → a ≤ v → v ≤ b → K [(1, v)] m) (u2 : m 90 19 = -1 → (m 90 17 = q ∨ v < a ∨ b < v) → K [(1, 0)] (yset (yset m 90 17 q) 90 19 q)) (u3 : m 90 19 ≠ -1 → K [(1, 0)] m) : Y 73 [(3, 90), (1, d), (1, a), (1, b), (1, q), (1, v)] [] m := by
  refine yrun_ok (sp := fun pc => Nat.beq pc 9) hY 23 73 _ [] _ ?_
  show ((0 ≤ (m 90 19) → (((m 90 17) ≠ q → (K [(1, v)] m)) ∧ (¬ ((m 90 17) ≠ q) → ([(3, 90)] = [(3, 90)] ∧ (0 ≤ m 90 17 ∧ m 90 17 ≤ 60) ∧ (-1 ≤ m 90 19) ∧ (∀ (r3 : Int) (g4 : yM), (r3 = 0) → (m 90 19 = -1 → g4 = yset m 90 19 (m 90 17)) → (m 90 19 ≠ -1 → g4 = m) → (K [(1, r3)] g4)))))) ∧ (¬ (0 ≤ (m 90 19)) → (((m 90 17) ≤ q → (((m 90 17) ≠ q → (K [(1, v)] m)) ∧ (¬ ((m 90 17) ≠ q) → ([(3, 90)] = [(3, 90)] ∧ (0 ≤ m 90 17 ∧ m 90 17 ≤ 60) ∧ (-1 ≤ m 90 19) ∧ (∀ (r8 : Int) (g9 : yM), (r8 = 0) → (m 90 19 = -1 → g9 = yset m 90 19 (m 90 17)) → (m 90 19 ≠ -1 → g9 = m) → (K [(1, r8)] g9)))))) ∧ (¬ ((m 90 17) ≤ q) → (∃ (v11 a12 b13 : Int), [(2, v), (2, a), (2, b)] = [(2, v11), (2, a12), (2, b13)] ∧ (∀ (r14 : Int), ((r14 = 1 ∧ a12 ≤ v11 ∧ v11 ≤ b13) ∨ (r14 = 0 ∧ (v11 < a12 ∨ b13 < v11))) → ((r14 ≠ 0 → (((m 90 17) ≠ q → (K [(1, v)] m)) ∧ (¬ ((m 90 17) ≠ q) → ([(3, 90)] = [(3, 90)] ∧ (0 ≤ m 90 17 ∧ m 90 17 ≤ 60) ∧ (-1 ≤ m 90 19) ∧ (∀ (r18 : Int) (g19 : yM), (r18 = 0) → (m 90 19 = -1 → g19 = yset m 90 19 (m 90 17)) → (m 90 19 ≠ -1 → g19 = m) → (K [(1, r18)] g19)))))) ∧ (¬ (r14 ≠ 0) → ([(3, 90)] = [(3, 90)] ∧ (0 ≤ (yset m 90 17 q) 90 17 ∧ (yset m 90 17 q) 90 17 ≤ 60) ∧ (-1 ≤ (yset m 90 17 q) 90 19) ∧ (∀ (r21 : Int) (g22 : yM), (r21 = 0) → ((yset m 90 17 q) 90 19 = -1 → g22 = yset (yset m 90 17 q) 90 19 ((yset m 90 17 q) 90 17)) → ((yset m 90 17 q) 90 19 ≠ -1 → g22 = (yset m 90 17 q)) → (K [(1, r21)] g22)))))))))))
  refine ⟨fun h1 => ?_, fun h1 => ?_⟩
  · refine ⟨fun h2 => ?_, fun h2 => ?_⟩
    · first | exact u1 (by omega) (by omega) (by omega) (by omega) | omega
    · refine ⟨rfl, (by have e1 : (yset m 90 17 q) 90 17 = q := yset_eq; have e2 : (yset m 90 17 q) 90 19 = m 90 19 := yset_ne (by decide); omega), (by have e1 : (yset m 90 17 q) 90 17 = q := yset_eq; have e2 : (yset m 90 17 q) 90 19 = m 90 19 := yset_ne (by decide); omega), ?_⟩
      intro r3 g4 p50 p51 p52
      have e1 : (yset m 90 17 q) 90 17 = q := yset_eq
      have e2 : (yset m 90 17 q) 90 19 = m 90 19 := yset_ne (by decide)
      subst p50
      by_cases hx : m 90 19 = -1
      · have hq2 : m 90 17 = q := by omega
        have h9 := u2 hx (Or.inl hq2)
        rw [p51 hx, hq2]
        rw [← hq2, yset_id, hq2] at h9
        exact h9
      · rw [p52 hx]
        exact u3 hx
  · refine ⟨fun h6 => ?_, fun h6 => ?_⟩
    · refine ⟨fun h7 => ?_, fun h7 => ?_⟩
      · first | exact u1 (by omega) (by omega) (by omega) (by omega) | omega
      · refine ⟨rfl, (by have e1 : (yset m 90 17 q) 90 17 = q := yset_eq; have e2 : (yset m 90 17 q) 90 19 = m 90 19 := yset_ne (by decide); omega), (by have e1 : (yset m 90 17 q) 90 17 = q := yset_eq; have e2 : (yset m 90 17 q) 90 19 = m 90 19 := yset_ne (by decide); omega), ?_⟩
        intro r8 g9 p100 p101 p102
        have e1 : (yset m 90 17 q) 90 17 = q := yset_eq
        have e2 : (yset m 90 17 q) 90 19 = m 90 19 := yset_ne (by decide)
        subst p100
        by_cases hx : m 90 19 = -1
        · have hq2 : m 90 17 = q := by omega
          have h9 := u2 hx (Or.inl hq2)
          rw [p101 hx, hq2]
          rw [← hq2, yset_id, hq2] at h9
          exact h9
        · rw [p102 hx]
          exact u3 hx
    · refine ⟨_, _, _, rfl, ?_⟩
      intro r14 p150
      refine ⟨fun h16 => ?_, fun h16 => ?_⟩
      · refine ⟨fun h17 => ?_, fun h17 => ?_⟩
        · first | exact u1 (by omega) (by omega) (by omega) (by omega) | omega
        · refine ⟨rfl, (by have e1 : (yset m 90 17 q) 90 17 = q := yset_eq; have e2 : (yset m 90 17 q) 90 19 = m 90 19 := yset_ne (by decide); omega), (by have e1 : (yset m 90 17 q) 90 17 = q := yset_eq; have e2 : (yset m 90 17 q) 90 19 = m 90 19 := yset_ne (by decide); omega), ?_⟩
          intro r18 g19 p200 p201 p202
          have e1 : (yset m 90 17 q) 90 17 = q := yset_eq
          have e2 : (yset m 90 17 q) 90 19 = m 90 19 := yset_ne (by decide)
          subst p200
          by_cases hx : m 90 19 = -1
          · have hq2 : m 90 17 = q := by omega
            have h9 := u2 hx (Or.inl hq2)
            rw [p201 hx, hq2]
            rw [← hq2, yset_id, hq2] at h9
            exact h9
          · rw [p202 hx]
            exact u3 hx
      · refine ⟨rfl, (by have e1 : (yset m 90 17 q) 90 17 = q := yset_eq; have e2 : (yset m 90 17 q) 90 19 = m 90 19 := yset_ne (by decide); omega), (by have e1 : (yset m 90 17 q) 90 17 = q := yset_eq; have e2 : (yset m 90 17 q) 90 19 = m 90 19 := yset_ne (by decide); omega), ?_⟩
        intro r21 g22 p230 p231 p232
        have e1 : (yset m 90 17 q) 90 17 = q := yset_eq
        have e2 : (yset m 90 17 q) 90 19 = m 90 19 := yset_ne (by decide)
        subst p230
        rw [e1] at p231
        rw [p231 (by omega)]
        exact u2 (by omega) (by omega)
set_option maxRecDepth 8000 in
theorem yl_NRf {K : List yV → yM → Prop} {Y : yNx} {g : yM} {d a b : Int} (hY : yCl zpD181 (zpZ, zpRS, zpP12, zpMT, [yC_BA, yC_WM, yC_WR], (2, 65), 1) K Y) (hp : 0 ≤ g 90 17 ∧ g 90 17 ≤ 60) (hg : -1 ≤ g 90 19) (hf : g 90 19 ≠ -1) (hd : 1 ≤ d) (hK : Y 73 [(3, 90), (1, d), (1, a), (1, b), (1, (g 90 17)), (1, 0)] [] g) : Y 9 [(3, 90), (1, d), (1, a), (1, b), (1, (g 90 17)), (1, 0)] [] g := by
  refine yrun_ok (sp := fun pc => Nat.beq pc 9 || Nat.beq pc 73) hY 34 9 _ [] _ ?_
  show ((0 ≤ (g 90 19) → (Y 73 [(3, 90), (1, d), (1, a), (1, b), (1, (g 90 17)), (1, 0)] [] g)) ∧ (¬ (0 ≤ (g 90 19)) → (((yw ((g 90 17) + d)) ≤ (g 90 17) → (Y 73 [(3, 90), (1, d), (1, a), (1, b), (1, (g 90 17)), (1, 0)] [] g)) ∧ (¬ ((yw ((g 90 17) + d)) ≤ (g 90 17)) → ([(3, 90)] = [(3, 90)] ∧ (0 ≤ g 90 17) ∧ (g 90 18 ≤ 60) ∧ (g 90 16 < 0) ∧ (∀ (r3 : Int), (r3 = ySm g (g 90 17)) → ((r3 < 48 → (Y 73 [(3, 90), (1, d), (1, a), (1, b), (1, (g 90 17)), (1, 0)] [] g)) ∧ (¬ (r3 < 48) → ([(3, 90)] = [(3, 90)] ∧ (0 ≤ g 90 17) ∧ (g 90 18 ≤ 60) ∧ (g 90 16 < 0) ∧ (∀ (r6 : Int), (r6 = ySm g (g 90 17)) → ((57 < r6 → (Y 73 [(3, 90), (1, d), (1, a), (1, b), (1, (g 90 17)), (1, 0)] [] g)) ∧ (¬ (57 < r6) → ([(3, 90)] = [(3, 90)] ∧ (0 ≤ g 90 17) ∧ (g 90 18 ≤ 60) ∧ (g 90 16 < 0) ∧ (∀ (r9 : Int), (r9 = ySm g (g 90 17)) → (Y 9 [(3, 90), (1, d), (1, a), (1, b), (1, (g 90 17)), (1, (yw ((yw ((yw (10 * 0)) + r9)) - 48)))] [] (yset g 90 17 (yw ((g 90 17) + 1))))))))))))))))))
  refine ⟨fun h1 => ?_, fun h1 => ?_⟩
  · first | exact hK | omega
  · refine ⟨fun h2 => ?_, fun h2 => ?_⟩
    · omega
    · refine ⟨rfl, (by omega), (by omega), (by omega), ?_⟩
      intro r3 p40
      refine ⟨fun h5 => ?_, fun h5 => ?_⟩
      · omega
      · refine ⟨rfl, (by omega), (by omega), (by omega), ?_⟩
        intro r6 p70
        refine ⟨fun h8 => ?_, fun h8 => ?_⟩
        · omega
        · refine ⟨rfl, (by omega), (by omega), (by omega), ?_⟩
          intro r9 p100
          omega
set_option maxRecDepth 8000 in
theorem yv_NR {K : List yV → yM → Prop} {Y : yNx} {g : yM} {d a b : Int} (hY : yCl zpD181 (zpZ, zpRS, zpP12, zpMT, [yC_BA, yC_WM, yC_WR], (2, 65), 1) K Y) (hr_d : -2147483648 ≤ d ∧ d ≤ 2147483647) (hr_a : -2147483648 ≤ a ∧ a ≤ 2147483647) (hr_b : -2147483648 ≤ b ∧ b ≤ 2147483647) (hp0 : d = 1 ∨ d = 2 ∨ d = 3) (hp1 : 0 ≤ g 90 17 ∧ g 90 17 ≤ 60) (hp2 : g 90 18 ≤ 60) (hp3 : -1 ≤ g 90 19) (hp4 : g 90 16 < 0) (hK : ∀ (r : Int) (g' : yM), (g' = yset (yset g 90 17 (yRn (ySm g) (Int.toNat d) a b (g 90 17) (g 90 19)).1) 90 19 (yRn (ySm g) (Int.toNat d) a b (g 90 17) (g 90 19)).2.1) → ((yRn (ySm g) (Int.toNat d) a b (g 90 17) (g 90 19)).2.1 = -1 → r = (yRn (ySm g) (Int.toNat d) a b (g 90 17) (g 90 19)).2.2) → (0 ≤ r ∧ r ≤ 999) → K [(1, r)] g') : Y 0 [(3, 90), (1, d), (1, a), (1, b), (0, 0), (0, 0)] [] g := by
  refine yrun_ok (sp := fun pc => Nat.beq pc 9 || Nat.beq pc 73) hY 6 0 _ [] g ?_
  show (Y 9 [(3, 90), (1, d), (1, a), (1, b), (1, (g 90 17)), (1, 0)] [] g)
  by_cases hf : g 90 19 = -1
  · have hN := yNm_v (S := ySm g) (Int.toNat d) (g 90 17) 0 (by decide)
    have hB : yNB (Int.toNat d) 0 ≤ 999 := by rcases hp0 with rfl | rfl | rfl <;> decide
    have hsb : ySb (ySm g) := fun z hz => by
      unfold ySm
      rw [if_neg (by omega)]
      decide
    have hP := yNm_b hsb (Int.toNat d) (g 90 17) 0 hp1
    have key : Y 73 [(3, 90), (1, d), (1, a), (1, b), (1, g 90 17), (1, (yNm (ySm g) (Int.toNat d) (g 90 17) 0).2)] [] (yset g 90 17 (yNm (ySm g) (Int.toNat d) (g 90 17) 0).1) := by
      refine yt_NR hY hp1 (by rw [yset_eq]; exact hP) (by rw [yset_ne (by decide)]; omega) (fun h3 => absurd (by rw [yset_ne (by decide)]; exact hf) h3) (fun h2 h3 h4 h5 => ?_) (fun h2 h3 => ?_) (fun h3 => absurd (by rw [yset_ne (by decide)]; exact hf) h3)
      · rw [yset_eq] at h3
        have e : yRn (ySm g) (Int.toNat d) a b (g 90 17) (g 90 19) = ((yNm (ySm g) (Int.toNat d) (g 90 17) 0).1, -1, (yNm (ySm g) (Int.toNat d) (g 90 17) 0).2) := by
          unfold yRn
          rw [if_pos hf, if_neg (by omega)]
        refine hK _ _ ?_ ?_ ⟨hN.1, by omega⟩
        · rw [e]
          exact (by rw [← hf]; exact (yset_om g _ _ (by decide)).symm)
        · rw [e]
          exact fun _ => rfl
      · rw [yset_eq] at h3
        have e : yRn (ySm g) (Int.toNat d) a b (g 90 17) (g 90 19) = (g 90 17, g 90 17, 0) := by
          unfold yRn
          rw [if_pos hf, if_pos h3]
        rw [yset_yset]
        refine hK _ _ ?_ ?_ ⟨by decide, by decide⟩
        · rw [e]
        · rw [e]
          exact fun h => absurd h (by show g 90 17 ≠ -1; omega)
    have e0 : yset g 90 17 (g 90 17) = g := yset_id g 90 17
    rcases hp0 with rfl | rfl | rfl
    · have e := yl_NR1 (p := g 90 17) (v := 0) hY hp1 hp2 hp4 hf ⟨by omega, by omega, by omega, by omega, by omega⟩ ⟨by omega, by omega⟩ key
      rw [e0] at e
      exact e
    · have e := yl_NR2 (p := g 90 17) (v := 0) hY hp1 hp2 hp4 hf ⟨by omega, by omega, by omega, by omega, by omega⟩ ⟨by omega, by omega⟩ key
      rw [e0] at e
      exact e
    · have e := yl_NR3 (p := g 90 17) (v := 0) hY hp1 hp2 hp4 hf ⟨by omega, by omega, by omega, by omega, by omega⟩ ⟨by omega, by omega⟩ key
      rw [e0] at e
      exact e
  · have e : yRn (ySm g) (Int.toNat d) a b (g 90 17) (g 90 19) = (g 90 17, g 90 19, 0) := by
      unfold yRn
      rw [if_neg hf]
    refine yl_NRf hY hp1 hp3 hf (by omega) ?_
    refine yt_NR hY hp1 ⟨Int.le_refl _, hp1.2⟩ hp3 (fun _ => rfl) (fun h3 => absurd h3 hf) (fun h3 => absurd h3 hf) (fun h3 => ?_)
    refine hK _ _ ?_ ?_ ⟨by decide, by decide⟩
    · rw [e]
      exact (by rw [yset_id]; exact (yset_id g 90 19).symm)
    · rw [e]
      exact fun h => absurd h hf
theorem yM_NR {l : Launch} {Ts : List Cond} {cl : List vw_C} {RO : zRO} (H : zHyp Ts cl RO) : yMet l Ts cl zpZ RO zpMT yC_NR := ymet_of2 H.1 H.2.1 zpDj H.2.2.1 yRb H.p12 (ymets_cons (yM_BA H) (ymets_cons (yM_WM H) (ymets_cons (yM_WR H) ymets_nil))) (zrc1 rfl) (plainFor_of_name zpy12) zpDk181 (fun as g K Y h hA hY => by
  obtain ⟨d, a, b, rfl, hp0, hp1, hp2, hp3, hp4, hK⟩ := h
  exact yv_NR hY (yAr1 hA (by simp)) (yAr1 hA (by simp)) (yAr1 hA (by simp)) hp0 hp1 hp2 hp3 hp4 hK)
