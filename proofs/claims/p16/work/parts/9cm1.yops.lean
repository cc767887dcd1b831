/-! THE CASES OF THE LAW -/
set_option maxRecDepth 8000 in
theorem yo_0 {l : Launch} {Y : yNx} {i : Int} {sc : Nat → Int} {g : yM} (hC : ∀ CS : List yC, (∀ cn ∈ CS, yMet l zpTs zpcl zpZ zpRO zpMT cn) → yCl zpDL (zpZ, zpRS, zpPL, zpMT, CS, (2048, 84000), 9) (fun _ _ => False) Y) (hS : ∀ rs : List (Nat × Nat × Nat), (∀ q ∈ rs, zscr code q.1 = some q.2) → yClS rs (yL0 i) sc Y) (hJ : yKnv g) (hn : ∀ g' : yM, yKnv g' → Y 1484 (yL0 i) [] g') : Y 200 (yL0 i) [] g := by
  refine yrunL_ok (sp := fun pc => Nat.beq pc 1484) (hC [yC_CAW, yC_MAW] (ymets_cons (yM_CAW zpHyp) (ymets_cons (yM_MAW zpHyp) ymets_nil))) (hS [(201, 1, 206), (206, 2, 211), (216, 1, 221), (221, 2, 226)] (by decide +kernel)) 13 200 _ [] g ?_
  show ([(3, 3000), (3, 0), (3, 90), (1, i)] = yL0 i ∧ ([(3, 3000), (3, 0), (3, 90), (1, i)] = yL0 i ∧ (∃ (d1 v2 : Int), [(3, 0), (1, (sc 1)), (1, (sc 2))] = [(3, 0), (1, d1), (1, v2)] ∧ (yTy zpZ g) ∧ (0 ≤ g 1 7 ∧ g 1 7 ≤ 12) ∧ (∀ (r3 : Int) (g4 : yM), (¬ (0 ≤ d1 ∧ d1 < 4 ∧ 0 ≤ v2 ∧ 0 ≤ (yb (fun x y => x - x / y * y) v2 1000) ∧ (yb (fun x y => x - x / y * y) v2 1000) < 720 ∧ 0 ≤ (yb (fun x y => x / y) v2 1000) ∧ (yb (fun x y => x / y) v2 1000) ≤ (yb (fun x y => x - x / y * y) v2 1000)) → r3 = -1 ∧ g4 = g) → ((0 ≤ d1 ∧ d1 < 4 ∧ 0 ≤ v2 ∧ 0 ≤ (yb (fun x y => x - x / y * y) v2 1000) ∧ (yb (fun x y => x - x / y * y) v2 1000) < 720 ∧ 0 ≤ (yb (fun x y => x / y) v2 1000) ∧ (yb (fun x y => x / y) v2 1000) ≤ (yb (fun x y => x - x / y * y) v2 1000)) → g 1 7 = 12 → r3 = -3 ∧ g4 = g) → ((0 ≤ d1 ∧ d1 < 4 ∧ 0 ≤ v2 ∧ 0 ≤ (yb (fun x y => x - x / y * y) v2 1000) ∧ (yb (fun x y => x - x / y * y) v2 1000) < 720 ∧ 0 ≤ (yb (fun x y => x / y) v2 1000) ∧ (yb (fun x y => x / y) v2 1000) ≤ (yb (fun x y => x - x / y * y) v2 1000)) → g 1 7 < 12 → r3 = g 1 7 + 1 ∧ yTy zpZ g4 ∧ yWz (yaw 1 7 15 16 17 g d1 (yb (fun x y => x / y) v2 1000) (yb (fun x y => x - x / y * y) v2 1000)) g4) → ([(3, 3000), (3, 0), (3, 90), (1, i)] = yL0 i ∧ ([(3, 3000), (3, 0), (3, 90), (1, i)] = yL0 i ∧ (∃ (d6 v7 : Int), [(3, 90), (1, (sc 1)), (1, (sc 2))] = [(3, 90), (1, d6), (1, v7)] ∧ (yTy zpZ g4) ∧ (0 ≤ g4 90 6 ∧ g4 90 6 ≤ 12) ∧ (∀ (r8 : Int) (g9 : yM), (¬ (0 ≤ d6 ∧ d6 < 4 ∧ 0 ≤ v7 ∧ 0 ≤ (yb (fun x y => x - x / y * y) v7 1000) ∧ (yb (fun x y => x - x / y * y) v7 1000) < 720 ∧ 0 ≤ (yb (fun x y => x / y) v7 1000) ∧ (yb (fun x y => x / y) v7 1000) ≤ (yb (fun x y => x - x / y * y) v7 1000)) → r8 = -1 ∧ g9 = g4) → ((0 ≤ d6 ∧ d6 < 4 ∧ 0 ≤ v7 ∧ 0 ≤ (yb (fun x y => x - x / y * y) v7 1000) ∧ (yb (fun x y => x - x / y * y) v7 1000) < 720 ∧ 0 ≤ (yb (fun x y => x / y) v7 1000) ∧ (yb (fun x y => x / y) v7 1000) ≤ (yb (fun x y => x - x / y * y) v7 1000)) → g4 90 6 = 12 → r8 = -3 ∧ g9 = g4) → ((0 ≤ d6 ∧ d6 < 4 ∧ 0 ≤ v7 ∧ 0 ≤ (yb (fun x y => x - x / y * y) v7 1000) ∧ (yb (fun x y => x - x / y * y) v7 1000) < 720 ∧ 0 ≤ (yb (fun x y => x / y) v7 1000) ∧ (yb (fun x y => x / y) v7 1000) ≤ (yb (fun x y => x - x / y * y) v7 1000)) → g4 90 6 < 12 → r8 = g4 90 6 + 1 ∧ g9 = yaw 90 6 95 96 97 g4 d6 (yb (fun x y => x / y) v7 1000) (yb (fun x y => x - x / y * y) v7 1000)) → (Y 1484 [(3, 3000), (3, 0), (3, 90), (1, i)] [] g9)))))))))
  refine ⟨rfl, ?_⟩
  refine ⟨rfl, ?_⟩
  refine ⟨_, _, rfl, (yjc_AW0 hJ.1), (yjc_AW1 hJ.1), ?_⟩
  intro r3 g4 p50 p51 p52
  refine ⟨rfl, ?_⟩
  refine ⟨rfl, ?_⟩
  refine ⟨_, _, rfl, (yjm_AW0 hJ.1 p50 p51 p52), (yjm_AW1 hJ.1 p50 p51 p52), ?_⟩
  intro r8 g9 p100 p101 p102
  have al := yj_AW hJ.1 p50 p51 p52 p100 p101 p102
  exact hn _ ⟨al.1, yks_AW hJ al.1.1.1 p50 p51 p52 p100 p101 p102⟩
set_option maxRecDepth 8000 in
theorem yo_1 {l : Launch} {Y : yNx} {i : Int} {sc : Nat → Int} {g : yM} (hC : ∀ CS : List yC, (∀ cn ∈ CS, yMet l zpTs zpcl zpZ zpRO zpMT cn) → yCl zpDL (zpZ, zpRS, zpPL, zpMT, CS, (2048, 84000), 9) (fun _ _ => False) Y) (hS : ∀ rs : List (Nat × Nat × Nat), (∀ q ∈ rs, zscr code q.1 = some q.2) → yClS rs (yL0 i) sc Y) (hJ : yKnv g) (hn : ∀ g' : yM, yKnv g' → Y 1484 (yL0 i) [] g') : Y 233 (yL0 i) [] g := by
  refine yrunL_ok (sp := fun pc => Nat.beq pc 1484) (hC [yC_CMA, yC_MMA] (ymets_cons (yM_CMA zpHyp) (ymets_cons (yM_MMA zpHyp) ymets_nil))) (hS [(234, 1, 239), (239, 2, 244), (244, 3, 249), (254, 1, 259), (259, 2, 264), (264, 3, 269)] (by decide +kernel)) 15 233 _ [] g ?_
  show ([(3, 3000), (3, 0), (3, 90), (1, i)] = yL0 i ∧ ([(3, 3000), (3, 0), (3, 90), (1, i)] = yL0 i ∧ ([(3, 3000), (3, 0), (3, 90), (1, i)] = yL0 i ∧ (∃ (a1 b2 v3 : Int), [(3, 0), (1, (sc 1)), (1, (sc 2)), (1, (sc 3))] = [(3, 0), (1, a1), (1, b2), (1, v3)] ∧ (yTy zpZ g) ∧ (0 ≤ g 4 5 ∧ g 4 5 ≤ 40) ∧ (∀ (r4 : Int) (g5 : yM), (¬ (0 ≤ a1 ∧ a1 < 6 ∧ 0 ≤ b2 ∧ b2 ≤ 1 ∧ 1 ≤ v3 ∧ v3 ≤ 99 ∧ (b2 = 0 → v3 ≤ g 14 (Int.toNat a1)) ∧ (b2 = 1 → g 13 (Int.toNat a1) ≤ v3)) → r4 = -1 ∧ g5 = g) → ((0 ≤ a1 ∧ a1 < 6 ∧ 0 ≤ b2 ∧ b2 ≤ 1 ∧ 1 ≤ v3 ∧ v3 ≤ 99 ∧ (b2 = 0 → v3 ≤ g 14 (Int.toNat a1)) ∧ (b2 = 1 → g 13 (Int.toNat a1) ≤ v3)) → b2 = 0 → r4 = ykv g 1 a1 ∧ (r4 = v3 → g5 = g) ∧ (r4 ≠ v3 → yTy zpZ g5 ∧ yWz (ymk g 1 a1 v3) g5)) → ((0 ≤ a1 ∧ a1 < 6 ∧ 0 ≤ b2 ∧ b2 ≤ 1 ∧ 1 ≤ v3 ∧ v3 ≤ 99 ∧ (b2 = 0 → v3 ≤ g 14 (Int.toNat a1)) ∧ (b2 = 1 → g 13 (Int.toNat a1) ≤ v3)) → b2 = 1 → r4 = ykv g 2 a1 ∧ (r4 = v3 → g5 = g) ∧ (r4 ≠ v3 → yTy zpZ g5 ∧ yWz (ymk g 2 a1 v3) g5)) → ([(3, 3000), (3, 0), (3, 90), (1, i)] = yL0 i ∧ ([(3, 3000), (3, 0), (3, 90), (1, i)] = yL0 i ∧ ([(3, 3000), (3, 0), (3, 90), (1, i)] = yL0 i ∧ (∃ (a7 b8 v9 : Int), [(3, 90), (1, (sc 1)), (1, (sc 2)), (1, (sc 3))] = [(3, 90), (1, a7), (1, b8), (1, v9)] ∧ (0 ≤ g5 90 5 ∧ g5 90 5 ≤ 40) ∧ (∀ (r10 : Int) (g11 : yM), (¬ (0 ≤ a7 ∧ a7 < 6 ∧ 0 ≤ b8 ∧ b8 ≤ 1 ∧ 1 ≤ v9 ∧ v9 ≤ 99 ∧ (b8 = 0 → v9 ≤ g5 91 (Int.toNat (46 + a7))) ∧ (b8 = 1 → g5 91 (Int.toNat (40 + a7)) ≤ v9)) → r10 = -1 ∧ g11 = g5) → ((0 ≤ a7 ∧ a7 < 6 ∧ 0 ≤ b8 ∧ b8 ≤ 1 ∧ 1 ≤ v9 ∧ v9 ≤ 99 ∧ (b8 = 0 → v9 ≤ g5 91 (Int.toNat (46 + a7))) ∧ (b8 = 1 → g5 91 (Int.toNat (40 + a7)) ≤ v9)) → b8 = 0 → r10 = g5 91 (Int.toNat (40 + a7)) ∧ (g5 91 (Int.toNat (40 + a7)) = v9 → g11 = g5) ∧ (g5 91 (Int.toNat (40 + a7)) ≠ v9 → g11 = ybec g5 (40 + a7) v9)) → ((0 ≤ a7 ∧ a7 < 6 ∧ 0 ≤ b8 ∧ b8 ≤ 1 ∧ 1 ≤ v9 ∧ v9 ≤ 99 ∧ (b8 = 0 → v9 ≤ g5 91 (Int.toNat (46 + a7))) ∧ (b8 = 1 → g5 91 (Int.toNat (40 + a7)) ≤ v9)) → b8 = 1 → r10 = g5 91 (Int.toNat (46 + a7)) ∧ (g5 91 (Int.toNat (46 + a7)) = v9 → g11 = g5) ∧ (g5 91 (Int.toNat (46 + a7)) ≠ v9 → g11 = ybec g5 (46 + a7) v9)) → (Y 1484 [(3, 3000), (3, 0), (3, 90), (1, i)] [] g11)))))))))))
  refine ⟨rfl, ?_⟩
  refine ⟨rfl, ?_⟩
  refine ⟨rfl, ?_⟩
  refine ⟨_, _, _, rfl, (yjc_MA0 hJ.1), (yjc_MA1 hJ.1), ?_⟩
  intro r4 g5 p60 p61 p62
  refine ⟨rfl, ?_⟩
  refine ⟨rfl, ?_⟩
  refine ⟨rfl, ?_⟩
  refine ⟨_, _, _, rfl, (yjm_MA0 hJ.1 p60 p61 p62), ?_⟩
  intro r10 g11 p120 p121 p122
  have al := yj_MA hJ.1 p60 p61 p62 p120 p121 p122
  exact hn _ ⟨al.1, yks_MA hJ al.1.1.1 p60 p61 p62 p120 p121 p122⟩
set_option maxRecDepth 8000 in
theorem yo_2 {l : Launch} {Y : yNx} {i : Int} {sc : Nat → Int} {g : yM} (hC : ∀ CS : List yC, (∀ cn ∈ CS, yMet l zpTs zpcl zpZ zpRO zpMT cn) → yCl zpDL (zpZ, zpRS, zpPL, zpMT, CS, (2048, 84000), 9) (fun _ _ => False) Y) (hS : ∀ rs : List (Nat × Nat × Nat), (∀ q ∈ rs, zscr code q.1 = some q.2) → yClS rs (yL0 i) sc Y) (hJ : yKnv g) (hn : ∀ g' : yM, yKnv g' → Y 1484 (yL0 i) [] g') : Y 276 (yL0 i) [] g := by
  refine yrunL_ok (sp := fun pc => Nat.beq pc 1484) (hC [yC_CYA, yC_MYA] (ymets_cons (yM_CYA zpHyp) (ymets_cons (yM_MYA zpHyp) ymets_nil))) (hS [(277, 1, 282), (282, 2, 287), (292, 1, 297), (297, 2, 302)] (by decide +kernel)) 13 276 _ [] g ?_
  show ([(3, 3000), (3, 0), (3, 90), (1, i)] = yL0 i ∧ ([(3, 3000), (3, 0), (3, 90), (1, i)] = yL0 i ∧ (∃ (a1 v2 : Int), [(3, 0), (1, (sc 1)), (1, (sc 2))] = [(3, 0), (1, a1), (1, v2)] ∧ (yTy zpZ g) ∧ (0 ≤ g 4 5 ∧ g 4 5 ≤ 40) ∧ (0 ≤ g 1 10 ∧ g 1 10 ≤ 1) ∧ (∀ (r3 : Int) (g4 : yM), (¬ (0 ≤ a1 ∧ a1 ≤ 2 ∧ 0 ≤ v2 ∧ v2 ≤ 30 ∧ (a1 = 0 → v2 ≤ 3) ∧ (a1 = 2 → v2 ≤ 1)) → r3 = -1 ∧ g4 = g) → ((0 ≤ a1 ∧ a1 ≤ 2 ∧ 0 ≤ v2 ∧ v2 ≤ 30 ∧ (a1 = 0 → v2 ≤ 3) ∧ (a1 = 2 → v2 ≤ 1)) → a1 = 0 → r3 = g 1 8 ∧ g4 = yset g 1 8 v2) → ((0 ≤ a1 ∧ a1 ≤ 2 ∧ 0 ≤ v2 ∧ v2 ≤ 30 ∧ (a1 = 0 → v2 ≤ 3) ∧ (a1 = 2 → v2 ≤ 1)) → a1 = 2 → r3 = g 1 10 ∧ g4 = yset g 1 10 v2) → ((0 ≤ a1 ∧ a1 ≤ 2 ∧ 0 ≤ v2 ∧ v2 ≤ 30 ∧ (a1 = 0 → v2 ≤ 3) ∧ (a1 = 2 → v2 ≤ 1)) → a1 = 1 → r3 = ykv g 3 0 ∧ (r3 = v2 → g4 = g) ∧ (r3 ≠ v2 → yTy zpZ g4 ∧ yWz (ymk g 3 0 v2) g4)) → ([(3, 3000), (3, 0), (3, 90), (1, i)] = yL0 i ∧ ([(3, 3000), (3, 0), (3, 90), (1, i)] = yL0 i ∧ (∃ (a6 v7 : Int), [(3, 90), (1, (sc 1)), (1, (sc 2))] = [(3, 90), (1, a6), (1, v7)] ∧ (0 ≤ g4 90 5 ∧ g4 90 5 ≤ 40) ∧ (∀ (r8 : Int) (g9 : yM), (¬ (0 ≤ a6 ∧ a6 ≤ 2 ∧ 0 ≤ v7 ∧ v7 ≤ 30 ∧ (a6 = 0 → v7 ≤ 3) ∧ (a6 = 2 → v7 ≤ 1)) → r8 = -1 ∧ g9 = g4) → ((0 ≤ a6 ∧ a6 ≤ 2 ∧ 0 ≤ v7 ∧ v7 ≤ 30 ∧ (a6 = 0 → v7 ≤ 3) ∧ (a6 = 2 → v7 ≤ 1)) → a6 = 0 → r8 = g4 90 10 ∧ g9 = yset g4 90 10 v7) → ((0 ≤ a6 ∧ a6 ≤ 2 ∧ 0 ≤ v7 ∧ v7 ≤ 30 ∧ (a6 = 0 → v7 ≤ 3) ∧ (a6 = 2 → v7 ≤ 1)) → a6 = 2 → r8 = g4 90 11 ∧ g9 = yset g4 90 11 v7) → ((0 ≤ a6 ∧ a6 ≤ 2 ∧ 0 ≤ v7 ∧ v7 ≤ 30 ∧ (a6 = 0 → v7 ≤ 3) ∧ (a6 = 2 → v7 ≤ 1)) → a6 = 1 → r8 = g4 91 52 ∧ (g4 91 52 = v7 → g9 = g4) ∧ (g4 91 52 ≠ v7 → g9 = ybec g4 52 v7)) → (Y 1484 [(3, 3000), (3, 0), (3, 90), (1, i)] [] g9)))))))))
  refine ⟨rfl, ?_⟩
  refine ⟨rfl, ?_⟩
  refine ⟨_, _, rfl, (yjc_YA0 hJ.1), (yjc_YA1 hJ.1), (yjc_YA2 hJ.1), ?_⟩
  intro r3 g4 p50 p51 p52 p53
  refine ⟨rfl, ?_⟩
  refine ⟨rfl, ?_⟩
  refine ⟨_, _, rfl, (yjm_YA0 hJ.1 p50 p51 p52 p53), ?_⟩
  intro r8 g9 p100 p101 p102 p103
  have al := yj_YA hJ.1 p50 p51 p52 p53 p100 p101 p102 p103
  exact hn _ ⟨al.1, yks_YA hJ al.1.1.1 p50 p51 p52 p53 p100 p101 p102 p103⟩
set_option maxRecDepth 8000 in
theorem yo_3 {l : Launch} {Y : yNx} {i : Int} {sc : Nat → Int} {g : yM} (hC : ∀ CS : List yC, (∀ cn ∈ CS, yMet l zpTs zpcl zpZ zpRO zpMT cn) → yCl zpDL (zpZ, zpRS, zpPL, zpMT, CS, (2048, 84000), 9) (fun _ _ => False) Y) (hS : ∀ rs : List (Nat × Nat × Nat), (∀ q ∈ rs, zscr code q.1 = some q.2) → yClS rs (yL0 i) sc Y) (hJ : yKnv g) (hn : ∀ g' : yM, yKnv g' → Y 1484 (yL0 i) [] g') : Y 309 (yL0 i) [] g := by
  refine yrunL_ok (sp := fun pc => Nat.beq pc 1484) (hC [yC_CFE, yC_MFE] (ymets_cons (yM_CFE zpHyp) (ymets_cons (yM_MFE zpHyp) ymets_nil))) (hS [(310, 1, 315), (315, 2, 320), (325, 1, 330), (330, 2, 335)] (by decide +kernel)) 13 309 _ [] g ?_
  show ([(3, 3000), (3, 0), (3, 90), (1, i)] = yL0 i ∧ ([(3, 3000), (3, 0), (3, 90), (1, i)] = yL0 i ∧ (∃ (n1 v2 : Int), [(3, 0), (1, (sc 1)), (1, (sc 2))] = [(3, 0), (1, n1), (1, v2)] ∧ (0 ≤ g 2 2 ∧ g 2 2 ≤ 60) ∧ (∀ (r3 : Int) (g4 : yM), ((r3 = -1 ∧ ¬ (1 ≤ n1 ∧ n1 ≤ 4)) ∨ ((1 ≤ n1 ∧ n1 ≤ 4) ∧ ((r3 = -3 ∧ 60 < g 2 2 + n1) ∨ (r3 = g 2 2 + n1 ∧ g 2 2 + n1 ≤ 60)))) → (r3 < 0 → g4 = g) → (0 ≤ r3 → g4 = yfd 2 2 18 (ybc v2) (Int.toNat n1) g) → (-2147483648 ≤ v2 ∧ v2 ≤ 2147483647) → ([(3, 3000), (3, 0), (3, 90), (1, i)] = yL0 i ∧ ([(3, 3000), (3, 0), (3, 90), (1, i)] = yL0 i ∧ (∃ (n6 v7 : Int), [(3, 90), (1, (sc 1)), (1, (sc 2))] = [(3, 90), (1, n6), (1, v7)] ∧ (0 ≤ g4 90 13 ∧ g4 90 13 ≤ 60) ∧ (∀ (r8 : Int) (g9 : yM), ((r8 = -1 ∧ ¬ (1 ≤ n6 ∧ n6 ≤ 4)) ∨ ((1 ≤ n6 ∧ n6 ≤ 4) ∧ ((r8 = -3 ∧ 60 < g4 90 13 + n6) ∨ (r8 = g4 90 13 + n6 ∧ g4 90 13 + n6 ≤ 60)))) → (r8 < 0 → g9 = g4) → (0 ≤ r8 → g9 = yfd 90 13 98 (ybm v7) (Int.toNat n6) g4) → (-2147483648 ≤ v7 ∧ v7 ≤ 2147483647) → (Y 1484 [(3, 3000), (3, 0), (3, 90), (1, i)] [] g9)))))))))
  refine ⟨rfl, ?_⟩
  refine ⟨rfl, ?_⟩
  refine ⟨_, _, rfl, (yjc_FE0 hJ.1), ?_⟩
  intro r3 g4 p50 p51 p52 p53
  refine ⟨rfl, ?_⟩
  refine ⟨rfl, ?_⟩
  refine ⟨_, _, rfl, (yjm_FE0 hJ.1 p50 p51 p52 p53), ?_⟩
  intro r8 g9 p100 p101 p102 p103
  have al := yj_FE hJ.1 p50 p51 p52 p53 p100 p101 p102 p103
  exact hn _ ⟨al.1, yks_FE hJ al.1.1.1 p50 p51 p52 p53 p100 p101 p102 p103⟩
set_option maxRecDepth 8000 in
theorem yo_4 {l : Launch} {Y : yNx} {i : Int} {sc : Nat → Int} {g : yM} (hC : ∀ CS : List yC, (∀ cn ∈ CS, yMet l zpTs zpcl zpZ zpRO zpMT cn) → yCl zpDL (zpZ, zpRS, zpPL, zpMT, CS, (2048, 84000), 9) (fun _ _ => False) Y) (hS : ∀ rs : List (Nat × Nat × Nat), (∀ q ∈ rs, zscr code q.1 = some q.2) → yClS rs (yL0 i) sc Y) (hJ : yKnv g) (hn : ∀ g' : yM, yKnv g' → Y 1484 (yL0 i) [] g') : Y 342 (yL0 i) [] g := by
  refine yrunL_ok (sp := fun pc => Nat.beq pc 1484) (hC [yC_CCO, yC_MCO] (ymets_cons (yM_CCO zpHyp) (ymets_cons (yM_MCO zpHyp) ymets_nil))) (hS [] (by decide +kernel)) 9 342 _ [] g ?_
  show ([(3, 0)] = [(3, 0)] ∧ (yTy zpZ g) ∧ (∀ (r1 : Int) (g2 : yM), (g 1 1 = 40 → r1 = -3 ∧ g2 = g) → (g 1 1 < 40 → yPf (ySc g) (g 2 2) ≠ -1 → r1 = -100 - yPf (ySc g) (g 2 2) ∧ yTy zpZ g2 ∧ g2 2 2 = 0 ∧ (∀ a b : Nat, ¬ (a = 2 ∧ 1 ≤ b ∧ b ≤ 3) → ¬ (a = (50 + Int.toNat (g 1 1)) ∧ 1 ≤ b ∧ b ≤ 7) → g2 a b = g a b)) → (g 1 1 < 40 → yPf (ySc g) (g 2 2) = -1 → r1 = g 1 1 ∧ yTy zpZ g2 ∧ g2 2 2 = 0 ∧ g2 1 1 = g 1 1 + 1 ∧ (∀ j : Nat, 1 ≤ j → j ≤ 7 → g2 (50 + Int.toNat (g 1 1)) j = yPv (ySc g) j) ∧ g2 (50 + Int.toNat (g 1 1)) 0 = g 1 8 ∧ g2 (50 + Int.toNat (g 1 1)) 8 = -1 ∧ (∀ a b : Nat, ¬ (a = 2 ∧ 1 ≤ b ∧ b ≤ 3) → a ≠ (50 + Int.toNat (g 1 1)) → ¬ (a = 1 ∧ b = 1) → ¬ ((50 ≤ a ∧ a ≤ 89) ∧ (9 ≤ b ∧ b ≤ 11)) → g2 a b = g a b) ∧ yStl g2) → ([(3, 90)] = [(3, 90)] ∧ (yTy zpZ g2) ∧ (∀ (r4 : Int) (g5 : yM), (g2 90 22 = 40 → r4 = -3 ∧ g5 = g2) → (g2 90 22 ≠ 40 → yPf (yTm g2) (g2 90 13) ≠ -1 → r4 = -100 - yPf (yTm g2) (g2 90 13) ∧ yTy zpZ g5 ∧ g5 90 13 = 0 ∧ (∀ a b : Nat, ¬ (a = 90 ∧ (b = 13 ∨ (16 ≤ b ∧ b ≤ 19))) → a ≠ 109 → g5 a b = g2 a b)) → (g2 90 22 ≠ 40 → yPf (yTm g2) (g2 90 13) = -1 → r4 = g2 90 22 ∧ yTy zpZ g5 ∧ g5 90 13 = 0 ∧ g5 90 22 = g2 90 22 + 1 ∧ (g5 91 (Int.toNat (g2 90 22)) = yPv (yTm g2) 1 ∧ g5 102 (Int.toNat (g2 90 22)) = yPv (yTm g2) 2 ∧ g5 103 (Int.toNat (g2 90 22)) = yPv (yTm g2) 3 ∧ g5 104 (Int.toNat (g2 90 22)) = yPv (yTm g2) 4 ∧ g5 105 (Int.toNat (g2 90 22)) = yPv (yTm g2) 5 ∧ g5 106 (Int.toNat (g2 90 22)) = yPv (yTm g2) 6 ∧ g5 107 (Int.toNat (g2 90 22)) = yPv (yTm g2) 7) ∧ g5 101 (Int.toNat (g2 90 22)) = g2 90 10 ∧ g5 108 (Int.toNat (g2 90 22)) = -1 ∧ (∀ a b : Nat, ¬ (a = 90 ∧ (b = 13 ∨ (16 ≤ b ∧ b ≤ 19) ∨ b = 22)) → a ≠ 109 → ¬ ((a = 91 ∨ (101 ≤ a ∧ a ≤ 108)) ∧ b = (Int.toNat (g2 90 22))) → g5 a b = g2 a b)) → (Y 1484 [(3, 3000), (3, 0), (3, 90), (1, i)] [] g5)))))
  refine ⟨rfl, (yjc_CO0 hJ.1), ?_⟩
  intro r1 g2 p30 p31 p32
  refine ⟨rfl, (yjm_CO0 hJ.1 p30 p31 p32), ?_⟩
  intro r4 g5 p60 p61 p62
  have al := yj_CO hJ.1 p30 p31 p32 p60 p61 p62
  exact hn _ ⟨al.1, yks_CO hJ al.1.1.1 p30 p31 p32 p60 p61 p62⟩
set_option maxRecDepth 8000 in
theorem yo_5 {l : Launch} {Y : yNx} {i : Int} {sc : Nat → Int} {g : yM} (hC : ∀ CS : List yC, (∀ cn ∈ CS, yMet l zpTs zpcl zpZ zpRO zpMT cn) → yCl zpDL (zpZ, zpRS, zpPL, zpMT, CS, (2048, 84000), 9) (fun _ _ => False) Y) (hS : ∀ rs : List (Nat × Nat × Nat), (∀ q ∈ rs, zscr code q.1 = some q.2) → yClS rs (yL0 i) sc Y) (hJ : yKnv g) (hn : ∀ g' : yM, yKnv g' → Y 1484 (yL0 i) [] g') : Y 355 (yL0 i) [] g := by
  refine yrunL_ok (sp := fun pc => Nat.beq pc 1484) (hC [yC_CCS, yC_MCS] (ymets_cons (yM_CCS zpHyp) (ymets_cons (yM_MCS zpHyp) ymets_nil))) (hS [(356, 1, 361), (361, 2, 366), (366, 3, 371), (376, 1, 381), (381, 2, 386), (386, 3, 391)] (by decide +kernel)) 15 355 _ [] g ?_
  show ([(3, 3000), (3, 0), (3, 90), (1, i)] = yL0 i ∧ ([(3, 3000), (3, 0), (3, 90), (1, i)] = yL0 i ∧ ([(3, 3000), (3, 0), (3, 90), (1, i)] = yL0 i ∧ (∃ (p1 i2 n3 : Int), [(3, 0), (1, (sc 1)), (1, (sc 2)), (1, (sc 3))] = [(3, 0), (1, p1), (1, i2), (1, n3)] ∧ (yTy zpZ g) ∧ (∀ (r4 : Int) (g5 : yM), (¬ (0 ≤ p1 ∧ p1 < 6 ∧ 1 ≤ n3 ∧ n3 ≤ 12) → r4 = -1 ∧ g5 = g) → ((0 ≤ p1 ∧ p1 < 6 ∧ 1 ≤ n3 ∧ n3 ≤ 12) → g 40 (Int.toNat p1) = -1 → r4 = 0 ∧ g5 = g) → ((0 ≤ p1 ∧ p1 < 6 ∧ 1 ≤ n3 ∧ n3 ≤ 12) → g 40 (Int.toNat p1) ≠ -1 → g 40 (Int.toNat p1) ≠ 1 → r4 = -12 ∧ g5 = g) → ((0 ≤ p1 ∧ p1 < 6 ∧ 1 ≤ n3 ∧ n3 ≤ 12) → g 40 (Int.toNat p1) = 1 → ∃ c : Nat, r4 = (c : Int) ∧ (c : Int) ≤ n3 ∧ g 1 1 + c ≤ 40 ∧ ((c : Int) = n3 ∨ g 1 1 + c = 40 ∨ ¬ yfV g p1 (i2 + 5 * c)) ∧ yCr g p1 i2 c g5) → ([(3, 3000), (3, 0), (3, 90), (1, i)] = yL0 i ∧ ([(3, 3000), (3, 0), (3, 90), (1, i)] = yL0 i ∧ ([(3, 3000), (3, 0), (3, 90), (1, i)] = yL0 i ∧ (∃ (p7 i8 n9 : Int), [(3, 90), (1, (sc 1)), (1, (sc 2)), (1, (sc 3))] = [(3, 90), (1, p7), (1, i8), (1, n9)] ∧ (yTy zpZ g5) ∧ (∀ (r10 : Int) (g11 : yM), (¬ (0 ≤ p7 ∧ p7 < 6 ∧ 1 ≤ n9 ∧ n9 ≤ 12) → r10 = -1 ∧ g11 = g5) → ((0 ≤ p7 ∧ p7 < 6 ∧ 1 ≤ n9 ∧ n9 ≤ 12) → g5 121 (Int.toNat p7) < 0 → r10 = 0 ∧ g11 = g5) → ((0 ≤ p7 ∧ p7 < 6 ∧ 1 ≤ n9 ∧ n9 ≤ 12) → 0 ≤ g5 121 (Int.toNat p7) → g5 121 (Int.toNat p7) ≠ 21 → r10 = -12 ∧ g11 = g5) → ((0 ≤ p7 ∧ p7 < 6 ∧ 1 ≤ n9 ∧ n9 ≤ 12) → g5 121 (Int.toNat p7) = 21 → ∃ c : Nat, r10 = (c : Int) ∧ (c : Int) ≤ n9 ∧ g5 90 22 + c ≤ 40 ∧ ((c : Int) = n9 ∨ g5 90 22 + c = 40 ∨ ¬ yfVm g5 p7 (i8 + 5 * c)) ∧ yMr g5 p7 i8 c g11) → (Y 1484 [(3, 3000), (3, 0), (3, 90), (1, i)] [] g11)))))))))))
  refine ⟨rfl, ?_⟩
  refine ⟨rfl, ?_⟩
  refine ⟨rfl, ?_⟩
  refine ⟨_, _, _, rfl, (yjc_CS0 hJ.1), ?_⟩
  intro r4 g5 p60 p61 p62 p63
  refine ⟨rfl, ?_⟩
  refine ⟨rfl, ?_⟩
  refine ⟨rfl, ?_⟩
  refine ⟨_, _, _, rfl, (yjm_CS0 hJ.1 p60 p61 p62 p63), ?_⟩
  intro r10 g11 p120 p121 p122 p123
  have al := yj_CS hJ.1 p60 p61 p62 p63 p120 p121 p122 p123
  exact hn _ ⟨al.1, yks_CS hJ al.1.1.1 p60 p61 p62 p63 p120 p121 p122 p123⟩
set_option maxRecDepth 8000 in
theorem yo_6 {l : Launch} {Y : yNx} {i : Int} {sc : Nat → Int} {g : yM} (hC : ∀ CS : List yC, (∀ cn ∈ CS, yMet l zpTs zpcl zpZ zpRO zpMT cn) → yCl zpDL (zpZ, zpRS, zpPL, zpMT, CS, (2048, 84000), 9) (fun _ _ => False) Y) (hS : ∀ rs : List (Nat × Nat × Nat), (∀ q ∈ rs, zscr code q.1 = some q.2) → yClS rs (yL0 i) sc Y) (hJ : yKnv g) (hn : ∀ g' : yM, yKnv g' → Y 1484 (yL0 i) [] g') : Y 398 (yL0 i) [] g := by
  refine yrunL_ok (sp := fun pc => Nat.beq pc 1484) (hC [yC_hc6, yC_hm6] (ymets_cons (yM_hc6 zpHyp) (ymets_cons (yM_hm6 zpHyp) ymets_nil))) (hS [(399, 1, 404), (404, 2, 409), (414, 1, 419), (419, 2, 424)] (by decide +kernel)) 13 398 _ [] g ?_
  show ([(3, 3000), (3, 0), (3, 90), (1, i)] = yL0 i ∧ ([(3, 3000), (3, 0), (3, 90), (1, i)] = yL0 i ∧ (∃ (x01 x12 : Int), [(3, 0), (1, (sc 1)), (1, (sc 2))] = [(3, 0), (1, x01), (1, x12)] ∧ (yTy zpZ g) ∧ (∀ (r3 : Int) (g4 : yM), (yTy zpZ g4) → (yUn zpC59.2.2.2.2 g g4) → ([(3, 3000), (3, 0), (3, 90), (1, i)] = yL0 i ∧ ([(3, 3000), (3, 0), (3, 90), (1, i)] = yL0 i ∧ (∃ (x06 x17 : Int), [(3, 90), (1, (sc 1)), (1, (sc 2))] = [(3, 90), (1, x06), (1, x17)] ∧ (yTy zpZ g4) ∧ (∀ (r8 : Int) (g9 : yM), (yTy zpZ g9) → (yUn zpC514.2.2.2.2 g4 g9) → (Y 1484 [(3, 3000), (3, 0), (3, 90), (1, i)] [] g9)))))))))
  refine ⟨rfl, ?_⟩
  refine ⟨rfl, ?_⟩
  refine ⟨_, _, rfl, (hJ.1.1.1), ?_⟩
  intro r3 g4 p50 p51
  refine ⟨rfl, ?_⟩
  refine ⟨rfl, ?_⟩
  refine ⟨_, _, rfl, (p50), ?_⟩
  intro r8 g9 p100 p101
  exact hn _ ⟨⟨⟨p100, (hJ.1.1.2.mono (p51.eq (by decide +kernel))).mono (p101.eq (by decide +kernel))⟩, (hJ.1.2.mono (p51.eq (by decide +kernel))).mono (p101.eq (by decide +kernel))⟩, (hJ.2.mono hJ.1.1.1.sz.2 (p51.eq (by decide +kernel))).mono (p50.sz.2) (p101.eq (by decide +kernel))⟩
set_option maxRecDepth 8000 in
theorem yo_7 {l : Launch} {Y : yNx} {i : Int} {sc : Nat → Int} {g : yM} (hC : ∀ CS : List yC, (∀ cn ∈ CS, yMet l zpTs zpcl zpZ zpRO zpMT cn) → yCl zpDL (zpZ, zpRS, zpPL, zpMT, CS, (2048, 84000), 9) (fun _ _ => False) Y) (hS : ∀ rs : List (Nat × Nat × Nat), (∀ q ∈ rs, zscr code q.1 = some q.2) → yClS rs (yL0 i) sc Y) (hJ : yKnv g) (hn : ∀ g' : yM, yKnv g' → Y 1484 (yL0 i) [] g') : Y 431 (yL0 i) [] g := by
  refine yrunL_ok (sp := fun pc => Nat.beq pc 1484) (hC [yC_CCA, yC_MCA] (ymets_cons (yM_CCA zpHyp) (ymets_cons (yM_MCA zpHyp) ymets_nil))) (hS [(432, 1, 437), (437, 2, 442), (447, 1, 452), (452, 2, 457)] (by decide +kernel)) 13 431 _ [] g ?_
  show ([(3, 3000), (3, 0), (3, 90), (1, i)] = yL0 i ∧ ([(3, 3000), (3, 0), (3, 90), (1, i)] = yL0 i ∧ (∃ (w1 v2 : Int), [(3, 0), (1, (sc 1)), (1, (sc 2))] = [(3, 0), (1, w1), (1, v2)] ∧ (yTy zpZ g) ∧ (0 ≤ g 4 5 ∧ g 4 5 ≤ 40) ∧ (0 ≤ g 1 1 ∧ g 1 1 ≤ 40) ∧ (∀ (r3 : Int) (g4 : yM), (¬ (0 ≤ w1 ∧ w1 < g 1 1 ∧ 0 ≤ v2 ∧ v2 < g (50 + Int.toNat w1) 2) → r3 = -1 ∧ g4 = g) → ((0 ≤ w1 ∧ w1 < g 1 1 ∧ 0 ≤ v2 ∧ v2 < g (50 + Int.toNat w1) 2) → r3 = ykv g 0 w1 ∧ (r3 = v2 → g4 = g) ∧ (r3 ≠ v2 → yTy zpZ g4 ∧ yWz (ymk g 0 w1 v2) g4)) → ([(3, 3000), (3, 0), (3, 90), (1, i)] = yL0 i ∧ ([(3, 3000), (3, 0), (3, 90), (1, i)] = yL0 i ∧ (∃ (w6 v7 : Int), [(3, 90), (1, (sc 1)), (1, (sc 2))] = [(3, 90), (1, w6), (1, v7)] ∧ (0 ≤ g4 90 5 ∧ g4 90 5 ≤ 40) ∧ (0 ≤ g4 90 22 ∧ g4 90 22 ≤ 40) ∧ (∀ (r8 : Int) (g9 : yM), (¬ (0 ≤ w6 ∧ w6 < g4 90 22 ∧ 0 ≤ v7 ∧ v7 < g4 102 (Int.toNat w6)) → r8 = -1 ∧ g9 = g4) → ((0 ≤ w6 ∧ w6 < g4 90 22 ∧ 0 ≤ v7 ∧ v7 < g4 102 (Int.toNat w6)) → r8 = g4 91 (Int.toNat (w6)) ∧ (g4 91 (Int.toNat (w6)) = v7 → g9 = g4) ∧ (g4 91 (Int.toNat (w6)) ≠ v7 → g9 = ybec g4 (w6) v7)) → (Y 1484 [(3, 3000), (3, 0), (3, 90), (1, i)] [] g9)))))))))
  refine ⟨rfl, ?_⟩
  refine ⟨rfl, ?_⟩
  refine ⟨_, _, rfl, (yjc_CA0 hJ.1), (yjc_CA1 hJ.1), (yjc_CA2 hJ.1), ?_⟩
  intro r3 g4 p50 p51
  refine ⟨rfl, ?_⟩
  refine ⟨rfl, ?_⟩
  refine ⟨_, _, rfl, (yjm_CA0 hJ.1 p50 p51), (yjm_CA1 hJ.1 p50 p51), ?_⟩
  intro r8 g9 p100 p101
  have al := yj_CA hJ.1 p50 p51 p100 p101
  exact hn _ ⟨al.1, yks_CA hJ al.1.1.1 p50 p51 p100 p101⟩
set_option maxRecDepth 8000 in
theorem yo_8 {l : Launch} {Y : yNx} {i : Int} {sc : Nat → Int} {g : yM} (hC : ∀ CS : List yC, (∀ cn ∈ CS, yMet l zpTs zpcl zpZ zpRO zpMT cn) → yCl zpDL (zpZ, zpRS, zpPL, zpMT, CS, (2048, 84000), 9) (fun _ _ => False) Y) (hS : ∀ rs : List (Nat × Nat × Nat), (∀ q ∈ rs, zscr code q.1 = some q.2) → yClS rs (yL0 i) sc Y) (hJ : yKnv g) (hn : ∀ g' : yM, yKnv g' → Y 1484 (yL0 i) [] g') : Y 464 (yL0 i) [] g := by
  refine yrunL_ok (sp := fun pc => Nat.beq pc 1484) (hC [yC_hc8, yC_hm8] (ymets_cons (yM_hc8 zpHyp) (ymets_cons (yM_hm8 zpHyp) ymets_nil))) (hS [(465, 1, 470), (475, 1, 480)] (by decide +kernel)) 11 464 _ [] g ?_
  show ([(3, 3000), (3, 0), (3, 90), (1, i)] = yL0 i ∧ (∃ (x01 : Int), [(3, 0), (1, (sc 1))] = [(3, 0), (1, x01)] ∧ (yTy zpZ g) ∧ (∀ (r2 : Int) (g3 : yM), (yTy zpZ g3) → (yUn zpC62.2.2.2.2 g g3) → ([(3, 3000), (3, 0), (3, 90), (1, i)] = yL0 i ∧ (∃ (x05 : Int), [(3, 90), (1, (sc 1))] = [(3, 90), (1, x05)] ∧ (yTy zpZ g3) ∧ (∀ (r6 : Int) (g7 : yM), (yTy zpZ g7) → (yUn zpC517.2.2.2.2 g3 g7) → (Y 1484 [(3, 3000), (3, 0), (3, 90), (1, i)] [] g7)))))))
  refine ⟨rfl, ?_⟩
  refine ⟨_, rfl, (hJ.1.1.1), ?_⟩
  intro r2 g3 p40 p41
  refine ⟨rfl, ?_⟩
  refine ⟨_, rfl, (p40), ?_⟩
  intro r6 g7 p80 p81
  exact hn _ ⟨⟨⟨p80, (hJ.1.1.2.mono (p41.eq (by decide +kernel))).mono (p81.eq (by decide +kernel))⟩, (hJ.1.2.mono (p41.eq (by decide +kernel))).mono (p81.eq (by decide +kernel))⟩, (hJ.2.mono hJ.1.1.1.sz.2 (p41.eq (by decide +kernel))).mono (p40.sz.2) (p81.eq (by decide +kernel))⟩
set_option maxRecDepth 8000 in
theorem yo_9 {l : Launch} {Y : yNx} {i : Int} {sc : Nat → Int} {g : yM} (hC : ∀ CS : List yC, (∀ cn ∈ CS, yMet l zpTs zpcl zpZ zpRO zpMT cn) → yCl zpDL (zpZ, zpRS, zpPL, zpMT, CS, (2048, 84000), 9) (fun _ _ => False) Y) (hS : ∀ rs : List (Nat × Nat × Nat), (∀ q ∈ rs, zscr code q.1 = some q.2) → yClS rs (yL0 i) sc Y) (hJ : yKnv g) (hn : ∀ g' : yM, yKnv g' → Y 1484 (yL0 i) [] g') : Y 487 (yL0 i) [] g := by
  refine yrunL_ok (sp := fun pc => Nat.beq pc 1484) (hC [yC_hc9, yC_hm9] (ymets_cons (yM_hc9 zpHyp) (ymets_cons (yM_hm9 zpHyp) ymets_nil))) (hS [(488, 1, 493), (493, 2, 498), (503, 1, 508), (508, 2, 513)] (by decide +kernel)) 13 487 _ [] g ?_
  show ([(3, 3000), (3, 0), (3, 90), (1, i)] = yL0 i ∧ ([(3, 3000), (3, 0), (3, 90), (1, i)] = yL0 i ∧ (∃ (x01 x12 : Int), [(3, 0), (1, (sc 1)), (1, (sc 2))] = [(3, 0), (1, x01), (1, x12)] ∧ (yTy zpZ g) ∧ (∀ (r3 : Int) (g4 : yM), (yTy zpZ g4) → (yUn zpC66.2.2.2.2 g g4) → ([(3, 3000), (3, 0), (3, 90), (1, i)] = yL0 i ∧ ([(3, 3000), (3, 0), (3, 90), (1, i)] = yL0 i ∧ (∃ (x06 x17 : Int), [(3, 90), (1, (sc 1)), (1, (sc 2))] = [(3, 90), (1, x06), (1, x17)] ∧ (yTy zpZ g4) ∧ (∀ (r8 : Int) (g9 : yM), (yTy zpZ g9) → (yUn zpC521.2.2.2.2 g4 g9) → (Y 1484 [(3, 3000), (3, 0), (3, 90), (1, i)] [] g9)))))))))
  refine ⟨rfl, ?_⟩
  refine ⟨rfl, ?_⟩
  refine ⟨_, _, rfl, (hJ.1.1.1), ?_⟩
  intro r3 g4 p50 p51
  refine ⟨rfl, ?_⟩
  refine ⟨rfl, ?_⟩
  refine ⟨_, _, rfl, (p50), ?_⟩
  intro r8 g9 p100 p101
  exact hn _ ⟨⟨⟨p100, (hJ.1.1.2.mono (p51.eq (by decide +kernel))).mono (p101.eq (by decide +kernel))⟩, (hJ.1.2.mono (p51.eq (by decide +kernel))).mono (p101.eq (by decide +kernel))⟩, (hJ.2.mono hJ.1.1.1.sz.2 (p51.eq (by decide +kernel))).mono (p50.sz.2) (p101.eq (by decide +kernel))⟩
set_option maxRecDepth 8000 in
theorem yo_10 {l : Launch} {Y : yNx} {i : Int} {sc : Nat → Int} {g : yM} (hC : ∀ CS : List yC, (∀ cn ∈ CS, yMet l zpTs zpcl zpZ zpRO zpMT cn) → yCl zpDL (zpZ, zpRS, zpPL, zpMT, CS, (2048, 84000), 9) (fun _ _ => False) Y) (hS : ∀ rs : List (Nat × Nat × Nat), (∀ q ∈ rs, zscr code q.1 = some q.2) → yClS rs (yL0 i) sc Y) (hJ : yKnv g) (hn : ∀ g' : yM, yKnv g' → Y 1484 (yL0 i) [] g') : Y 520 (yL0 i) [] g := by
  refine yrunL_ok (sp := fun pc => Nat.beq pc 1484) (hC [yC_hc10, yC_hm10] (ymets_cons (yM_hc10 zpHyp) (ymets_cons (yM_hm10 zpHyp) ymets_nil))) (hS [(521, 1, 526), (526, 2, 531), (536, 1, 541), (541, 2, 546)] (by decide +kernel)) 13 520 _ [] g ?_
  show ([(3, 3000), (3, 0), (3, 90), (1, i)] = yL0 i ∧ ([(3, 3000), (3, 0), (3, 90), (1, i)] = yL0 i ∧ (∃ (x01 x12 : Int), [(3, 0), (1, (sc 1)), (1, (sc 2))] = [(3, 0), (1, x01), (1, x12)] ∧ (yTy zpZ g) ∧ (∀ (r3 : Int) (g4 : yM), (yTy zpZ g4) → (yUn zpC68.2.2.2.2 g g4) → ([(3, 3000), (3, 0), (3, 90), (1, i)] = yL0 i ∧ ([(3, 3000), (3, 0), (3, 90), (1, i)] = yL0 i ∧ (∃ (x06 x17 : Int), [(3, 90), (1, (sc 1)), (1, (sc 2))] = [(3, 90), (1, x06), (1, x17)] ∧ (yTy zpZ g4) ∧ (∀ (r8 : Int) (g9 : yM), (yTy zpZ g9) → (yUn zpC522.2.2.2.2 g4 g9) → (Y 1484 [(3, 3000), (3, 0), (3, 90), (1, i)] [] g9)))))))))
  refine ⟨rfl, ?_⟩
  refine ⟨rfl, ?_⟩
  refine ⟨_, _, rfl, (hJ.1.1.1), ?_⟩
  intro r3 g4 p50 p51
  refine ⟨rfl, ?_⟩
  refine ⟨rfl, ?_⟩
  refine ⟨_, _, rfl, (p50), ?_⟩
  intro r8 g9 p100 p101
  exact hn _ ⟨⟨⟨p100, (hJ.1.1.2.mono (p51.eq (by decide +kernel))).mono (p101.eq (by decide +kernel))⟩, (hJ.1.2.mono (p51.eq (by decide +kernel))).mono (p101.eq (by decide +kernel))⟩, (hJ.2.mono hJ.1.1.1.sz.2 (p51.eq (by decide +kernel))).mono (p50.sz.2) (p101.eq (by decide +kernel))⟩
set_option maxRecDepth 8000 in
theorem yo_11 {l : Launch} {Y : yNx} {i : Int} {sc : Nat → Int} {g : yM} (hC : ∀ CS : List yC, (∀ cn ∈ CS, yMet l zpTs zpcl zpZ zpRO zpMT cn) → yCl zpDL (zpZ, zpRS, zpPL, zpMT, CS, (2048, 84000), 9) (fun _ _ => False) Y) (hS : ∀ rs : List (Nat × Nat × Nat), (∀ q ∈ rs, zscr code q.1 = some q.2) → yClS rs (yL0 i) sc Y) (hJ : yKnv g) (hn : ∀ g' : yM, yKnv g' → Y 1484 (yL0 i) [] g') : Y 553 (yL0 i) [] g := by
  refine yrunL_ok (sp := fun pc => Nat.beq pc 1484) (hC [yC_CST, yC_MST] (ymets_cons (yM_CST zpHyp) (ymets_cons (yM_MST zpHyp) ymets_nil))) (hS [(554, 1, 559), (559, 2, 564), (569, 1, 574), (574, 2, 579)] (by decide +kernel)) 13 553 _ [] g ?_
  show ([(3, 3000), (3, 0), (3, 90), (1, i)] = yL0 i ∧ ([(3, 3000), (3, 0), (3, 90), (1, i)] = yL0 i ∧ (∃ (w1 v2 : Int), [(3, 0), (1, (sc 1)), (1, (sc 2))] = [(3, 0), (1, w1), (1, v2)] ∧ (0 ≤ g 1 1 ∧ g 1 1 ≤ 40) ∧ (∀ (r3 : Int) (g4 : yM), ((r3 = -1 ∧ ¬ (0 ≤ w1 ∧ w1 < g 1 1 ∧ -1 ≤ v2 ∧ v2 ≤ 719)) ∨ (r3 = 1 ∧ (0 ≤ w1 ∧ w1 < g 1 1 ∧ -1 ≤ v2 ∧ v2 ≤ 719))) → (r3 ≠ 1 → g4 = g) → (r3 = 1 → g4 = yset g (50 + Int.toNat w1) 8 v2) → ([(3, 3000), (3, 0), (3, 90), (1, i)] = yL0 i ∧ ([(3, 3000), (3, 0), (3, 90), (1, i)] = yL0 i ∧ (∃ (w6 v7 : Int), [(3, 90), (1, (sc 1)), (1, (sc 2))] = [(3, 90), (1, w6), (1, v7)] ∧ (0 ≤ g4 90 22 ∧ g4 90 22 ≤ 40) ∧ (∀ (r8 : Int) (g9 : yM), ((r8 = -1 ∧ ¬ (0 ≤ w6 ∧ w6 < g4 90 22 ∧ -1 ≤ v7 ∧ v7 ≤ 719)) ∨ (r8 = 1 ∧ (0 ≤ w6 ∧ w6 < g4 90 22 ∧ -1 ≤ v7 ∧ v7 ≤ 719))) → (r8 ≠ 1 → g9 = g4) → (r8 = 1 → g9 = yset g4 108 (Int.toNat w6) v7) → (Y 1484 [(3, 3000), (3, 0), (3, 90), (1, i)] [] g9)))))))))
  refine ⟨rfl, ?_⟩
  refine ⟨rfl, ?_⟩
  refine ⟨_, _, rfl, (yjc_ST0 hJ.1), ?_⟩
  intro r3 g4 p50 p51 p52
  refine ⟨rfl, ?_⟩
  refine ⟨rfl, ?_⟩
  refine ⟨_, _, rfl, (yjm_ST0 hJ.1 p50 p51 p52), ?_⟩
  intro r8 g9 p100 p101 p102
  have al := yj_ST hJ.1 p50 p51 p52 p100 p101 p102
  exact hn _ ⟨al.1, yks_ST hJ al.1.1.1 p50 p51 p52 p100 p101 p102⟩
set_option maxRecDepth 8000 in
theorem yo_12 {l : Launch} {Y : yNx} {i : Int} {sc : Nat → Int} {g : yM} (hC : ∀ CS : List yC, (∀ cn ∈ CS, yMet l zpTs zpcl zpZ zpRO zpMT cn) → yCl zpDL (zpZ, zpRS, zpPL, zpMT, CS, (2048, 84000), 9) (fun _ _ => False) Y) (hS : ∀ rs : List (Nat × Nat × Nat), (∀ q ∈ rs, zscr code q.1 = some q.2) → yClS rs (yL0 i) sc Y) (hJ : yKnv g) (hn : ∀ g' : yM, yKnv g' → Y 1484 (yL0 i) [] g') : Y 586 (yL0 i) [] g := by
  refine yrunL_ok (sp := fun pc => Nat.beq pc 1484) (hC [yC_hc12, yC_hm12] (ymets_cons (yM_hc12 zpHyp) (ymets_cons (yM_hm12 zpHyp) ymets_nil))) (hS [(587, 1, 592), (592, 2, 597), (602, 1, 607), (607, 2, 612)] (by decide +kernel)) 13 586 _ [] g ?_
  show ([(3, 3000), (3, 0), (3, 90), (1, i)] = yL0 i ∧ ([(3, 3000), (3, 0), (3, 90), (1, i)] = yL0 i ∧ (∃ (x01 x12 : Int), [(3, 0), (1, (sc 1)), (1, (sc 2))] = [(3, 0), (1, x01), (1, x12)] ∧ (yTy zpZ g) ∧ (∀ (r3 : Int) (g4 : yM), (yTy zpZ g4) → (yUn zpC72.2.2.2.2 g g4) → ([(3, 3000), (3, 0), (3, 90), (1, i)] = yL0 i ∧ ([(3, 3000), (3, 0), (3, 90), (1, i)] = yL0 i ∧ (∃ (x06 x17 : Int), [(3, 90), (1, (sc 1)), (1, (sc 2))] = [(3, 90), (1, x06), (1, x17)] ∧ (yTy zpZ g4) ∧ (∀ (r8 : Int) (g9 : yM), (yTy zpZ g9) → (yUn zpC526.2.2.2.2 g4 g9) → (Y 1484 [(3, 3000), (3, 0), (3, 90), (1, i)] [] g9)))))))))
  refine ⟨rfl, ?_⟩
  refine ⟨rfl, ?_⟩
  refine ⟨_, _, rfl, (hJ.1.1.1), ?_⟩
  intro r3 g4 p50 p51
  refine ⟨rfl, ?_⟩
  refine ⟨rfl, ?_⟩
  refine ⟨_, _, rfl, (p50), ?_⟩
  intro r8 g9 p100 p101
  exact hn _ ⟨⟨⟨p100, (hJ.1.1.2.mono (p51.eq (by decide +kernel))).mono (p101.eq (by decide +kernel))⟩, (hJ.1.2.mono (p51.eq (by decide +kernel))).mono (p101.eq (by decide +kernel))⟩, (hJ.2.mono hJ.1.1.1.sz.2 (p51.eq (by decide +kernel))).mono (p50.sz.2) (p101.eq (by decide +kernel))⟩
set_option maxRecDepth 8000 in
theorem yo_13 {l : Launch} {Y : yNx} {i : Int} {sc : Nat → Int} {g : yM} (hC : ∀ CS : List yC, (∀ cn ∈ CS, yMet l zpTs zpcl zpZ zpRO zpMT cn) → yCl zpDL (zpZ, zpRS, zpPL, zpMT, CS, (2048, 84000), 9) (fun _ _ => False) Y) (hS : ∀ rs : List (Nat × Nat × Nat), (∀ q ∈ rs, zscr code q.1 = some q.2) → yClS rs (yL0 i) sc Y) (hJ : yKnv g) (hn : ∀ g' : yM, yKnv g' → Y 1484 (yL0 i) [] g') : Y 619 (yL0 i) [] g := by
  refine yrunL_ok (sp := fun pc => Nat.beq pc 1484) (hC [yC_hc13, yC_hm13] (ymets_cons (yM_hc13 zpHyp) (ymets_cons (yM_hm13 zpHyp) ymets_nil))) (hS [(620, 1, 625), (630, 1, 635)] (by decide +kernel)) 11 619 _ [] g ?_
  show ([(3, 3000), (3, 0), (3, 90), (1, i)] = yL0 i ∧ (∃ (x01 : Int), [(3, 0), (1, (sc 1))] = [(3, 0), (1, x01)] ∧ (yTy zpZ g) ∧ (∀ (r2 : Int) (g3 : yM), (yTy zpZ g3) → (yUn zpC74.2.2.2.2 g g3) → ([(3, 3000), (3, 0), (3, 90), (1, i)] = yL0 i ∧ (∃ (x05 : Int), [(3, 90), (1, (sc 1))] = [(3, 90), (1, x05)] ∧ (yTy zpZ g3) ∧ (∀ (r6 : Int) (g7 : yM), (yTy zpZ g7) → (yUn zpC527.2.2.2.2 g3 g7) → (Y 1484 [(3, 3000), (3, 0), (3, 90), (1, i)] [] g7)))))))
  refine ⟨rfl, ?_⟩
  refine ⟨_, rfl, (hJ.1.1.1), ?_⟩
  intro r2 g3 p40 p41
  refine ⟨rfl, ?_⟩
  refine ⟨_, rfl, (p40), ?_⟩
  intro r6 g7 p80 p81
  exact hn _ ⟨⟨⟨p80, (hJ.1.1.2.mono (p41.eq (by decide +kernel))).mono (p81.eq (by decide +kernel))⟩, (hJ.1.2.mono (p41.eq (by decide +kernel))).mono (p81.eq (by decide +kernel))⟩, (hJ.2.mono hJ.1.1.1.sz.2 (p41.eq (by decide +kernel))).mono (p40.sz.2) (p81.eq (by decide +kernel))⟩
set_option maxRecDepth 8000 in
theorem yo_14 {l : Launch} {Y : yNx} {i : Int} {sc : Nat → Int} {g : yM} (hC : ∀ CS : List yC, (∀ cn ∈ CS, yMet l zpTs zpcl zpZ zpRO zpMT cn) → yCl zpDL (zpZ, zpRS, zpPL, zpMT, CS, (2048, 84000), 9) (fun _ _ => False) Y) (hS : ∀ rs : List (Nat × Nat × Nat), (∀ q ∈ rs, zscr code q.1 = some q.2) → yClS rs (yL0 i) sc Y) (hJ : yKnv g) (hn : ∀ g' : yM, yKnv g' → Y 1484 (yL0 i) [] g') : Y 642 (yL0 i) [] g := by
  refine yrunL_ok (sp := fun pc => Nat.beq pc 1484) (hC [yC_CFW, yC_MFW] (ymets_cons (yM_CFW zpHyp) (ymets_cons (yM_MFW zpHyp) ymets_nil))) (hS [(643, 1, 648), (652, 2, 657), (667, 1, 672), (676, 2, 681)] (by decide +kernel)) 25 642 _ [] g ?_
  show ([(3, 3000), (3, 0), (3, 90), (1, i)] = yL0 i ∧ ([(3, 3000), (3, 0), (3, 90), (1, i)] = yL0 i ∧ (∃ (v1 : Int), [(3, 0), (2, (ybl (fun x y => x ||| y) (ysh (fun x y => x <<< (y.toInt64 &&& 63)) (sc 1) 32) (ybl (fun x y => x &&& y) (sc 2) 4294967295)))] = [(3, 0), (2, v1)] ∧ (yTy zpZ g) ∧ (∀ (r2 : Int) (g3 : yM), (¬ yOk1 g v1 → r2 = -1) → (yOk1 g v1 → yFwR g v1 r2) → (yTy zpZ g3) → (yF8 g g3) → (-9223372036854775808 ≤ v1 ∧ v1 ≤ 9223372036854775807) → ([(3, 3000), (3, 0), (3, 90), (1, i)] = yL0 i ∧ ([(3, 3000), (3, 0), (3, 90), (1, i)] = yL0 i ∧ (∃ (v5 : Int), [(3, 90), (2, (ybl (fun x y => x ||| y) (ysh (fun x y => x <<< (y.toInt64 &&& 63)) (sc 1) 32) (ybl (fun x y => x &&& y) (sc 2) 4294967295)))] = [(3, 90), (2, v5)] ∧ (yTy zpZ g3) ∧ (0 ≤ g3 90 22 ∧ g3 90 22 ≤ 40) ∧ (0 ≤ g3 90 6 ∧ g3 90 6 ≤ 12) ∧ (∀ n : Nat, (n : Int) < g3 90 22 → (0 ≤ g3 104 n ∧ g3 104 n ≤ 5) ∧ g3 102 n ≤ 719) ∧ (∀ (r6 : Int) (g7 : yM), (yTy zpZ g7) → (yFo g3 g7) → (¬ yOk2 g3 v5 → r6 = -1) → (yOk2 g3 v5 → yFoR g3 v5 r6) → ((r2 = r6 → (Y 1484 [(3, 3000), (3, 0), (3, 90), (1, i)] [] g7)) ∧ (¬ (r2 = r6) → (False)))))))))))
  refine ⟨rfl, ?_⟩
  refine ⟨rfl, ?_⟩
  refine ⟨_, rfl, (yjc_FW0 hJ), ?_⟩
  intro r2 g3 p40 p41 p42 p43 p44
  refine ⟨rfl, ?_⟩
  refine ⟨rfl, ?_⟩
  refine ⟨_, rfl, (yjm_FW0 hJ p40 p41 p42 p43 p44), (yjm_FW1 hJ p40 p41 p42 p43 p44), (yjm_FW2 hJ p40 p41 p42 p43 p44), (yjm_FW3 hJ p40 p41 p42 p43 p44), ?_⟩
  intro r6 g7 p80 p81 p82 p83
  refine ⟨fun h9 => ?_, fun h9 => ?_⟩
  · exact hn _ (yq_FW hJ p40 p41 p42 p43 p44 p80 p81 p82 p83).1
  · have al2 := (yq_FW hJ p40 p41 p42 p43 p44 p80 p81 p82 p83).2
    omega
set_option maxRecDepth 8000 in
theorem yo_15 {l : Launch} {Y : yNx} {i : Int} {sc : Nat → Int} {g : yM} (hC : ∀ CS : List yC, (∀ cn ∈ CS, yMet l zpTs zpcl zpZ zpRO zpMT cn) → yCl zpDL (zpZ, zpRS, zpPL, zpMT, CS, (2048, 84000), 9) (fun _ _ => False) Y) (hS : ∀ rs : List (Nat × Nat × Nat), (∀ q ∈ rs, zscr code q.1 = some q.2) → yClS rs (yL0 i) sc Y) (hJ : yKnv g) (hn : ∀ g' : yM, yKnv g' → Y 1484 (yL0 i) [] g') : Y 695 (yL0 i) [] g := by
  refine yrunL_ok (sp := fun pc => Nat.beq pc 1484) (hC [yC_RU, yC_MU] (ymets_cons (yM_RU zpHyp) (ymets_cons (yM_MU zpHyp) ymets_nil))) (hS [(696, 1, 701), (701, 2, 706), (706, 3, 711), (716, 1, 721), (721, 2, 726), (726, 3, 731)] (by decide +kernel)) 15 695 _ [] g ?_
  show ([(3, 3000), (3, 0), (3, 90), (1, i)] = yL0 i ∧ ([(3, 3000), (3, 0), (3, 90), (1, i)] = yL0 i ∧ ([(3, 3000), (3, 0), (3, 90), (1, i)] = yL0 i ∧ (∃ (c1 a2 w3 : Int), [(3, 0), (1, (sc 1)), (1, (sc 2)), (1, (sc 3))] = [(3, 0), (1, c1), (1, a2), (1, w3)] ∧ (0 ≤ g 6 8 ∧ g 6 8 ≤ 20) ∧ (∀ (r4 : Int) (g5 : yM), ((r4 = -1 ∧ ¬ (0 ≤ c1 ∧ c1 < 8 ∧ 0 ≤ a2 ∧ a2 < 10000 ∧ 0 ≤ w3 ∧ w3 < 100)) ∨ ((0 ≤ c1 ∧ c1 < 8 ∧ 0 ≤ a2 ∧ a2 < 10000 ∧ 0 ≤ w3 ∧ w3 < 100) ∧ ((r4 = -3 ∧ g 6 8 = 20) ∨ (r4 = g 6 8 ∧ g 6 8 < 20)))) → (r4 < 0 → g5 = g) → (0 ≤ r4 → g5 = yset (yset (yset (yset (yset g 30 (Int.toNat (g 6 8)) c1) 27 (Int.toNat (g 6 8)) (yb (fun x y => x / y) a2 100)) 28 (Int.toNat (g 6 8)) (yb (fun x y => x - x / y * y) a2 100)) 29 (Int.toNat (g 6 8)) w3) 6 8 (g 6 8 + 1)) → ([(3, 3000), (3, 0), (3, 90), (1, i)] = yL0 i ∧ ([(3, 3000), (3, 0), (3, 90), (1, i)] = yL0 i ∧ ([(3, 3000), (3, 0), (3, 90), (1, i)] = yL0 i ∧ (∃ (c7 a8 w9 : Int), [(3, 90), (1, (sc 1)), (1, (sc 2)), (1, (sc 3))] = [(3, 90), (1, c7), (1, a8), (1, w9)] ∧ (0 ≤ g5 90 38 ∧ g5 90 38 ≤ 20) ∧ (∀ (r10 : Int) (g11 : yM), ((r10 = -1 ∧ ¬ (0 ≤ c7 ∧ c7 < 8 ∧ 0 ≤ a8 ∧ a8 < 10000 ∧ 0 ≤ w9 ∧ w9 < 100)) ∨ ((0 ≤ c7 ∧ c7 < 8 ∧ 0 ≤ a8 ∧ a8 < 10000 ∧ 0 ≤ w9 ∧ w9 < 100) ∧ ((r10 = -3 ∧ g5 90 38 = 20) ∨ (r10 = g5 90 38 ∧ g5 90 38 < 20)))) → (r10 < 0 → g11 = g5) → (0 ≤ r10 → g11 = yset (yset (yset (yset (yset g5 114 (Int.toNat (g5 90 38)) c7) 115 (Int.toNat (g5 90 38)) (yb (fun x y => x / y) a8 100)) 116 (Int.toNat (g5 90 38)) (yb (fun x y => x - x / y * y) a8 100)) 117 (Int.toNat (g5 90 38)) w9) 90 38 (g5 90 38 + 1)) → (Y 1484 [(3, 3000), (3, 0), (3, 90), (1, i)] [] g11)))))))))))
  refine ⟨rfl, ?_⟩
  refine ⟨rfl, ?_⟩
  refine ⟨rfl, ?_⟩
  refine ⟨_, _, _, rfl, (yjc_RL0 hJ.1), ?_⟩
  intro r4 g5 p60 p61 p62
  refine ⟨rfl, ?_⟩
  refine ⟨rfl, ?_⟩
  refine ⟨rfl, ?_⟩
  refine ⟨_, _, _, rfl, (yjm_RL0 hJ.1 p60 p61 p62), ?_⟩
  intro r10 g11 p120 p121 p122
  have al := yj_RL hJ.1 p60 p61 p62 p120 p121 p122
  exact hn _ ⟨al.1, yks_RL hJ al.1.1.1 p60 p61 p62 p120 p121 p122⟩
set_option maxRecDepth 8000 in
theorem yo_16 {l : Launch} {Y : yNx} {i : Int} {sc : Nat → Int} {g : yM} (hC : ∀ CS : List yC, (∀ cn ∈ CS, yMet l zpTs zpcl zpZ zpRO zpMT cn) → yCl zpDL (zpZ, zpRS, zpPL, zpMT, CS, (2048, 84000), 9) (fun _ _ => False) Y) (hS : ∀ rs : List (Nat × Nat × Nat), (∀ q ∈ rs, zscr code q.1 = some q.2) → yClS rs (yL0 i) sc Y) (hJ : yKnv g) (hn : ∀ g' : yM, yKnv g' → Y 1484 (yL0 i) [] g') : Y 738 (yL0 i) [] g := by
  refine yrunL_ok (sp := fun pc => Nat.beq pc 1484) (hC [yC_CTX, yC_MTX] (ymets_cons (yM_CTX zpHyp) (ymets_cons (yM_MTX zpHyp) ymets_nil))) (hS [] (by decide +kernel)) 9 738 _ [] g ?_
  show ([(3, 0)] = [(3, 0)] ∧ (yTy zpZ g) ∧ (∀ (r1 : Int) (g2 : yM), (yTy zpZ g2) → (g2 2 2 = 0) → (yUn (zpC141.2.2.2.2 ++ [(2, 2, 1, 2)]) g g2) → ([(3, 90)] = [(3, 90)] ∧ (yTy zpZ g2) ∧ (∀ (r4 : Int) (g5 : yM), (yTy zpZ g5) → (g5 90 13 = 0) → (yUn (zpC591.2.2.2.2 ++ [(90, 90, 1, 13), (90, 90, 1, 15), (99, 99, 0, 0)]) g2 g5) → (Y 1484 [(3, 3000), (3, 0), (3, 90), (1, i)] [] g5)))))
  refine ⟨rfl, (hJ.1.1.1), ?_⟩
  intro r1 g2 p30 p31 p32
  refine ⟨rfl, (p30), ?_⟩
  intro r4 g5 p60 p61 p62
  have al := yj_tx hJ.1 p30 p31 p32 p60 p61 p62
  exact hn _ ⟨al, yks_tx hJ p30 p31 p32 p60 p61 p62⟩
set_option maxRecDepth 8000 in
theorem yo_17 {l : Launch} {Y : yNx} {i : Int} {sc : Nat → Int} {g : yM} (hC : ∀ CS : List yC, (∀ cn ∈ CS, yMet l zpTs zpcl zpZ zpRO zpMT cn) → yCl zpDL (zpZ, zpRS, zpPL, zpMT, CS, (2048, 84000), 9) (fun _ _ => False) Y) (hS : ∀ rs : List (Nat × Nat × Nat), (∀ q ∈ rs, zscr code q.1 = some q.2) → yClS rs (yL0 i) sc Y) (hJ : yKnv g) (hn : ∀ g' : yM, yKnv g' → Y 1484 (yL0 i) [] g') : Y 751 (yL0 i) [] g := by
  refine yrunL_ok (sp := fun pc => Nat.beq pc 1484) (hC [yC_hc17, yC_hm17] (ymets_cons (yM_hc17 zpHyp) (ymets_cons (yM_hm17 zpHyp) ymets_nil))) (hS [(752, 1, 757), (757, 2, 762), (762, 3, 767), (772, 1, 777), (777, 2, 782), (782, 3, 787)] (by decide +kernel)) 15 751 _ [] g ?_
  show ([(3, 3000), (3, 0), (3, 90), (1, i)] = yL0 i ∧ ([(3, 3000), (3, 0), (3, 90), (1, i)] = yL0 i ∧ ([(3, 3000), (3, 0), (3, 90), (1, i)] = yL0 i ∧ (∃ (x01 x12 x23 : Int), [(3, 0), (1, (sc 1)), (1, (sc 2)), (1, (sc 3))] = [(3, 0), (1, x01), (1, x12), (1, x23)] ∧ (yTy zpZ g) ∧ (∀ (r4 : Int) (g5 : yM), (yTy zpZ g5) → (yUn zpC150.2.2.2.2 g g5) → ([(3, 3000), (3, 0), (3, 90), (1, i)] = yL0 i ∧ ([(3, 3000), (3, 0), (3, 90), (1, i)] = yL0 i ∧ ([(3, 3000), (3, 0), (3, 90), (1, i)] = yL0 i ∧ (∃ (x07 x18 x29 : Int), [(3, 90), (1, (sc 1)), (1, (sc 2)), (1, (sc 3))] = [(3, 90), (1, x07), (1, x18), (1, x29)] ∧ (yTy zpZ g5) ∧ (∀ (r10 : Int) (g11 : yM), (yTy zpZ g11) → (yUn zpC597.2.2.2.2 g5 g11) → (Y 1484 [(3, 3000), (3, 0), (3, 90), (1, i)] [] g11)))))))))))
  refine ⟨rfl, ?_⟩
  refine ⟨rfl, ?_⟩
  refine ⟨rfl, ?_⟩
  refine ⟨_, _, _, rfl, (hJ.1.1.1), ?_⟩
  intro r4 g5 p60 p61
  refine ⟨rfl, ?_⟩
  refine ⟨rfl, ?_⟩
  refine ⟨rfl, ?_⟩
  refine ⟨_, _, _, rfl, (p60), ?_⟩
  intro r10 g11 p120 p121
  exact hn _ ⟨⟨⟨p120, (hJ.1.1.2.mono (p61.eq (by decide +kernel))).mono (p121.eq (by decide +kernel))⟩, (hJ.1.2.mono (p61.eq (by decide +kernel))).mono (p121.eq (by decide +kernel))⟩, (hJ.2.mono hJ.1.1.1.sz.2 (p61.eq (by decide +kernel))).mono (p60.sz.2) (p121.eq (by decide +kernel))⟩
set_option maxRecDepth 8000 in
theorem yo_18 {l : Launch} {Y : yNx} {i : Int} {sc : Nat → Int} {g : yM} (hC : ∀ CS : List yC, (∀ cn ∈ CS, yMet l zpTs zpcl zpZ zpRO zpMT cn) → yCl zpDL (zpZ, zpRS, zpPL, zpMT, CS, (2048, 84000), 9) (fun _ _ => False) Y) (hS : ∀ rs : List (Nat × Nat × Nat), (∀ q ∈ rs, zscr code q.1 = some q.2) → yClS rs (yL0 i) sc Y) (hJ : yKnv g) (hn : ∀ g' : yM, yKnv g' → Y 1484 (yL0 i) [] g') : Y 794 (yL0 i) [] g := by
  refine yrunL_ok (sp := fun pc => Nat.beq pc 1484) (hC [yC_hc18, yC_hm18] (ymets_cons (yM_hc18 zpHyp) (ymets_cons (yM_hm18 zpHyp) ymets_nil))) (hS [(795, 1, 800), (800, 2, 805), (805, 3, 810), (815, 1, 820), (820, 2, 825), (825, 3, 830)] (by decide +kernel)) 15 794 _ [] g ?_
  show ([(3, 3000), (3, 0), (3, 90), (1, i)] = yL0 i ∧ ([(3, 3000), (3, 0), (3, 90), (1, i)] = yL0 i ∧ ([(3, 3000), (3, 0), (3, 90), (1, i)] = yL0 i ∧ (∃ (x01 x12 x23 : Int), [(3, 0), (1, (sc 1)), (1, (sc 2)), (1, (sc 3))] = [(3, 0), (1, x01), (1, x12), (1, x23)] ∧ (yTy zpZ g) ∧ (∀ (r4 : Int) (g5 : yM), (yTy zpZ g5) → (yUn zpC154.2.2.2.2 g g5) → ([(3, 3000), (3, 0), (3, 90), (1, i)] = yL0 i ∧ ([(3, 3000), (3, 0), (3, 90), (1, i)] = yL0 i ∧ ([(3, 3000), (3, 0), (3, 90), (1, i)] = yL0 i ∧ (∃ (x07 x18 x29 : Int), [(3, 90), (1, (sc 1)), (1, (sc 2)), (1, (sc 3))] = [(3, 90), (1, x07), (1, x18), (1, x29)] ∧ (yTy zpZ g5) ∧ (∀ (r10 : Int) (g11 : yM), (yTy zpZ g11) → (yUn zpC599.2.2.2.2 g5 g11) → (Y 1484 [(3, 3000), (3, 0), (3, 90), (1, i)] [] g11)))))))))))
  refine ⟨rfl, ?_⟩
  refine ⟨rfl, ?_⟩
  refine ⟨rfl, ?_⟩
  refine ⟨_, _, _, rfl, (hJ.1.1.1), ?_⟩
  intro r4 g5 p60 p61
  refine ⟨rfl, ?_⟩
  refine ⟨rfl, ?_⟩
  refine ⟨rfl, ?_⟩
  refine ⟨_, _, _, rfl, (p60), ?_⟩
  intro r10 g11 p120 p121
  exact hn _ ⟨⟨⟨p120, (hJ.1.1.2.mono (p61.eq (by decide +kernel))).mono (p121.eq (by decide +kernel))⟩, (hJ.1.2.mono (p61.eq (by decide +kernel))).mono (p121.eq (by decide +kernel))⟩, (hJ.2.mono hJ.1.1.1.sz.2 (p61.eq (by decide +kernel))).mono (p60.sz.2) (p121.eq (by decide +kernel))⟩
set_option maxRecDepth 8000 in
theorem yo_19 {l : Launch} {Y : yNx} {i : Int} {sc : Nat → Int} {g : yM} (hC : ∀ CS : List yC, (∀ cn ∈ CS, yMet l zpTs zpcl zpZ zpRO zpMT cn) → yCl zpDL (zpZ, zpRS, zpPL, zpMT, CS, (2048, 84000), 9) (fun _ _ => False) Y) (hS : ∀ rs : List (Nat × Nat × Nat), (∀ q ∈ rs, zscr code q.1 = some q.2) → yClS rs (yL0 i) sc Y) (hJ : yKnv g) (hn : ∀ g' : yM, yKnv g' → Y 1484 (yL0 i) [] g') : Y 837 (yL0 i) [] g := by
  refine yrunL_ok (sp := fun pc => Nat.beq pc 1484) (hC [yC_hc19, yC_hm19] (ymets_cons (yM_hc19 zpHyp) (ymets_cons (yM_hm19 zpHyp) ymets_nil))) (hS [(838, 1, 843), (848, 1, 853)] (by decide +kernel)) 11 837 _ [] g ?_
  show ([(3, 3000), (3, 0), (3, 90), (1, i)] = yL0 i ∧ (∃ (x01 : Int), [(3, 0), (1, (sc 1))] = [(3, 0), (1, x01)] ∧ (yTy zpZ g) ∧ (∀ (r2 : Int) (g3 : yM), (yTy zpZ g3) → (yUn zpC156.2.2.2.2 g g3) → ([(3, 3000), (3, 0), (3, 90), (1, i)] = yL0 i ∧ (∃ (x05 : Int), [(3, 90), (1, (sc 1))] = [(3, 90), (1, x05)] ∧ (yTy zpZ g3) ∧ (∀ (r6 : Int) (g7 : yM), (yTy zpZ g7) → (yUn zpC600.2.2.2.2 g3 g7) → (Y 1484 [(3, 3000), (3, 0), (3, 90), (1, i)] [] g7)))))))
  refine ⟨rfl, ?_⟩
  refine ⟨_, rfl, (hJ.1.1.1), ?_⟩
  intro r2 g3 p40 p41
  refine ⟨rfl, ?_⟩
  refine ⟨_, rfl, (p40), ?_⟩
  intro r6 g7 p80 p81
  exact hn _ ⟨⟨⟨p80, (hJ.1.1.2.mono (p41.eq (by decide +kernel))).mono (p81.eq (by decide +kernel))⟩, (hJ.1.2.mono (p41.eq (by decide +kernel))).mono (p81.eq (by decide +kernel))⟩, (hJ.2.mono hJ.1.1.1.sz.2 (p41.eq (by decide +kernel))).mono (p40.sz.2) (p81.eq (by decide +kernel))⟩
set_option maxRecDepth 8000 in
theorem yo_20 {l : Launch} {Y : yNx} {i : Int} {sc : Nat → Int} {g : yM} (hC : ∀ CS : List yC, (∀ cn ∈ CS, yMet l zpTs zpcl zpZ zpRO zpMT cn) → yCl zpDL (zpZ, zpRS, zpPL, zpMT, CS, (2048, 84000), 9) (fun _ _ => False) Y) (hS : ∀ rs : List (Nat × Nat × Nat), (∀ q ∈ rs, zscr code q.1 = some q.2) → yClS rs (yL0 i) sc Y) (hJ : yKnv g) (hn : ∀ g' : yM, yKnv g' → Y 1484 (yL0 i) [] g') : Y 860 (yL0 i) [] g := by
  refine yrunL_ok (sp := fun pc => Nat.beq pc 1484) (hC [yC_hc20, yC_hm20] (ymets_cons (yM_hc20 zpHyp) (ymets_cons (yM_hm20 zpHyp) ymets_nil))) (hS [(861, 1, 866), (871, 1, 876)] (by decide +kernel)) 11 860 _ [] g ?_
  show ([(3, 3000), (3, 0), (3, 90), (1, i)] = yL0 i ∧ (∃ (x01 : Int), [(3, 0), (1, (sc 1))] = [(3, 0), (1, x01)] ∧ (yTy zpZ g) ∧ (∀ (r2 : Int) (g3 : yM), (yTy zpZ g3) → (yUn zpC158.2.2.2.2 g g3) → ([(3, 3000), (3, 0), (3, 90), (1, i)] = yL0 i ∧ (∃ (x05 : Int), [(3, 90), (1, (sc 1))] = [(3, 90), (1, x05)] ∧ (yTy zpZ g3) ∧ (∀ (r6 : Int) (g7 : yM), (yTy zpZ g7) → (yUn zpC601.2.2.2.2 g3 g7) → (Y 1484 [(3, 3000), (3, 0), (3, 90), (1, i)] [] g7)))))))
  refine ⟨rfl, ?_⟩
  refine ⟨_, rfl, (hJ.1.1.1), ?_⟩
  intro r2 g3 p40 p41
  refine ⟨rfl, ?_⟩
  refine ⟨_, rfl, (p40), ?_⟩
  intro r6 g7 p80 p81
  exact hn _ ⟨⟨⟨p80, (hJ.1.1.2.mono (p41.eq (by decide +kernel))).mono (p81.eq (by decide +kernel))⟩, (hJ.1.2.mono (p41.eq (by decide +kernel))).mono (p81.eq (by decide +kernel))⟩, (hJ.2.mono hJ.1.1.1.sz.2 (p41.eq (by decide +kernel))).mono (p40.sz.2) (p81.eq (by decide +kernel))⟩
set_option maxRecDepth 8000 in
theorem yo_21 {l : Launch} {Y : yNx} {i : Int} {sc : Nat → Int} {g : yM} (hC : ∀ CS : List yC, (∀ cn ∈ CS, yMet l zpTs zpcl zpZ zpRO zpMT cn) → yCl zpDL (zpZ, zpRS, zpPL, zpMT, CS, (2048, 84000), 9) (fun _ _ => False) Y) (hS : ∀ rs : List (Nat × Nat × Nat), (∀ q ∈ rs, zscr code q.1 = some q.2) → yClS rs (yL0 i) sc Y) (hJ : yKnv g) (hn : ∀ g' : yM, yKnv g' → Y 1484 (yL0 i) [] g') : Y 883 (yL0 i) [] g := by
  refine yrunL_ok (sp := fun pc => Nat.beq pc 1484) (hC [yC_hc21, yC_hm21] (ymets_cons (yM_hc21 zpHyp) (ymets_cons (yM_hm21 zpHyp) ymets_nil))) (hS [(884, 1, 889), (894, 1, 899)] (by decide +kernel)) 11 883 _ [] g ?_
  show ([(3, 3000), (3, 0), (3, 90), (1, i)] = yL0 i ∧ (∃ (x01 : Int), [(3, 0), (1, (sc 1))] = [(3, 0), (1, x01)] ∧ (yTy zpZ g) ∧ (∀ (r2 : Int) (g3 : yM), (yTy zpZ g3) → (yUn zpC160.2.2.2.2 g g3) → ([(3, 3000), (3, 0), (3, 90), (1, i)] = yL0 i ∧ (∃ (x05 : Int), [(3, 90), (1, (sc 1))] = [(3, 90), (1, x05)] ∧ (yTy zpZ g3) ∧ (∀ (r6 : Int) (g7 : yM), (yTy zpZ g7) → (yUn zpC602.2.2.2.2 g3 g7) → (Y 1484 [(3, 3000), (3, 0), (3, 90), (1, i)] [] g7)))))))
  refine ⟨rfl, ?_⟩
  refine ⟨_, rfl, (hJ.1.1.1), ?_⟩
  intro r2 g3 p40 p41
  refine ⟨rfl, ?_⟩
  refine ⟨_, rfl, (p40), ?_⟩
  intro r6 g7 p80 p81
  exact hn _ ⟨⟨⟨p80, (hJ.1.1.2.mono (p41.eq (by decide +kernel))).mono (p81.eq (by decide +kernel))⟩, (hJ.1.2.mono (p41.eq (by decide +kernel))).mono (p81.eq (by decide +kernel))⟩, (hJ.2.mono hJ.1.1.1.sz.2 (p41.eq (by decide +kernel))).mono (p40.sz.2) (p81.eq (by decide +kernel))⟩
set_option maxRecDepth 8000 in
theorem yo_22 {l : Launch} {Y : yNx} {i : Int} {sc : Nat → Int} {g : yM} (hC : ∀ CS : List yC, (∀ cn ∈ CS, yMet l zpTs zpcl zpZ zpRO zpMT cn) → yCl zpDL (zpZ, zpRS, zpPL, zpMT, CS, (2048, 84000), 9) (fun _ _ => False) Y) (hS : ∀ rs : List (Nat × Nat × Nat), (∀ q ∈ rs, zscr code q.1 = some q.2) → yClS rs (yL0 i) sc Y) (hJ : yKnv g) (hn : ∀ g' : yM, yKnv g' → Y 1484 (yL0 i) [] g') : Y 906 (yL0 i) [] g := by
  refine yrunL_ok (sp := fun pc => Nat.beq pc 1484) (hC [yC_hc22, yC_hm22] (ymets_cons (yM_hc22 zpHyp) (ymets_cons (yM_hm22 zpHyp) ymets_nil))) (hS [(907, 1, 912), (912, 2, 917), (922, 1, 927), (927, 2, 932)] (by decide +kernel)) 13 906 _ [] g ?_
  show ([(3, 3000), (3, 0), (3, 90), (1, i)] = yL0 i ∧ ([(3, 3000), (3, 0), (3, 90), (1, i)] = yL0 i ∧ (∃ (x01 x12 : Int), [(3, 0), (1, (sc 1)), (1, (sc 2))] = [(3, 0), (1, x01), (1, x12)] ∧ (yTy zpZ g) ∧ (∀ (r3 : Int) (g4 : yM), (yTy zpZ g4) → (yUn zpC164.2.2.2.2 g g4) → ([(3, 3000), (3, 0), (3, 90), (1, i)] = yL0 i ∧ ([(3, 3000), (3, 0), (3, 90), (1, i)] = yL0 i ∧ (∃ (x06 x17 : Int), [(3, 90), (1, (sc 1)), (1, (sc 2))] = [(3, 90), (1, x06), (1, x17)] ∧ (yTy zpZ g4) ∧ (∀ (r8 : Int) (g9 : yM), (yTy zpZ g9) → (yUn zpC603.2.2.2.2 g4 g9) → (Y 1484 [(3, 3000), (3, 0), (3, 90), (1, i)] [] g9)))))))))
  refine ⟨rfl, ?_⟩
  refine ⟨rfl, ?_⟩
  refine ⟨_, _, rfl, (hJ.1.1.1), ?_⟩
  intro r3 g4 p50 p51
  refine ⟨rfl, ?_⟩
  refine ⟨rfl, ?_⟩
  refine ⟨_, _, rfl, (p50), ?_⟩
  intro r8 g9 p100 p101
  exact hn _ ⟨⟨⟨p100, (hJ.1.1.2.mono (p51.eq (by decide +kernel))).mono (p101.eq (by decide +kernel))⟩, (hJ.1.2.mono (p51.eq (by decide +kernel))).mono (p101.eq (by decide +kernel))⟩, (hJ.2.mono hJ.1.1.1.sz.2 (p51.eq (by decide +kernel))).mono (p50.sz.2) (p101.eq (by decide +kernel))⟩
set_option maxRecDepth 8000 in
theorem yo_23 {l : Launch} {Y : yNx} {i : Int} {sc : Nat → Int} {g : yM} (hC : ∀ CS : List yC, (∀ cn ∈ CS, yMet l zpTs zpcl zpZ zpRO zpMT cn) → yCl zpDL (zpZ, zpRS, zpPL, zpMT, CS, (2048, 84000), 9) (fun _ _ => False) Y) (hS : ∀ rs : List (Nat × Nat × Nat), (∀ q ∈ rs, zscr code q.1 = some q.2) → yClS rs (yL0 i) sc Y) (hJ : yKnv g) (hn : ∀ g' : yM, yKnv g' → Y 1484 (yL0 i) [] g') : Y 939 (yL0 i) [] g := by
  refine yrunL_ok (sp := fun pc => Nat.beq pc 1484) (hC [yC_hc23, yC_hm23] (ymets_cons (yM_hc23 zpHyp) (ymets_cons (yM_hm23 zpHyp) ymets_nil))) (hS [(940, 1, 945), (945, 2, 950), (955, 1, 960), (960, 2, 965)] (by decide +kernel)) 13 939 _ [] g ?_
  show ([(3, 3000), (3, 0), (3, 90), (1, i)] = yL0 i ∧ ([(3, 3000), (3, 0), (3, 90), (1, i)] = yL0 i ∧ (∃ (x01 x12 : Int), [(3, 0), (1, (sc 1)), (1, (sc 2))] = [(3, 0), (1, x01), (1, x12)] ∧ (yTy zpZ g) ∧ (∀ (r3 : Int) (g4 : yM), (yTy zpZ g4) → (yUn zpC169.2.2.2.2 g g4) → ([(3, 3000), (3, 0), (3, 90), (1, i)] = yL0 i ∧ ([(3, 3000), (3, 0), (3, 90), (1, i)] = yL0 i ∧ (∃ (x06 x17 : Int), [(3, 90), (1, (sc 1)), (1, (sc 2))] = [(3, 90), (1, x06), (1, x17)] ∧ (yTy zpZ g4) ∧ (∀ (r8 : Int) (g9 : yM), (yTy zpZ g9) → (yUn zpC605.2.2.2.2 g4 g9) → (Y 1484 [(3, 3000), (3, 0), (3, 90), (1, i)] [] g9)))))))))
  refine ⟨rfl, ?_⟩
  refine ⟨rfl, ?_⟩
  refine ⟨_, _, rfl, (hJ.1.1.1), ?_⟩
  intro r3 g4 p50 p51
  refine ⟨rfl, ?_⟩
  refine ⟨rfl, ?_⟩
  refine ⟨_, _, rfl, (p50), ?_⟩
  intro r8 g9 p100 p101
  exact hn _ ⟨⟨⟨p100, (hJ.1.1.2.mono (p51.eq (by decide +kernel))).mono (p101.eq (by decide +kernel))⟩, (hJ.1.2.mono (p51.eq (by decide +kernel))).mono (p101.eq (by decide +kernel))⟩, (hJ.2.mono hJ.1.1.1.sz.2 (p51.eq (by decide +kernel))).mono (p50.sz.2) (p101.eq (by decide +kernel))⟩
set_option maxRecDepth 8000 in
theorem yo_24 {l : Launch} {Y : yNx} {i : Int} {sc : Nat → Int} {g : yM} (hC : ∀ CS : List yC, (∀ cn ∈ CS, yMet l zpTs zpcl zpZ zpRO zpMT cn) → yCl zpDL (zpZ, zpRS, zpPL, zpMT, CS, (2048, 84000), 9) (fun _ _ => False) Y) (hS : ∀ rs : List (Nat × Nat × Nat), (∀ q ∈ rs, zscr code q.1 = some q.2) → yClS rs (yL0 i) sc Y) (hJ : yKnv g) (hn : ∀ g' : yM, yKnv g' → Y 1484 (yL0 i) [] g') : Y 972 (yL0 i) [] g := by
  refine yrunL_ok (sp := fun pc => Nat.beq pc 1484) (hC [yC_hc24, yC_hm24] (ymets_cons (yM_hc24 zpHyp) (ymets_cons (yM_hm24 zpHyp) ymets_nil))) (hS [(973, 1, 978), (978, 2, 983), (983, 3, 988), (993, 1, 998), (998, 2, 1003), (1003, 3, 1008)] (by decide +kernel)) 15 972 _ [] g ?_
  show ([(3, 3000), (3, 0), (3, 90), (1, i)] = yL0 i ∧ ([(3, 3000), (3, 0), (3, 90), (1, i)] = yL0 i ∧ ([(3, 3000), (3, 0), (3, 90), (1, i)] = yL0 i ∧ (∃ (x01 x12 x23 : Int), [(3, 0), (1, (sc 1)), (1, (sc 2)), (1, (sc 3))] = [(3, 0), (1, x01), (1, x12), (1, x23)] ∧ (yTy zpZ g) ∧ (∀ (r4 : Int) (g5 : yM), (yTy zpZ g5) → (yUn zpC174.2.2.2.2 g g5) → ([(3, 3000), (3, 0), (3, 90), (1, i)] = yL0 i ∧ ([(3, 3000), (3, 0), (3, 90), (1, i)] = yL0 i ∧ ([(3, 3000), (3, 0), (3, 90), (1, i)] = yL0 i ∧ (∃ (x07 x18 x29 : Int), [(3, 90), (1, (sc 1)), (1, (sc 2)), (1, (sc 3))] = [(3, 90), (1, x07), (1, x18), (1, x29)] ∧ (yTy zpZ g5) ∧ (∀ (r10 : Int) (g11 : yM), (yTy zpZ g11) → (yUn zpC608.2.2.2.2 g5 g11) → (Y 1484 [(3, 3000), (3, 0), (3, 90), (1, i)] [] g11)))))))))))
  refine ⟨rfl, ?_⟩
  refine ⟨rfl, ?_⟩
  refine ⟨rfl, ?_⟩
  refine ⟨_, _, _, rfl, (hJ.1.1.1), ?_⟩
  intro r4 g5 p60 p61
  refine ⟨rfl, ?_⟩
  refine ⟨rfl, ?_⟩
  refine ⟨rfl, ?_⟩
  refine ⟨_, _, _, rfl, (p60), ?_⟩
  intro r10 g11 p120 p121
  exact hn _ ⟨⟨⟨p120, (hJ.1.1.2.mono (p61.eq (by decide +kernel))).mono (p121.eq (by decide +kernel))⟩, (hJ.1.2.mono (p61.eq (by decide +kernel))).mono (p121.eq (by decide +kernel))⟩, (hJ.2.mono hJ.1.1.1.sz.2 (p61.eq (by decide +kernel))).mono (p60.sz.2) (p121.eq (by decide +kernel))⟩
set_option maxRecDepth 8000 in
theorem yo_25 {l : Launch} {Y : yNx} {i : Int} {sc : Nat → Int} {g : yM} (hC : ∀ CS : List yC, (∀ cn ∈ CS, yMet l zpTs zpcl zpZ zpRO zpMT cn) → yCl zpDL (zpZ, zpRS, zpPL, zpMT, CS, (2048, 84000), 9) (fun _ _ => False) Y) (hS : ∀ rs : List (Nat × Nat × Nat), (∀ q ∈ rs, zscr code q.1 = some q.2) → yClS rs (yL0 i) sc Y) (hJ : yKnv g) (hn : ∀ g' : yM, yKnv g' → Y 1484 (yL0 i) [] g') : Y 1015 (yL0 i) [] g := by
  refine yrunL_ok (sp := fun pc => Nat.beq pc 1484) (hC [yC_hc25, yC_hm25] (ymets_cons (yM_hc25 zpHyp) (ymets_cons (yM_hm25 zpHyp) ymets_nil))) (hS [(1016, 1, 1021), (1021, 2, 1026), (1026, 3, 1031), (1036, 1, 1041), (1041, 2, 1046), (1046, 3, 1051)] (by decide +kernel)) 15 1015 _ [] g ?_
  show ([(3, 3000), (3, 0), (3, 90), (1, i)] = yL0 i ∧ ([(3, 3000), (3, 0), (3, 90), (1, i)] = yL0 i ∧ ([(3, 3000), (3, 0), (3, 90), (1, i)] = yL0 i ∧ (∃ (x01 x12 x23 : Int), [(3, 0), (1, (sc 1)), (1, (sc 2)), (1, (sc 3))] = [(3, 0), (1, x01), (1, x12), (1, x23)] ∧ (yTy zpZ g) ∧ (∀ (r4 : Int) (g5 : yM), (yTy zpZ g5) → (yUn zpC177.2.2.2.2 g g5) → ([(3, 3000), (3, 0), (3, 90), (1, i)] = yL0 i ∧ ([(3, 3000), (3, 0), (3, 90), (1, i)] = yL0 i ∧ ([(3, 3000), (3, 0), (3, 90), (1, i)] = yL0 i ∧ (∃ (x07 x18 x29 : Int), [(3, 90), (1, (sc 1)), (1, (sc 2)), (1, (sc 3))] = [(3, 90), (1, x07), (1, x18), (1, x29)] ∧ (yTy zpZ g5) ∧ (∀ (r10 : Int) (g11 : yM), (yTy zpZ g11) → (yUn zpC609.2.2.2.2 g5 g11) → (Y 1484 [(3, 3000), (3, 0), (3, 90), (1, i)] [] g11)))))))))))
  refine ⟨rfl, ?_⟩
  refine ⟨rfl, ?_⟩
  refine ⟨rfl, ?_⟩
  refine ⟨_, _, _, rfl, (hJ.1.1.1), ?_⟩
  intro r4 g5 p60 p61
  refine ⟨rfl, ?_⟩
  refine ⟨rfl, ?_⟩
  refine ⟨rfl, ?_⟩
  refine ⟨_, _, _, rfl, (p60), ?_⟩
  intro r10 g11 p120 p121
  exact hn _ ⟨⟨⟨p120, (hJ.1.1.2.mono (p61.eq (by decide +kernel))).mono (p121.eq (by decide +kernel))⟩, (hJ.1.2.mono (p61.eq (by decide +kernel))).mono (p121.eq (by decide +kernel))⟩, (hJ.2.mono hJ.1.1.1.sz.2 (p61.eq (by decide +kernel))).mono (p60.sz.2) (p121.eq (by decide +kernel))⟩
set_option maxRecDepth 8000 in
theorem yo_26 {l : Launch} {Y : yNx} {i : Int} {sc : Nat → Int} {g : yM} (hC : ∀ CS : List yC, (∀ cn ∈ CS, yMet l zpTs zpcl zpZ zpRO zpMT cn) → yCl zpDL (zpZ, zpRS, zpPL, zpMT, CS, (2048, 84000), 9) (fun _ _ => False) Y) (hS : ∀ rs : List (Nat × Nat × Nat), (∀ q ∈ rs, zscr code q.1 = some q.2) → yClS rs (yL0 i) sc Y) (hJ : yKnv g) (hn : ∀ g' : yM, yKnv g' → Y 1484 (yL0 i) [] g') : Y 1058 (yL0 i) [] g := by
  refine yrunL_ok (sp := fun pc => Nat.beq pc 1484) (hC [yC_hc26, yC_hm26] (ymets_cons (yM_hc26 zpHyp) (ymets_cons (yM_hm26 zpHyp) ymets_nil))) (hS [(1059, 1, 1064), (1064, 2, 1069), (1074, 1, 1079), (1079, 2, 1084)] (by decide +kernel)) 13 1058 _ [] g ?_
  show ([(3, 3000), (3, 0), (3, 90), (1, i)] = yL0 i ∧ ([(3, 3000), (3, 0), (3, 90), (1, i)] = yL0 i ∧ (∃ (x01 x12 : Int), [(3, 0), (1, (sc 1)), (1, (sc 2))] = [(3, 0), (1, x01), (1, x12)] ∧ (yTy zpZ g) ∧ (∀ (r3 : Int) (g4 : yM), (yTy zpZ g4) → (yUn zpC179.2.2.2.2 g g4) → ([(3, 3000), (3, 0), (3, 90), (1, i)] = yL0 i ∧ ([(3, 3000), (3, 0), (3, 90), (1, i)] = yL0 i ∧ (∃ (x06 x17 : Int), [(3, 90), (1, (sc 1)), (1, (sc 2))] = [(3, 90), (1, x06), (1, x17)] ∧ (yTy zpZ g4) ∧ (∀ (r8 : Int) (g9 : yM), (yTy zpZ g9) → (yUn zpC610.2.2.2.2 g4 g9) → (Y 1484 [(3, 3000), (3, 0), (3, 90), (1, i)] [] g9)))))))))
  refine ⟨rfl, ?_⟩
  refine ⟨rfl, ?_⟩
  refine ⟨_, _, rfl, (hJ.1.1.1), ?_⟩
  intro r3 g4 p50 p51
  refine ⟨rfl, ?_⟩
  refine ⟨rfl, ?_⟩
  refine ⟨_, _, rfl, (p50), ?_⟩
  intro r8 g9 p100 p101
  exact hn _ ⟨⟨⟨p100, (hJ.1.1.2.mono (p51.eq (by decide +kernel))).mono (p101.eq (by decide +kernel))⟩, (hJ.1.2.mono (p51.eq (by decide +kernel))).mono (p101.eq (by decide +kernel))⟩, (hJ.2.mono hJ.1.1.1.sz.2 (p51.eq (by decide +kernel))).mono (p50.sz.2) (p101.eq (by decide +kernel))⟩
set_option maxRecDepth 8000 in
theorem yo_27 {l : Launch} {Y : yNx} {i : Int} {sc : Nat → Int} {g : yM} (hC : ∀ CS : List yC, (∀ cn ∈ CS, yMet l zpTs zpcl zpZ zpRO zpMT cn) → yCl zpDL (zpZ, zpRS, zpPL, zpMT, CS, (2048, 84000), 9) (fun _ _ => False) Y) (hS : ∀ rs : List (Nat × Nat × Nat), (∀ q ∈ rs, zscr code q.1 = some q.2) → yClS rs (yL0 i) sc Y) (hJ : yKnv g) (hn : ∀ g' : yM, yKnv g' → Y 1484 (yL0 i) [] g') : Y 1091 (yL0 i) [] g := by
  refine yrunL_ok (sp := fun pc => Nat.beq pc 1484) (hC [yC_CUN, yC_MUN] (ymets_cons (yM_CUN zpHyp) (ymets_cons (yM_MUN zpHyp) ymets_nil))) (hS [] (by decide +kernel)) 9 1091 _ [] g ?_
  show ([(3, 0)] = [(3, 0)] ∧ (yTy zpZ g) ∧ (0 ≤ g 4 5 ∧ g 4 5 ≤ 40) ∧ (0 < g 4 5 → yok g (g 19 (Int.toNat (g 4 5 - 1))) (g 20 (Int.toNat (g 4 5 - 1)))) ∧ (∀ (r1 : Int) (g2 : yM), ((r1 = -5 ∧ g 4 5 = 0) ∨ (r1 = g 4 5 - 1 ∧ 0 < g 4 5)) → (g 4 5 = 0 → g2 = g) → (0 < g 4 5 → yTy zpZ g2 ∧ yWz (ysv (yset g 4 5 (g 4 5 - 1)) (g 19 (Int.toNat (g 4 5 - 1))) (g 20 (Int.toNat (g 4 5 - 1))) (g 21 (Int.toNat (g 4 5 - 1)))) g2) → ([(3, 90)] = [(3, 90)] ∧ (0 ≤ g2 90 5 ∧ g2 90 5 ≤ 40) ∧ (∀ k : Nat, k < 40 → 0 ≤ g2 92 k ∧ g2 92 k < 53) ∧ (∀ (r4 : Int) (g5 : yM), ((r4 = -5 ∧ g2 90 5 = 0) ∨ (r4 = g2 90 5 - 1 ∧ 0 < g2 90 5)) → (g2 90 5 = 0 → g5 = g2) → (0 < g2 90 5 → g5 = yset (yset g2 90 5 (g2 90 5 - 1)) 91 (Int.toNat (g2 92 (Int.toNat (g2 90 5 - 1)))) (g2 93 (Int.toNat (g2 90 5 - 1)))) → (Y 1484 [(3, 3000), (3, 0), (3, 90), (1, i)] [] g5)))))
  refine ⟨rfl, (yjc_UN0 hJ.1), (yjc_UN1 hJ.1), (yjc_UN2 hJ.1), ?_⟩
  intro r1 g2 p30 p31 p32
  refine ⟨rfl, (yjm_UN0 hJ.1 p30 p31 p32), (yjm_UN1 hJ.1 p30 p31 p32), ?_⟩
  intro r4 g5 p60 p61 p62
  have al := yj_UN hJ.1 p30 p31 p32 p60 p61 p62
  exact hn _ ⟨al.1, yks_UN hJ al.1.1.1 p30 p31 p32 p60 p61 p62⟩
set_option maxRecDepth 8000 in
theorem yo_28 {l : Launch} {Y : yNx} {i : Int} {sc : Nat → Int} {g : yM} (hC : ∀ CS : List yC, (∀ cn ∈ CS, yMet l zpTs zpcl zpZ zpRO zpMT cn) → yCl zpDL (zpZ, zpRS, zpPL, zpMT, CS, (2048, 84000), 9) (fun _ _ => False) Y) (hS : ∀ rs : List (Nat × Nat × Nat), (∀ q ∈ rs, zscr code q.1 = some q.2) → yClS rs (yL0 i) sc Y) (hJ : yKnv g) (hn : ∀ g' : yM, yKnv g' → Y 1484 (yL0 i) [] g') : Y 1104 (yL0 i) [] g := by
  refine yrunL_ok (sp := fun pc => Nat.beq pc 1484) (hC [yC_CRE, yC_MRE] (ymets_cons (yM_CRE zpHyp) (ymets_cons (yM_MRE zpHyp) ymets_nil))) (hS [] (by decide +kernel)) 9 1104 _ [] g ?_
  show ([(3, 0)] = [(3, 0)] ∧ (yTy zpZ g) ∧ (0 ≤ g 4 5 ∧ g 4 5 ≤ g 4 6 ∧ g 4 6 ≤ 40) ∧ (g 4 5 < g 4 6 → yok g (g 19 (Int.toNat (g 4 5))) (g 20 (Int.toNat (g 4 5)))) ∧ (∀ (r1 : Int) (g2 : yM), ((r1 = -5 ∧ g 4 5 = g 4 6) ∨ (r1 = g 4 6 - (g 4 5 + 1) ∧ g 4 5 < g 4 6)) → (g 4 5 = g 4 6 → g2 = g) → (g 4 5 < g 4 6 → yTy zpZ g2 ∧ ∃ M, yWz (ysv g (g 19 (Int.toNat (g 4 5))) (g 20 (Int.toNat (g 4 5))) (g 22 (Int.toNat (g 4 5)))) M ∧ g2 = yset M 4 5 (g 4 5 + 1)) → ([(3, 90)] = [(3, 90)] ∧ (0 ≤ g2 90 5 ∧ g2 90 5 ≤ g2 90 4 ∧ g2 90 4 ≤ 40) ∧ (∀ k : Nat, k < 40 → 0 ≤ g2 92 k ∧ g2 92 k < 53) ∧ (∀ (r4 : Int) (g5 : yM), ((r4 = -5 ∧ g2 90 5 = g2 90 4) ∨ (r4 = g2 90 4 - (g2 90 5 + 1) ∧ g2 90 5 < g2 90 4)) → (g2 90 5 = g2 90 4 → g5 = g2) → (g2 90 5 < g2 90 4 → g5 = yset (yset g2 91 (Int.toNat (g2 92 (Int.toNat (g2 90 5)))) (g2 94 (Int.toNat (g2 90 5)))) 90 5 (g2 90 5 + 1)) → (Y 1484 [(3, 3000), (3, 0), (3, 90), (1, i)] [] g5)))))
  refine ⟨rfl, (yjc_RE0 hJ.1), (yjc_RE1 hJ.1), (yjc_RE2 hJ.1), ?_⟩
  intro r1 g2 p30 p31 p32
  refine ⟨rfl, (yjm_RE0 hJ.1 p30 p31 p32), (yjm_RE1 hJ.1 p30 p31 p32), ?_⟩
  intro r4 g5 p60 p61 p62
  have al := yj_RE hJ.1 p30 p31 p32 p60 p61 p62
  exact hn _ ⟨al.1, yks_RE hJ al.1.1.1 p30 p31 p32 p60 p61 p62⟩
set_option maxRecDepth 8000 in
theorem yo_29 {l : Launch} {Y : yNx} {i : Int} {sc : Nat → Int} {g : yM} (hC : ∀ CS : List yC, (∀ cn ∈ CS, yMet l zpTs zpcl zpZ zpRO zpMT cn) → yCl zpDL (zpZ, zpRS, zpPL, zpMT, CS, (2048, 84000), 9) (fun _ _ => False) Y) (hS : ∀ rs : List (Nat × Nat × Nat), (∀ q ∈ rs, zscr code q.1 = some q.2) → yClS rs (yL0 i) sc Y) (hJ : yKnv g) (hn : ∀ g' : yM, yKnv g' → Y 1484 (yL0 i) [] g') : Y 1117 (yL0 i) [] g := by
  refine yrunL_ok (sp := fun pc => Nat.beq pc 1484) (hC [yC_hc29, yC_hm29] (ymets_cons (yM_hc29 zpHyp) (ymets_cons (yM_hm29 zpHyp) ymets_nil))) (hS [(1118, 1, 1123), (1123, 2, 1128), (1128, 3, 1133), (1138, 1, 1143), (1143, 2, 1148), (1148, 3, 1153)] (by decide +kernel)) 15 1117 _ [] g ?_
  show ([(3, 3000), (3, 0), (3, 90), (1, i)] = yL0 i ∧ ([(3, 3000), (3, 0), (3, 90), (1, i)] = yL0 i ∧ ([(3, 3000), (3, 0), (3, 90), (1, i)] = yL0 i ∧ (∃ (x01 x12 x23 : Int), [(3, 0), (1, (sc 1)), (1, (sc 2)), (1, (sc 3))] = [(3, 0), (1, x01), (1, x12), (1, x23)] ∧ (yTy zpZ g) ∧ (∀ (r4 : Int) (g5 : yM), (yTy zpZ g5) → (yUn zpC373.2.2.2.2 g g5) → ([(3, 3000), (3, 0), (3, 90), (1, i)] = yL0 i ∧ ([(3, 3000), (3, 0), (3, 90), (1, i)] = yL0 i ∧ ([(3, 3000), (3, 0), (3, 90), (1, i)] = yL0 i ∧ (∃ (x07 x18 x29 : Int), [(3, 90), (1, (sc 1)), (1, (sc 2)), (1, (sc 3))] = [(3, 90), (1, x07), (1, x18), (1, x29)] ∧ (yTy zpZ g5) ∧ (∀ (r10 : Int) (g11 : yM), (yTy zpZ g11) → (yUn zpC625.2.2.2.2 g5 g11) → (Y 1484 [(3, 3000), (3, 0), (3, 90), (1, i)] [] g11)))))))))))
  refine ⟨rfl, ?_⟩
  refine ⟨rfl, ?_⟩
  refine ⟨rfl, ?_⟩
  refine ⟨_, _, _, rfl, (hJ.1.1.1), ?_⟩
  intro r4 g5 p60 p61
  refine ⟨rfl, ?_⟩
  refine ⟨rfl, ?_⟩
  refine ⟨rfl, ?_⟩
  refine ⟨_, _, _, rfl, (p60), ?_⟩
  intro r10 g11 p120 p121
  exact hn _ ⟨⟨⟨p120, (hJ.1.1.2.mono (p61.eq (by decide +kernel))).mono (p121.eq (by decide +kernel))⟩, (hJ.1.2.mono (p61.eq (by decide +kernel))).mono (p121.eq (by decide +kernel))⟩, (hJ.2.mono hJ.1.1.1.sz.2 (p61.eq (by decide +kernel))).mono (p60.sz.2) (p121.eq (by decide +kernel))⟩
set_option maxRecDepth 8000 in
theorem yo_30 {l : Launch} {Y : yNx} {i : Int} {sc : Nat → Int} {g : yM} (hC : ∀ CS : List yC, (∀ cn ∈ CS, yMet l zpTs zpcl zpZ zpRO zpMT cn) → yCl zpDL (zpZ, zpRS, zpPL, zpMT, CS, (2048, 84000), 9) (fun _ _ => False) Y) (hS : ∀ rs : List (Nat × Nat × Nat), (∀ q ∈ rs, zscr code q.1 = some q.2) → yClS rs (yL0 i) sc Y) (hJ : yKnv g) (hn : ∀ g' : yM, yKnv g' → Y 1484 (yL0 i) [] g') : Y 1160 (yL0 i) [] g := by
  refine yrunL_ok (sp := fun pc => Nat.beq pc 1484) (hC [yC_hc30, yC_hm30] (ymets_cons (yM_hc30 zpHyp) (ymets_cons (yM_hm30 zpHyp) ymets_nil))) (hS [(1161, 1, 1166), (1171, 1, 1176)] (by decide +kernel)) 11 1160 _ [] g ?_
  show ([(3, 3000), (3, 0), (3, 90), (1, i)] = yL0 i ∧ (∃ (x01 : Int), [(3, 0), (1, (sc 1))] = [(3, 0), (1, x01)] ∧ (yTy zpZ g) ∧ (∀ (r2 : Int) (g3 : yM), (yTy zpZ g3) → (yUn zpC375.2.2.2.2 g g3) → ([(3, 3000), (3, 0), (3, 90), (1, i)] = yL0 i ∧ (∃ (x05 : Int), [(3, 90), (1, (sc 1))] = [(3, 90), (1, x05)] ∧ (yTy zpZ g3) ∧ (∀ (r6 : Int) (g7 : yM), (yTy zpZ g7) → (yUn zpC626.2.2.2.2 g3 g7) → (Y 1484 [(3, 3000), (3, 0), (3, 90), (1, i)] [] g7)))))))
  refine ⟨rfl, ?_⟩
  refine ⟨_, rfl, (hJ.1.1.1), ?_⟩
  intro r2 g3 p40 p41
  refine ⟨rfl, ?_⟩
  refine ⟨_, rfl, (p40), ?_⟩
  intro r6 g7 p80 p81
  exact hn _ ⟨⟨⟨p80, (hJ.1.1.2.mono (p41.eq (by decide +kernel))).mono (p81.eq (by decide +kernel))⟩, (hJ.1.2.mono (p41.eq (by decide +kernel))).mono (p81.eq (by decide +kernel))⟩, (hJ.2.mono hJ.1.1.1.sz.2 (p41.eq (by decide +kernel))).mono (p40.sz.2) (p81.eq (by decide +kernel))⟩
set_option maxRecDepth 8000 in
theorem yo_31 {l : Launch} {Y : yNx} {i : Int} {sc : Nat → Int} {g : yM} (hC : ∀ CS : List yC, (∀ cn ∈ CS, yMet l zpTs zpcl zpZ zpRO zpMT cn) → yCl zpDL (zpZ, zpRS, zpPL, zpMT, CS, (2048, 84000), 9) (fun _ _ => False) Y) (hS : ∀ rs : List (Nat × Nat × Nat), (∀ q ∈ rs, zscr code q.1 = some q.2) → yClS rs (yL0 i) sc Y) (hJ : yKnv g) (hn : ∀ g' : yM, yKnv g' → Y 1484 (yL0 i) [] g') : Y 1183 (yL0 i) [] g := by
  refine yrunL_ok (sp := fun pc => Nat.beq pc 1484) (hC [yC_KE, yC_MK] (ymets_cons (yM_KE zpHyp) (ymets_cons (yM_MK zpHyp) ymets_nil))) (hS [(1184, 1, 1189), (1189, 2, 1194), (1199, 1, 1204), (1204, 2, 1209)] (by decide +kernel)) 13 1183 _ [] g ?_
  show ([(3, 3000), (3, 0), (3, 90), (1, i)] = yL0 i ∧ ([(3, 3000), (3, 0), (3, 90), (1, i)] = yL0 i ∧ (∃ (p1 w2 : Int), [(3, 0), (1, (sc 1)), (1, (sc 2))] = [(3, 0), (1, p1), (1, w2)] ∧ (∀ (r3 : Int) (g4 : yM), ((r3 = -1 ∧ ¬ (0 ≤ p1 ∧ p1 < 6 ∧ (w2 = -1 ∨ (0 ≤ w2 ∧ w2 < g 6 8)))) ∨ (r3 = 1 ∧ 0 ≤ p1 ∧ p1 < 6 ∧ (w2 = -1 ∨ (0 ≤ w2 ∧ w2 < g 6 8)))) → (r3 ≠ 1 → g4 = g) → (r3 = 1 → w2 = -1 → g4 = yset g 40 (Int.toNat p1) (-1)) → (r3 = 1 → w2 ≠ -1 → g4 = yset (yset g 40 (Int.toNat p1) (-2)) 41 (Int.toNat p1) w2) → ([(3, 3000), (3, 0), (3, 90), (1, i)] = yL0 i ∧ ([(3, 3000), (3, 0), (3, 90), (1, i)] = yL0 i ∧ (∃ (p6 w7 : Int), [(3, 90), (1, (sc 1)), (1, (sc 2))] = [(3, 90), (1, p6), (1, w7)] ∧ (0 ≤ g4 90 38 ∧ g4 90 38 ≤ 20) ∧ (∀ (r8 : Int) (g9 : yM), ((r8 = -1 ∧ ¬ (0 ≤ p6 ∧ p6 < 6 ∧ (w7 = -1 ∨ (0 ≤ w7 ∧ w7 < g4 90 38)))) ∨ (r8 = 1 ∧ 0 ≤ p6 ∧ p6 < 6 ∧ (w7 = -1 ∨ (0 ≤ w7 ∧ w7 < g4 90 38)))) → (r8 ≠ 1 → g9 = g4) → (r8 = 1 → g9 = yset (yset g4 121 (Int.toNat p6) w7) 122 (Int.toNat p6) 0) → (Y 1484 [(3, 3000), (3, 0), (3, 90), (1, i)] [] g9)))))))))
  refine ⟨rfl, ?_⟩
  refine ⟨rfl, ?_⟩
  refine ⟨_, _, rfl, ?_⟩
  intro r3 g4 p50 p51 p52 p53
  refine ⟨rfl, ?_⟩
  refine ⟨rfl, ?_⟩
  refine ⟨_, _, rfl, (yjm_KP0 hJ.1 p50 p51 p52 p53), ?_⟩
  intro r8 g9 p100 p101 p102
  have al := yj_KP hJ.1 p50 p51 p52 p53 p100 p101 p102
  exact hn _ ⟨al.1, yks_KP hJ al.1.1.1 p50 p51 p52 p53 p100 p101 p102⟩
set_option maxRecDepth 8000 in
theorem yo_32 {l : Launch} {Y : yNx} {i : Int} {sc : Nat → Int} {g : yM} (hC : ∀ CS : List yC, (∀ cn ∈ CS, yMet l zpTs zpcl zpZ zpRO zpMT cn) → yCl zpDL (zpZ, zpRS, zpPL, zpMT, CS, (2048, 84000), 9) (fun _ _ => False) Y) (hS : ∀ rs : List (Nat × Nat × Nat), (∀ q ∈ rs, zscr code q.1 = some q.2) → yClS rs (yL0 i) sc Y) (hJ : yKnv g) (hn : ∀ g' : yM, yKnv g' → Y 1484 (yL0 i) [] g') : Y 1216 (yL0 i) [] g := by
  refine yrunL_ok (sp := fun pc => Nat.beq pc 1484) (hC [yC_RO, yC_MO] (ymets_cons (yM_RO zpHyp) (ymets_cons (yM_MO zpHyp) ymets_nil))) (hS [(1217, 1, 1222), (1222, 2, 1227), (1227, 3, 1232), (1237, 1, 1242), (1242, 2, 1247), (1247, 3, 1252)] (by decide +kernel)) 15 1216 _ [] g ?_
  show ([(3, 3000), (3, 0), (3, 90), (1, i)] = yL0 i ∧ ([(3, 3000), (3, 0), (3, 90), (1, i)] = yL0 i ∧ ([(3, 3000), (3, 0), (3, 90), (1, i)] = yL0 i ∧ (∃ (p1 s2 n3 : Int), [(3, 0), (1, (sc 1)), (1, (sc 2)), (1, (sc 3))] = [(3, 0), (1, p1), (1, s2), (1, n3)] ∧ (∀ (r4 : Int) (g5 : yM), ((r4 = -1 ∧ ¬ (0 ≤ p1 ∧ p1 < 6 ∧ 0 ≤ s2 ∧ s2 < 5 ∧ n3 ≤ 60)) ∨ ((0 ≤ p1 ∧ p1 < 6 ∧ 0 ≤ s2 ∧ s2 < 5 ∧ n3 ≤ 60) ∧ ((r4 = -14 ∧ n3 < 0) ∨ (r4 = 1 ∧ 0 ≤ n3)))) → (r4 ≠ 1 → g5 = g) → (r4 = 1 → g5 = yzr (yset (yset g 40 (Int.toNat p1) s2) 42 (Int.toNat p1) n3) (44 + Int.toNat p1) 0 60) → ([(3, 3000), (3, 0), (3, 90), (1, i)] = yL0 i ∧ ([(3, 3000), (3, 0), (3, 90), (1, i)] = yL0 i ∧ ([(3, 3000), (3, 0), (3, 90), (1, i)] = yL0 i ∧ (∃ (p7 s8 n9 : Int), [(3, 90), (1, (sc 1)), (1, (sc 2)), (1, (sc 3))] = [(3, 90), (1, p7), (1, s8), (1, n9)] ∧ (∀ (r10 : Int) (g11 : yM), ((r10 = -1 ∧ ¬ (0 ≤ p7 ∧ p7 < 6 ∧ 0 ≤ s8 ∧ s8 < 5 ∧ n9 ≤ 60)) ∨ ((0 ≤ p7 ∧ p7 < 6 ∧ 0 ≤ s8 ∧ s8 < 5 ∧ n9 ≤ 60) ∧ ((r10 = -14 ∧ n9 < 0) ∨ (r10 = 1 ∧ 0 ≤ n9)))) → (r10 ≠ 1 → g11 = g5) → (r10 = 1 → g11 = yzr (yset (yset g5 121 (Int.toNat p7) (20 + s8)) 122 (Int.toNat p7) n9) 123 (Int.toNat (60 * p7)) 60) → (Y 1484 [(3, 3000), (3, 0), (3, 90), (1, i)] [] g11)))))))))))
  refine ⟨rfl, ?_⟩
  refine ⟨rfl, ?_⟩
  refine ⟨rfl, ?_⟩
  refine ⟨_, _, _, rfl, ?_⟩
  intro r4 g5 p60 p61 p62
  refine ⟨rfl, ?_⟩
  refine ⟨rfl, ?_⟩
  refine ⟨rfl, ?_⟩
  refine ⟨_, _, _, rfl, ?_⟩
  intro r10 g11 p120 p121 p122
  have al := yj_RW_ hJ.1 p60 p61 p62 p120 p121 p122
  exact hn _ ⟨al.1, yks_RW_ hJ al.1.1.1 p60 p61 p62 p120 p121 p122⟩
set_option maxRecDepth 8000 in
theorem yo_33 {l : Launch} {Y : yNx} {i : Int} {sc : Nat → Int} {g : yM} (hC : ∀ CS : List yC, (∀ cn ∈ CS, yMet l zpTs zpcl zpZ zpRO zpMT cn) → yCl zpDL (zpZ, zpRS, zpPL, zpMT, CS, (2048, 84000), 9) (fun _ _ => False) Y) (hS : ∀ rs : List (Nat × Nat × Nat), (∀ q ∈ rs, zscr code q.1 = some q.2) → yClS rs (yL0 i) sc Y) (hJ : yKnv g) (hn : ∀ g' : yM, yKnv g' → Y 1484 (yL0 i) [] g') : Y 1259 (yL0 i) [] g := by
  refine yrunL_ok (sp := fun pc => Nat.beq pc 1484) (hC [yC_PU, yC_MP] (ymets_cons (yM_PU zpHyp) (ymets_cons (yM_MP zpHyp) ymets_nil))) (hS [(1260, 1, 1265), (1265, 2, 1270), (1270, 3, 1275), (1279, 4, 1284), (1295, 1, 1300), (1300, 2, 1305), (1305, 3, 1310), (1314, 4, 1319)] (by decide +kernel)) 31 1259 _ [] g ?_
  show ([(3, 3000), (3, 0), (3, 90), (1, i)] = yL0 i ∧ ([(3, 3000), (3, 0), (3, 90), (1, i)] = yL0 i ∧ ([(3, 3000), (3, 0), (3, 90), (1, i)] = yL0 i ∧ ([(3, 3000), (3, 0), (3, 90), (1, i)] = yL0 i ∧ (∃ (p1 i2 v3 : Int), [(3, 0), (1, (sc 1)), (1, (sc 2)), (2, (ybl (fun x y => x ||| y) (ysh (fun x y => x <<< (y.toInt64 &&& 63)) (sc 3) 32) (ybl (fun x y => x &&& y) (sc 4) 4294967295)))] = [(3, 0), (1, p1), (1, i2), (2, v3)] ∧ (∀ p1 : Int, 0 ≤ p1 → p1 < 6 → 0 ≤ g 42 (Int.toNat p1) ∧ g 42 (Int.toNat p1) ≤ 60) ∧ (∀ (r4 : Int) (g5 : yM), (∃ r0 : Int, ((r0 = -1 ∧ ¬ (0 ≤ p1 ∧ p1 < 6)) ∨ ((0 ≤ p1 ∧ p1 < 6) ∧ ((r0 = -11 ∧ g 40 (Int.toNat p1) = -1) ∨ (g 40 (Int.toNat p1) ≠ -1 ∧ ((r0 = -12 ∧ g 40 (Int.toNat p1) = -2) ∨ (g 40 (Int.toNat p1) ≠ -2 ∧ ((r0 = -13 ∧ (i2 < 0 ∨ g 42 (Int.toNat p1) ≤ i2)) ∨ (r0 = 0 ∧ 0 ≤ i2 ∧ i2 < g 42 (Int.toNat p1))))))))) ∧ (r0 = 0 → r4 = 1 ∧ g5 = yset g (44 + Int.toNat p1) (Int.toNat i2) (ynar (g 40 (Int.toNat p1)) v3)) ∧ (r0 ≠ 0 → r4 = r0 ∧ g5 = g)) → ([(3, 3000), (3, 0), (3, 90), (1, i)] = yL0 i ∧ ([(3, 3000), (3, 0), (3, 90), (1, i)] = yL0 i ∧ ([(3, 3000), (3, 0), (3, 90), (1, i)] = yL0 i ∧ ([(3, 3000), (3, 0), (3, 90), (1, i)] = yL0 i ∧ (∃ (p7 i8 v9 : Int), [(3, 90), (1, (sc 1)), (1, (sc 2)), (2, (ybl (fun x y => x ||| y) (ysh (fun x y => x <<< (y.toInt64 &&& 63)) (sc 3) 32) (ybl (fun x y => x &&& y) (sc 4) 4294967295)))] = [(3, 90), (1, p7), (1, i8), (2, v9)] ∧ (∀ p7 : Int, 0 ≤ p7 → p7 < 6 → 0 ≤ g5 122 (Int.toNat p7) ∧ g5 122 (Int.toNat p7) ≤ 60) ∧ (∀ p7 : Int, 0 ≤ p7 → p7 < 6 → -1 ≤ g5 121 (Int.toNat p7) ∧ g5 121 (Int.toNat p7) ≤ 24) ∧ (∀ (r10 : Int) (g11 : yM), (∃ r0 : Int, ((r0 = -1 ∧ ¬ (0 ≤ p7 ∧ p7 < 6)) ∨ ((0 ≤ p7 ∧ p7 < 6) ∧ ((r0 = -11 ∧ g5 121 (Int.toNat p7) < 0) ∨ (0 ≤ g5 121 (Int.toNat p7) ∧ ((r0 = -12 ∧ g5 121 (Int.toNat p7) < 20) ∨ (20 ≤ g5 121 (Int.toNat p7) ∧ ((r0 = -13 ∧ (i8 < 0 ∨ g5 122 (Int.toNat p7) ≤ i8)) ∨ (r0 = 0 ∧ 0 ≤ i8 ∧ i8 < g5 122 (Int.toNat p7))))))))) ∧ (r0 = 0 → r10 = 1 ∧ g11 = yset g5 123 (Int.toNat (60 * p7 + i8)) (ynar (g5 121 (Int.toNat p7) - 20) v9)) ∧ (r0 ≠ 0 → r10 = r0 ∧ g11 = g5)) → (Y 1484 [(3, 3000), (3, 0), (3, 90), (1, i)] [] g11)))))))))))))
  refine ⟨rfl, ?_⟩
  refine ⟨rfl, ?_⟩
  refine ⟨rfl, ?_⟩
  refine ⟨rfl, ?_⟩
  refine ⟨_, _, _, rfl, (yjc_PT0 hJ.1), ?_⟩
  intro r4 g5 p60
  refine ⟨rfl, ?_⟩
  refine ⟨rfl, ?_⟩
  refine ⟨rfl, ?_⟩
  refine ⟨rfl, ?_⟩
  refine ⟨_, _, _, rfl, (yjm_PT0 hJ.1 p60), (yjm_PT1 hJ.1 p60), ?_⟩
  intro r10 g11 p120
  have al := yj_PT hJ.1 p60 p120
  exact hn _ ⟨al.1, yks_PT hJ al.1.1.1 p60 p120⟩
set_option maxRecDepth 8000 in
theorem yo_34 {l : Launch} {Y : yNx} {i : Int} {sc : Nat → Int} {g : yM} (hC : ∀ CS : List yC, (∀ cn ∈ CS, yMet l zpTs zpcl zpZ zpRO zpMT cn) → yCl zpDL (zpZ, zpRS, zpPL, zpMT, CS, (2048, 84000), 9) (fun _ _ => False) Y) (hS : ∀ rs : List (Nat × Nat × Nat), (∀ q ∈ rs, zscr code q.1 = some q.2) → yClS rs (yL0 i) sc Y) (hJ : yKnv g) (hn : ∀ g' : yM, yKnv g' → Y 1484 (yL0 i) [] g') : Y 1332 (yL0 i) [] g := by
  refine yrunL_ok (sp := fun pc => Nat.beq pc 1484) (hC [yC_hc34, yC_hm34] (ymets_cons (yM_hc34 zpHyp) (ymets_cons (yM_hm34 zpHyp) ymets_nil))) (hS [(1333, 1, 1338), (1338, 2, 1343), (1348, 1, 1353), (1353, 2, 1358)] (by decide +kernel)) 13 1332 _ [] g ?_
  show ([(3, 3000), (3, 0), (3, 90), (1, i)] = yL0 i ∧ ([(3, 3000), (3, 0), (3, 90), (1, i)] = yL0 i ∧ (∃ (x01 x12 : Int), [(3, 0), (1, (sc 1)), (1, (sc 2))] = [(3, 0), (1, x01), (1, x12)] ∧ (yTy zpZ g) ∧ (∀ (r3 : Int) (g4 : yM), (yTy zpZ g4) → (yUn zpC386.2.2.2.2 g g4) → ([(3, 3000), (3, 0), (3, 90), (1, i)] = yL0 i ∧ ([(3, 3000), (3, 0), (3, 90), (1, i)] = yL0 i ∧ (∃ (x06 x17 : Int), [(3, 90), (1, (sc 1)), (1, (sc 2))] = [(3, 90), (1, x06), (1, x17)] ∧ (yTy zpZ g4) ∧ (∀ (r8 : Int) (g9 : yM), (yTy zpZ g9) → (yUn zpC633.2.2.2.2 g4 g9) → (Y 1484 [(3, 3000), (3, 0), (3, 90), (1, i)] [] g9)))))))))
  refine ⟨rfl, ?_⟩
  refine ⟨rfl, ?_⟩
  refine ⟨_, _, rfl, (hJ.1.1.1), ?_⟩
  intro r3 g4 p50 p51
  refine ⟨rfl, ?_⟩
  refine ⟨rfl, ?_⟩
  refine ⟨_, _, rfl, (p50), ?_⟩
  intro r8 g9 p100 p101
  exact hn _ ⟨⟨⟨p100, (hJ.1.1.2.mono (p51.eq (by decide +kernel))).mono (p101.eq (by decide +kernel))⟩, (hJ.1.2.mono (p51.eq (by decide +kernel))).mono (p101.eq (by decide +kernel))⟩, (hJ.2.mono hJ.1.1.1.sz.2 (p51.eq (by decide +kernel))).mono (p50.sz.2) (p101.eq (by decide +kernel))⟩
set_option maxRecDepth 8000 in
theorem yo_35 {l : Launch} {Y : yNx} {i : Int} {sc : Nat → Int} {g : yM} (hC : ∀ CS : List yC, (∀ cn ∈ CS, yMet l zpTs zpcl zpZ zpRO zpMT cn) → yCl zpDL (zpZ, zpRS, zpPL, zpMT, CS, (2048, 84000), 9) (fun _ _ => False) Y) (hS : ∀ rs : List (Nat × Nat × Nat), (∀ q ∈ rs, zscr code q.1 = some q.2) → yClS rs (yL0 i) sc Y) (hJ : yKnv g) (hn : ∀ g' : yM, yKnv g' → Y 1484 (yL0 i) [] g') : Y 1365 (yL0 i) [] g := by
  refine yrunL_ok (sp := fun pc => Nat.beq pc 1484) (hC [yC_SH, yC_MS] (ymets_cons (yM_SH zpHyp) (ymets_cons (yM_MS zpHyp) ymets_nil))) (hS [(1366, 1, 1371), (1371, 2, 1376), (1376, 3, 1381), (1381, 4, 1386), (1386, 5, 1391), (1396, 1, 1401), (1401, 2, 1406), (1406, 3, 1411), (1411, 4, 1416), (1416, 5, 1421)] (by decide +kernel)) 19 1365 _ [] g ?_
  show ([(3, 3000), (3, 0), (3, 90), (1, i)] = yL0 i ∧ ([(3, 3000), (3, 0), (3, 90), (1, i)] = yL0 i ∧ ([(3, 3000), (3, 0), (3, 90), (1, i)] = yL0 i ∧ ([(3, 3000), (3, 0), (3, 90), (1, i)] = yL0 i ∧ ([(3, 3000), (3, 0), (3, 90), (1, i)] = yL0 i ∧ (∃ (p1 i2 q3 j4 n5 : Int), [(3, 0), (1, (sc 1)), (1, (sc 2)), (1, (sc 3)), (1, (sc 4)), (1, (sc 5))] = [(3, 0), (1, p1), (1, i2), (1, q3), (1, j4), (1, n5)] ∧ (∀ p1 : Int, 0 ≤ p1 → p1 < 6 → 0 ≤ g 42 (Int.toNat p1) ∧ g 42 (Int.toNat p1) ≤ 60) ∧ (∀ (r6 : Int) (g7 : yM), (∃ r0 : Int, ((r0 = -1 ∧ ¬ (0 ≤ p1 ∧ p1 < 6 ∧ 0 ≤ q3 ∧ q3 < 6)) ∨ ((0 ≤ p1 ∧ p1 < 6 ∧ 0 ≤ q3 ∧ q3 < 6) ∧ ((r0 = -11 ∧ (g 40 (Int.toNat p1) = -1 ∨ g 40 (Int.toNat q3) = -1)) ∨ (g 40 (Int.toNat p1) ≠ -1 ∧ g 40 (Int.toNat q3) ≠ -1 ∧ ((r0 = -12 ∧ (g 40 (Int.toNat p1) = -2 ∨ g 40 (Int.toNat p1) ≠ g 40 (Int.toNat q3))) ∨ (r0 = 0 ∧ g 40 (Int.toNat p1) ≠ -2 ∧ g 40 (Int.toNat p1) = g 40 (Int.toNat q3))))))) ∧ (r0 ≠ 0 → r6 = r0 ∧ g7 = g) ∧ (r0 = 0 → ¬ (0 ≤ n5 ∧ 0 ≤ i2 ∧ 0 ≤ j4 ∧ i2 + n5 ≤ g 42 (Int.toNat p1) ∧ j4 + n5 ≤ g 42 (Int.toNat q3)) → r6 = -13 ∧ g7 = g) ∧ (r0 = 0 → (0 ≤ n5 ∧ 0 ≤ i2 ∧ 0 ≤ j4 ∧ i2 + n5 ≤ g 42 (Int.toNat p1) ∧ j4 + n5 ≤ g 42 (Int.toNat q3)) → r6 = n5 ∧ g7 = ycpy g (44 + Int.toNat q3) (44 + Int.toNat p1) (Int.toNat i2) (Int.toNat j4) (Int.toNat n5))) → ([(3, 3000), (3, 0), (3, 90), (1, i)] = yL0 i ∧ ([(3, 3000), (3, 0), (3, 90), (1, i)] = yL0 i ∧ ([(3, 3000), (3, 0), (3, 90), (1, i)] = yL0 i ∧ ([(3, 3000), (3, 0), (3, 90), (1, i)] = yL0 i ∧ ([(3, 3000), (3, 0), (3, 90), (1, i)] = yL0 i ∧ (∃ (p9 i10 q11 j12 n13 : Int), [(3, 90), (1, (sc 1)), (1, (sc 2)), (1, (sc 3)), (1, (sc 4)), (1, (sc 5))] = [(3, 90), (1, p9), (1, i10), (1, q11), (1, j12), (1, n13)] ∧ (∀ p9 : Int, 0 ≤ p9 → p9 < 6 → 0 ≤ g7 122 (Int.toNat p9) ∧ g7 122 (Int.toNat p9) ≤ 60) ∧ (∀ (r14 : Int) (g15 : yM), (∃ r0 : Int, ((r0 = -1 ∧ ¬ (0 ≤ p9 ∧ p9 < 6 ∧ 0 ≤ q11 ∧ q11 < 6)) ∨ ((0 ≤ p9 ∧ p9 < 6 ∧ 0 ≤ q11 ∧ q11 < 6) ∧ ((r0 = -11 ∧ (g7 121 (Int.toNat p9) < 0 ∨ g7 121 (Int.toNat q11) < 0)) ∨ (0 ≤ g7 121 (Int.toNat p9) ∧ 0 ≤ g7 121 (Int.toNat q11) ∧ ((r0 = -12 ∧ (g7 121 (Int.toNat p9) < 20 ∨ g7 121 (Int.toNat p9) ≠ g7 121 (Int.toNat q11))) ∨ (20 ≤ g7 121 (Int.toNat p9) ∧ g7 121 (Int.toNat p9) = g7 121 (Int.toNat q11) ∧ ((r0 = -13 ∧ ¬ (0 ≤ n13 ∧ 0 ≤ i10 ∧ 0 ≤ j12 ∧ i10 + n13 ≤ g7 122 (Int.toNat p9) ∧ j12 + n13 ≤ g7 122 (Int.toNat q11))) ∨ (r0 = 0 ∧ (0 ≤ n13 ∧ 0 ≤ i10 ∧ 0 ≤ j12 ∧ i10 + n13 ≤ g7 122 (Int.toNat p9) ∧ j12 + n13 ≤ g7 122 (Int.toNat q11)))))))))) ∧ (r0 ≠ 0 → r14 = r0 ∧ g15 = g7) ∧ (r0 = 0 → r14 = n13 ∧ g15 = ycpy (ycpy g7 124 123 (Int.toNat (60 * p9 + i10)) 0 (Int.toNat n13)) 123 124 0 (Int.toNat (60 * q11 + j12)) (Int.toNat n13))) → (Y 1484 [(3, 3000), (3, 0), (3, 90), (1, i)] [] g15)))))))))))))))
  refine ⟨rfl, ?_⟩
  refine ⟨rfl, ?_⟩
  refine ⟨rfl, ?_⟩
  refine ⟨rfl, ?_⟩
  refine ⟨rfl, ?_⟩
  refine ⟨_, _, _, _, _, rfl, (yjc_SF0 hJ.1), ?_⟩
  intro r6 g7 p80
  refine ⟨rfl, ?_⟩
  refine ⟨rfl, ?_⟩
  refine ⟨rfl, ?_⟩
  refine ⟨rfl, ?_⟩
  refine ⟨rfl, ?_⟩
  refine ⟨_, _, _, _, _, rfl, (yjm_SF0 hJ.1 p80), ?_⟩
  intro r14 g15 p160
  have al := yj_SF hJ.1 p80 p160
  exact hn _ ⟨al.1, yks_SF hJ al.1.1.1 p80 p160⟩
set_option maxRecDepth 8000 in
theorem yo_36 {l : Launch} {Y : yNx} {i : Int} {sc : Nat → Int} {g : yM} (hC : ∀ CS : List yC, (∀ cn ∈ CS, yMet l zpTs zpcl zpZ zpRO zpMT cn) → yCl zpDL (zpZ, zpRS, zpPL, zpMT, CS, (2048, 84000), 9) (fun _ _ => False) Y) (hS : ∀ rs : List (Nat × Nat × Nat), (∀ q ∈ rs, zscr code q.1 = some q.2) → yClS rs (yL0 i) sc Y) (hJ : yKnv g) (hn : ∀ g' : yM, yKnv g' → Y 1484 (yL0 i) [] g') : Y 1428 (yL0 i) [] g := by
  refine yrunL_ok (sp := fun pc => Nat.beq pc 1484) (hC [yC_hc36, yC_hm36] (ymets_cons (yM_hc36 zpHyp) (ymets_cons (yM_hm36 zpHyp) ymets_nil))) (hS [(1429, 1, 1434), (1434, 2, 1439), (1444, 1, 1449), (1449, 2, 1454)] (by decide +kernel)) 13 1428 _ [] g ?_
  show ([(3, 3000), (3, 0), (3, 90), (1, i)] = yL0 i ∧ ([(3, 3000), (3, 0), (3, 90), (1, i)] = yL0 i ∧ (∃ (x01 x12 : Int), [(3, 0), (1, (sc 1)), (1, (sc 2))] = [(3, 0), (1, x01), (1, x12)] ∧ (yTy zpZ g) ∧ (∀ (r3 : Int) (g4 : yM), (yTy zpZ g4) → (yUn zpC452.2.2.2.2 g g4) → ([(3, 3000), (3, 0), (3, 90), (1, i)] = yL0 i ∧ ([(3, 3000), (3, 0), (3, 90), (1, i)] = yL0 i ∧ (∃ (x06 x17 : Int), [(3, 90), (1, (sc 1)), (1, (sc 2))] = [(3, 90), (1, x06), (1, x17)] ∧ (yTy zpZ g4) ∧ (∀ (r8 : Int) (g9 : yM), (yTy zpZ g9) → (yUn zpC643.2.2.2.2 g4 g9) → (Y 1484 [(3, 3000), (3, 0), (3, 90), (1, i)] [] g9)))))))))
  refine ⟨rfl, ?_⟩
  refine ⟨rfl, ?_⟩
  refine ⟨_, _, rfl, (hJ.1.1.1), ?_⟩
  intro r3 g4 p50 p51
  refine ⟨rfl, ?_⟩
  refine ⟨rfl, ?_⟩
  refine ⟨_, _, rfl, (p50), ?_⟩
  intro r8 g9 p100 p101
  exact hn _ ⟨⟨⟨p100, (hJ.1.1.2.mono (p51.eq (by decide +kernel))).mono (p101.eq (by decide +kernel))⟩, (hJ.1.2.mono (p51.eq (by decide +kernel))).mono (p101.eq (by decide +kernel))⟩, (hJ.2.mono hJ.1.1.1.sz.2 (p51.eq (by decide +kernel))).mono (p50.sz.2) (p101.eq (by decide +kernel))⟩
set_option maxRecDepth 8000 in
theorem yo_37 {l : Launch} {Y : yNx} {i : Int} {sc : Nat → Int} {g : yM} (hC : ∀ CS : List yC, (∀ cn ∈ CS, yMet l zpTs zpcl zpZ zpRO zpMT cn) → yCl zpDL (zpZ, zpRS, zpPL, zpMT, CS, (2048, 84000), 9) (fun _ _ => False) Y) (hS : ∀ rs : List (Nat × Nat × Nat), (∀ q ∈ rs, zscr code q.1 = some q.2) → yClS rs (yL0 i) sc Y) (hJ : yKnv g) (hn : ∀ g' : yM, yKnv g' → Y 1484 (yL0 i) [] g') : Y 1461 (yL0 i) [] g := by
  refine yrunL_ok (sp := fun pc => Nat.beq pc 1484) (hC [yC_hc37, yC_hm37] (ymets_cons (yM_hc37 zpHyp) (ymets_cons (yM_hm37 zpHyp) ymets_nil))) (hS [(1462, 1, 1467), (1472, 1, 1477)] (by decide +kernel)) 11 1461 _ [] g ?_
  show ([(3, 3000), (3, 0), (3, 90), (1, i)] = yL0 i ∧ (∃ (x01 : Int), [(3, 0), (1, (sc 1))] = [(3, 0), (1, x01)] ∧ (yTy zpZ g) ∧ (∀ (r2 : Int) (g3 : yM), (yTy zpZ g3) → (yUn zpC453.2.2.2.2 g g3) → ([(3, 3000), (3, 0), (3, 90), (1, i)] = yL0 i ∧ (∃ (x05 : Int), [(3, 90), (1, (sc 1))] = [(3, 90), (1, x05)] ∧ (yTy zpZ g3) ∧ (∀ (r6 : Int) (g7 : yM), (yTy zpZ g7) → (yUn zpC644.2.2.2.2 g3 g7) → (Y 1484 [(3, 3000), (3, 0), (3, 90), (1, i)] [] g7)))))))
  refine ⟨rfl, ?_⟩
  refine ⟨_, rfl, (hJ.1.1.1), ?_⟩
  intro r2 g3 p40 p41
  refine ⟨rfl, ?_⟩
  refine ⟨_, rfl, (p40), ?_⟩
  intro r6 g7 p80 p81
  exact hn _ ⟨⟨⟨p80, (hJ.1.1.2.mono (p41.eq (by decide +kernel))).mono (p81.eq (by decide +kernel))⟩, (hJ.1.2.mono (p41.eq (by decide +kernel))).mono (p81.eq (by decide +kernel))⟩, (hJ.2.mono hJ.1.1.1.sz.2 (p41.eq (by decide +kernel))).mono (p40.sz.2) (p81.eq (by decide +kernel))⟩
set_option maxRecDepth 8000 in
theorem yiter (l : Launch) : yIter l := by
  intro Y i sc g hC hS hJ hn
  refine yrunL_ok (sp := fun pc => Nat.beq pc 1484 || Nat.beq pc 200 || Nat.beq pc 233 || Nat.beq pc 276 || Nat.beq pc 309 || Nat.beq pc 342 || Nat.beq pc 355 || Nat.beq pc 398 || Nat.beq pc 431 || Nat.beq pc 464 || Nat.beq pc 487 || Nat.beq pc 520 || Nat.beq pc 553 || Nat.beq pc 586 || Nat.beq pc 619 || Nat.beq pc 642 || Nat.beq pc 695 || Nat.beq pc 738 || Nat.beq pc 751 || Nat.beq pc 794 || Nat.beq pc 837 || Nat.beq pc 860 || Nat.beq pc 883 || Nat.beq pc 906 || Nat.beq pc 939 || Nat.beq pc 972 || Nat.beq pc 1015 || Nat.beq pc 1058 || Nat.beq pc 1091 || Nat.beq pc 1104 || Nat.beq pc 1117 || Nat.beq pc 1160 || Nat.beq pc 1183 || Nat.beq pc 1216 || Nat.beq pc 1259 || Nat.beq pc 1332 || Nat.beq pc 1365 || Nat.beq pc 1428 || Nat.beq pc 1461) (hC [] ymets_nil) (hS [(27, 0, 30)] (by decide +kernel)) 6 27 _ [] g ?_
  show ([(3, 3000), (3, 0), (3, 90), (1, i)] = yL0 i ∧ (((38 : Nat) : Int) = (37 : Int) - 0 + 1 ∧ ((yb (fun x y => x &&& y) (sc 0) 63) < 0 ∨ 37 < (yb (fun x y => x &&& y) (sc 0) 63) → (Y 1484 [(3, 3000), (3, 0), (3, 90), (1, i)] [] g)) ∧ ((yb (fun x y => x &&& y) (sc 0) 63) = 0 → (Y 200 [(3, 3000), (3, 0), (3, 90), (1, i)] [] g)) ∧ ((yb (fun x y => x &&& y) (sc 0) 63) = 0 + 1 → (Y 233 [(3, 3000), (3, 0), (3, 90), (1, i)] [] g)) ∧ ((yb (fun x y => x &&& y) (sc 0) 63) = 0 + 1 + 1 → (Y 276 [(3, 3000), (3, 0), (3, 90), (1, i)] [] g)) ∧ ((yb (fun x y => x &&& y) (sc 0) 63) = 0 + 1 + 1 + 1 → (Y 309 [(3, 3000), (3, 0), (3, 90), (1, i)] [] g)) ∧ ((yb (fun x y => x &&& y) (sc 0) 63) = 0 + 1 + 1 + 1 + 1 → (Y 342 [(3, 3000), (3, 0), (3, 90), (1, i)] [] g)) ∧ ((yb (fun x y => x &&& y) (sc 0) 63) = 0 + 1 + 1 + 1 + 1 + 1 → (Y 355 [(3, 3000), (3, 0), (3, 90), (1, i)] [] g)) ∧ ((yb (fun x y => x &&& y) (sc 0) 63) = 0 + 1 + 1 + 1 + 1 + 1 + 1 → (Y 398 [(3, 3000), (3, 0), (3, 90), (1, i)] [] g)) ∧ ((yb (fun x y => x &&& y) (sc 0) 63) = 0 + 1 + 1 + 1 + 1 + 1 + 1 + 1 → (Y 431 [(3, 3000), (3, 0), (3, 90), (1, i)] [] g)) ∧ ((yb (fun x y => x &&& y) (sc 0) 63) = 0 + 1 + 1 + 1 + 1 + 1 + 1 + 1 + 1 → (Y 464 [(3, 3000), (3, 0), (3, 90), (1, i)] [] g)) ∧ ((yb (fun x y => x &&& y) (sc 0) 63) = 0 + 1 + 1 + 1 + 1 + 1 + 1 + 1 + 1 + 1 → (Y 487 [(3, 3000), (3, 0), (3, 90), (1, i)] [] g)) ∧ ((yb (fun x y => x &&& y) (sc 0) 63) = 0 + 1 + 1 + 1 + 1 + 1 + 1 + 1 + 1 + 1 + 1 → (Y 520 [(3, 3000), (3, 0), (3, 90), (1, i)] [] g)) ∧ ((yb (fun x y => x &&& y) (sc 0) 63) = 0 + 1 + 1 + 1 + 1 + 1 + 1 + 1 + 1 + 1 + 1 + 1 → (Y 553 [(3, 3000), (3, 0), (3, 90), (1, i)] [] g)) ∧ ((yb (fun x y => x &&& y) (sc 0) 63) = 0 + 1 + 1 + 1 + 1 + 1 + 1 + 1 + 1 + 1 + 1 + 1 + 1 → (Y 586 [(3, 3000), (3, 0), (3, 90), (1, i)] [] g)) ∧ ((yb (fun x y => x &&& y) (sc 0) 63) = 0 + 1 + 1 + 1 + 1 + 1 + 1 + 1 + 1 + 1 + 1 + 1 + 1 + 1 → (Y 619 [(3, 3000), (3, 0), (3, 90), (1, i)] [] g)) ∧ ((yb (fun x y => x &&& y) (sc 0) 63) = 0 + 1 + 1 + 1 + 1 + 1 + 1 + 1 + 1 + 1 + 1 + 1 + 1 + 1 + 1 → (Y 642 [(3, 3000), (3, 0), (3, 90), (1, i)] [] g)) ∧ ((yb (fun x y => x &&& y) (sc 0) 63) = 0 + 1 + 1 + 1 + 1 + 1 + 1 + 1 + 1 + 1 + 1 + 1 + 1 + 1 + 1 + 1 → (Y 695 [(3, 3000), (3, 0), (3, 90), (1, i)] [] g)) ∧ ((yb (fun x y => x &&& y) (sc 0) 63) = 0 + 1 + 1 + 1 + 1 + 1 + 1 + 1 + 1 + 1 + 1 + 1 + 1 + 1 + 1 + 1 + 1 → (Y 738 [(3, 3000), (3, 0), (3, 90), (1, i)] [] g)) ∧ ((yb (fun x y => x &&& y) (sc 0) 63) = 0 + 1 + 1 + 1 + 1 + 1 + 1 + 1 + 1 + 1 + 1 + 1 + 1 + 1 + 1 + 1 + 1 + 1 → (Y 751 [(3, 3000), (3, 0), (3, 90), (1, i)] [] g)) ∧ ((yb (fun x y => x &&& y) (sc 0) 63) = 0 + 1 + 1 + 1 + 1 + 1 + 1 + 1 + 1 + 1 + 1 + 1 + 1 + 1 + 1 + 1 + 1 + 1 + 1 → (Y 794 [(3, 3000), (3, 0), (3, 90), (1, i)] [] g)) ∧ ((yb (fun x y => x &&& y) (sc 0) 63) = 0 + 1 + 1 + 1 + 1 + 1 + 1 + 1 + 1 + 1 + 1 + 1 + 1 + 1 + 1 + 1 + 1 + 1 + 1 + 1 → (Y 837 [(3, 3000), (3, 0), (3, 90), (1, i)] [] g)) ∧ ((yb (fun x y => x &&& y) (sc 0) 63) = 0 + 1 + 1 + 1 + 1 + 1 + 1 + 1 + 1 + 1 + 1 + 1 + 1 + 1 + 1 + 1 + 1 + 1 + 1 + 1 + 1 → (Y 860 [(3, 3000), (3, 0), (3, 90), (1, i)] [] g)) ∧ ((yb (fun x y => x &&& y) (sc 0) 63) = 0 + 1 + 1 + 1 + 1 + 1 + 1 + 1 + 1 + 1 + 1 + 1 + 1 + 1 + 1 + 1 + 1 + 1 + 1 + 1 + 1 + 1 → (Y 883 [(3, 3000), (3, 0), (3, 90), (1, i)] [] g)) ∧ ((yb (fun x y => x &&& y) (sc 0) 63) = 0 + 1 + 1 + 1 + 1 + 1 + 1 + 1 + 1 + 1 + 1 + 1 + 1 + 1 + 1 + 1 + 1 + 1 + 1 + 1 + 1 + 1 + 1 → (Y 906 [(3, 3000), (3, 0), (3, 90), (1, i)] [] g)) ∧ ((yb (fun x y => x &&& y) (sc 0) 63) = 0 + 1 + 1 + 1 + 1 + 1 + 1 + 1 + 1 + 1 + 1 + 1 + 1 + 1 + 1 + 1 + 1 + 1 + 1 + 1 + 1 + 1 + 1 + 1 → (Y 939 [(3, 3000), (3, 0), (3, 90), (1, i)] [] g)) ∧ ((yb (fun x y => x &&& y) (sc 0) 63) = 0 + 1 + 1 + 1 + 1 + 1 + 1 + 1 + 1 + 1 + 1 + 1 + 1 + 1 + 1 + 1 + 1 + 1 + 1 + 1 + 1 + 1 + 1 + 1 + 1 → (Y 972 [(3, 3000), (3, 0), (3, 90), (1, i)] [] g)) ∧ ((yb (fun x y => x &&& y) (sc 0) 63) = 0 + 1 + 1 + 1 + 1 + 1 + 1 + 1 + 1 + 1 + 1 + 1 + 1 + 1 + 1 + 1 + 1 + 1 + 1 + 1 + 1 + 1 + 1 + 1 + 1 + 1 → (Y 1015 [(3, 3000), (3, 0), (3, 90), (1, i)] [] g)) ∧ ((yb (fun x y => x &&& y) (sc 0) 63) = 0 + 1 + 1 + 1 + 1 + 1 + 1 + 1 + 1 + 1 + 1 + 1 + 1 + 1 + 1 + 1 + 1 + 1 + 1 + 1 + 1 + 1 + 1 + 1 + 1 + 1 + 1 → (Y 1058 [(3, 3000), (3, 0), (3, 90), (1, i)] [] g)) ∧ ((yb (fun x y => x &&& y) (sc 0) 63) = 0 + 1 + 1 + 1 + 1 + 1 + 1 + 1 + 1 + 1 + 1 + 1 + 1 + 1 + 1 + 1 + 1 + 1 + 1 + 1 + 1 + 1 + 1 + 1 + 1 + 1 + 1 + 1 → (Y 1091 [(3, 3000), (3, 0), (3, 90), (1, i)] [] g)) ∧ ((yb (fun x y => x &&& y) (sc 0) 63) = 0 + 1 + 1 + 1 + 1 + 1 + 1 + 1 + 1 + 1 + 1 + 1 + 1 + 1 + 1 + 1 + 1 + 1 + 1 + 1 + 1 + 1 + 1 + 1 + 1 + 1 + 1 + 1 + 1 → (Y 1104 [(3, 3000), (3, 0), (3, 90), (1, i)] [] g)) ∧ ((yb (fun x y => x &&& y) (sc 0) 63) = 0 + 1 + 1 + 1 + 1 + 1 + 1 + 1 + 1 + 1 + 1 + 1 + 1 + 1 + 1 + 1 + 1 + 1 + 1 + 1 + 1 + 1 + 1 + 1 + 1 + 1 + 1 + 1 + 1 + 1 → (Y 1117 [(3, 3000), (3, 0), (3, 90), (1, i)] [] g)) ∧ ((yb (fun x y => x &&& y) (sc 0) 63) = 0 + 1 + 1 + 1 + 1 + 1 + 1 + 1 + 1 + 1 + 1 + 1 + 1 + 1 + 1 + 1 + 1 + 1 + 1 + 1 + 1 + 1 + 1 + 1 + 1 + 1 + 1 + 1 + 1 + 1 + 1 → (Y 1160 [(3, 3000), (3, 0), (3, 90), (1, i)] [] g)) ∧ ((yb (fun x y => x &&& y) (sc 0) 63) = 0 + 1 + 1 + 1 + 1 + 1 + 1 + 1 + 1 + 1 + 1 + 1 + 1 + 1 + 1 + 1 + 1 + 1 + 1 + 1 + 1 + 1 + 1 + 1 + 1 + 1 + 1 + 1 + 1 + 1 + 1 + 1 → (Y 1183 [(3, 3000), (3, 0), (3, 90), (1, i)] [] g)) ∧ ((yb (fun x y => x &&& y) (sc 0) 63) = 0 + 1 + 1 + 1 + 1 + 1 + 1 + 1 + 1 + 1 + 1 + 1 + 1 + 1 + 1 + 1 + 1 + 1 + 1 + 1 + 1 + 1 + 1 + 1 + 1 + 1 + 1 + 1 + 1 + 1 + 1 + 1 + 1 → (Y 1216 [(3, 3000), (3, 0), (3, 90), (1, i)] [] g)) ∧ ((yb (fun x y => x &&& y) (sc 0) 63) = 0 + 1 + 1 + 1 + 1 + 1 + 1 + 1 + 1 + 1 + 1 + 1 + 1 + 1 + 1 + 1 + 1 + 1 + 1 + 1 + 1 + 1 + 1 + 1 + 1 + 1 + 1 + 1 + 1 + 1 + 1 + 1 + 1 + 1 → (Y 1259 [(3, 3000), (3, 0), (3, 90), (1, i)] [] g)) ∧ ((yb (fun x y => x &&& y) (sc 0) 63) = 0 + 1 + 1 + 1 + 1 + 1 + 1 + 1 + 1 + 1 + 1 + 1 + 1 + 1 + 1 + 1 + 1 + 1 + 1 + 1 + 1 + 1 + 1 + 1 + 1 + 1 + 1 + 1 + 1 + 1 + 1 + 1 + 1 + 1 + 1 → (Y 1332 [(3, 3000), (3, 0), (3, 90), (1, i)] [] g)) ∧ ((yb (fun x y => x &&& y) (sc 0) 63) = 0 + 1 + 1 + 1 + 1 + 1 + 1 + 1 + 1 + 1 + 1 + 1 + 1 + 1 + 1 + 1 + 1 + 1 + 1 + 1 + 1 + 1 + 1 + 1 + 1 + 1 + 1 + 1 + 1 + 1 + 1 + 1 + 1 + 1 + 1 + 1 → (Y 1365 [(3, 3000), (3, 0), (3, 90), (1, i)] [] g)) ∧ ((yb (fun x y => x &&& y) (sc 0) 63) = 0 + 1 + 1 + 1 + 1 + 1 + 1 + 1 + 1 + 1 + 1 + 1 + 1 + 1 + 1 + 1 + 1 + 1 + 1 + 1 + 1 + 1 + 1 + 1 + 1 + 1 + 1 + 1 + 1 + 1 + 1 + 1 + 1 + 1 + 1 + 1 + 1 → (Y 1428 [(3, 3000), (3, 0), (3, 90), (1, i)] [] g)) ∧ ((yb (fun x y => x &&& y) (sc 0) 63) = 0 + 1 + 1 + 1 + 1 + 1 + 1 + 1 + 1 + 1 + 1 + 1 + 1 + 1 + 1 + 1 + 1 + 1 + 1 + 1 + 1 + 1 + 1 + 1 + 1 + 1 + 1 + 1 + 1 + 1 + 1 + 1 + 1 + 1 + 1 + 1 + 1 + 1 → (Y 1461 [(3, 3000), (3, 0), (3, 90), (1, i)] [] g)) ∧ True))
  refine ⟨rfl, ?_⟩
  refine ⟨by decide, fun h1 => ?_, fun h1 => ?_, fun h1 => ?_, fun h1 => ?_, fun h1 => ?_, fun h1 => ?_, fun h1 => ?_, fun h1 => ?_, fun h1 => ?_, fun h1 => ?_, fun h1 => ?_, fun h1 => ?_, fun h1 => ?_, fun h1 => ?_, fun h1 => ?_, fun h1 => ?_, fun h1 => ?_, fun h1 => ?_, fun h1 => ?_, fun h1 => ?_, fun h1 => ?_, fun h1 => ?_, fun h1 => ?_, fun h1 => ?_, fun h1 => ?_, fun h1 => ?_, fun h1 => ?_, fun h1 => ?_, fun h1 => ?_, fun h1 => ?_, fun h1 => ?_, fun h1 => ?_, fun h1 => ?_, fun h1 => ?_, fun h1 => ?_, fun h1 => ?_, fun h1 => ?_, fun h1 => ?_, fun h1 => ?_, trivial⟩
  · exact hn _ hJ
  · exact yo_0 hC hS hJ hn
  · exact yo_1 hC hS hJ hn
  · exact yo_2 hC hS hJ hn
  · exact yo_3 hC hS hJ hn
  · exact yo_4 hC hS hJ hn
  · exact yo_5 hC hS hJ hn
  · exact yo_6 hC hS hJ hn
  · exact yo_7 hC hS hJ hn
  · exact yo_8 hC hS hJ hn
  · exact yo_9 hC hS hJ hn
  · exact yo_10 hC hS hJ hn
  · exact yo_11 hC hS hJ hn
  · exact yo_12 hC hS hJ hn
  · exact yo_13 hC hS hJ hn
  · exact yo_14 hC hS hJ hn
  · exact yo_15 hC hS hJ hn
  · exact yo_16 hC hS hJ hn
  · exact yo_17 hC hS hJ hn
  · exact yo_18 hC hS hJ hn
  · exact yo_19 hC hS hJ hn
  · exact yo_20 hC hS hJ hn
  · exact yo_21 hC hS hJ hn
  · exact yo_22 hC hS hJ hn
  · exact yo_23 hC hS hJ hn
  · exact yo_24 hC hS hJ hn
  · exact yo_25 hC hS hJ hn
  · exact yo_26 hC hS hJ hn
  · exact yo_27 hC hS hJ hn
  · exact yo_28 hC hS hJ hn
  · exact yo_29 hC hS hJ hn
  · exact yo_30 hC hS hJ hn
  · exact yo_31 hC hS hJ hn
  · exact yo_32 hC hS hJ hn
  · exact yo_33 hC hS hJ hn
  · exact yo_34 hC hS hJ hn
  · exact yo_35 hC hS hJ hn
  · exact yo_36 hC hS hJ hn
  · exact yo_37 hC hS hJ hn
