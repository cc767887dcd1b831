/-! RULES ASKED: THE CLASS -/
theorem ySu_cnt {P : Nat → Prop} : ∀ (n : Nat) (v : Int), n ≤ 1000 → ySu P (fun _ => 1) 0 n v → (0 ≤ v ∧ v ≤ n) ∧ (v = 0 ↔ ∀ i : Nat, i < n → ¬ P i)
  | 0, v, _, h => by
    have h : v = 0 := h
    exact ⟨by omega, fun _ i hi => absurd hi (Nat.not_lt_zero i), fun _ => h⟩
  | n + 1, v, hn, h => by
    obtain ⟨u, h1, h2⟩ := h
    obtain ⟨a1, a2⟩ := ySu_cnt n u (by omega) h1
    rcases h2 with ⟨p, e⟩ | ⟨p, e⟩
    · have e : v = yw (u + 1) := e
      have e2 := yw_s (u + 1) (by omega) (by omega)
      exact ⟨by omega, fun z => by omega, fun z => absurd p (z n (by omega))⟩
    · refine ⟨by omega, fun z i hi => ?_, fun z => ?_⟩
      · by_cases c : i = n
        · rw [c]
          exact p
        · exact a2.mp (by omega) i (by omega)
      · have := a2.mpr (fun i hi => z i (by omega))
        omega
/-- bits of the first n that are so -/
def yKb (Q : Nat → Prop) : Nat → Int → Prop
  | 0, v => v = 0
  | n + 1, v => ∃ u : Int, yKb Q n u ∧ ((Q n ∧ v = yb (fun x y => x ||| y) u (yb (fun x y => x <<< (y &&& 31)) 1 (n : Int))) ∨ (¬ Q n ∧ v = u))
theorem yKb_1 {Q : Nat → Prop} {u : Int} {n : Nat} (h : yKb Q n u) (hQ : Q n) : yKb Q (n + 1) (yb (fun x y => x ||| y) u (yb (fun x y => x <<< (y &&& 31)) 1 (n : Int))) := ⟨u, h, Or.inl ⟨hQ, rfl⟩⟩
theorem yKb_0 {Q : Nat → Prop} {u : Int} {n : Nat} (h : yKb Q n u) (hQ : ¬ Q n) : yKb Q (n + 1) u := ⟨u, h, Or.inr ⟨hQ, rfl⟩⟩
/-- the best of the first n rules: which, for what -/
def yMn (C : Nat → Int → Prop) : Nat → Int → Int → Prop
  | 0, b, l => b = -1 ∧ l = 0
  | n + 1, b, l => ∃ b0 l0 v : Int, yMn C n b0 l0 ∧ C n v ∧ (((b0 < 0 ∨ v < l0) ∧ b = n ∧ l = v) ∨ (¬ (b0 < 0 ∨ v < l0) ∧ b = b0 ∧ l = l0))
theorem yMn_b {C : Nat → Int → Prop} : ∀ (n : Nat) (b l : Int), yMn C n b l → -1 ≤ b ∧ (1 ≤ n → 0 ≤ b)
  | 0, b, l, h => ⟨by have := h.1; omega, fun z => absurd z (by decide)⟩
  | n + 1, b, l, h => by
    obtain ⟨b0, l0, v, h1, h2, h3⟩ := h
    have ih := yMn_b n b0 l0 h1
    rcases h3 with ⟨-, e, -⟩ | ⟨c, e, -⟩ <;> exact ⟨by omega, fun _ => by omega⟩
theorem yMn_u {C D : Nat → Int → Prop} : ∀ (n : Nat) (b l c k : Int), (∀ i : Nat, i < n → ∀ v w : Int, C i v → D i w → v = w) → yMn C n b l → yMn D n c k → b = c ∧ l = k
  | 0, b, l, c, k, _, h1, h2 => ⟨h1.1.trans h2.1.symm, h1.2.trans h2.2.symm⟩
  | n + 1, b, l, c, k, hu, h1, h2 => by
    obtain ⟨b0, l0, v, a1, a2, a3⟩ := h1
    obtain ⟨c0, k0, w, d1, d2, d3⟩ := h2
    obtain ⟨e1, e2⟩ := yMn_u n b0 l0 c0 k0 (fun i hi => hu i (by omega)) a1 d1
    have e3 := hu n (by omega) v w a2 d2
    subst e1 e2 e3
    rcases a3 with ⟨x1, x2, x3⟩ | ⟨x1, x2, x3⟩
    · rcases d3 with ⟨y1, y2, y3⟩ | ⟨y1, y2, y3⟩
      · exact ⟨x2.trans y2.symm, x3.trans y3.symm⟩
      · exact absurd x1 y1
    · rcases d3 with ⟨y1, y2, y3⟩ | ⟨y1, y2, y3⟩
      · exact absurd y1 x1
      · exact ⟨x2.trans y2.symm, x3.trans y3.symm⟩
/-- what a rule costs; days that have comers and no break -/
def yCs (g : yM) (n : Nat) (v : Int) : Prop := ∃ u : Int, ySu (yBr g (n : Int)) (fun _ => 1) 0 (Int.toNat (g 1 1)) u ∧ v = yw (yw (10 * u) + g 29 n)
def yDy (g : yM) (a : Int) (d : Nat) : Prop := (∃ i : Nat, (i : Int) < g 1 1 ∧ g (50 + i) 0 = d) ∧ ∀ i : Nat, (i : Int) < g 1 1 → ¬ (g (50 + i) 0 = d ∧ yBr g a i)
theorem yCs_fr {g m : yM} (hT : yTy zpZ g) (f : yFq g m) {n : Nat} {v : Int} : yCs m n v ↔ yCs g n v := by
  have e : yBr m (n : Int) = yBr g (n : Int) := funext fun c => propext (yBr_fr hT f (n : Int) c)
  unfold yCs
  rw [e, f 1 1 (by decide) (by decide) (by decide), f 29 n (by decide) (by decide) (by decide)]
def yP_CNX : yPT := fun as g K => ∃ (a v t : Int), as = [(3, 0), (1, a), (1, v), (1, t)] ∧ (yTy zpZ g) ∧ (∀ (r : Int) (g' : yM), (¬ (0 ≤ a ∧ a < g 6 8 ∧ 0 ≤ (yb (fun x y => x / y) v 10) ∧ (yb (fun x y => x / y) v 10) < 4 ∧ 0 ≤ (yb (fun x y => x - x / y * y) v 10) ∧ (yb (fun x y => x - x / y * y) v 10) < 4 ∧ 0 ≤ t ∧ t < 720) → r = -1 ∧ g' = g) → ((0 ≤ a ∧ a < g 6 8 ∧ 0 ≤ (yb (fun x y => x / y) v 10) ∧ (yb (fun x y => x / y) v 10) < 4 ∧ 0 ≤ (yb (fun x y => x - x / y * y) v 10) ∧ (yb (fun x y => x - x / y * y) v 10) < 4 ∧ 0 ≤ t ∧ t < 720) → yTy zpZ g' ∧ yFq g g' ∧ ∃ s : Int, yNx1 g a (yb (fun x y => x / y) v 10) (yb (fun x y => x - x / y * y) v 10) t (Int.toNat (g 1 1)) r s) → K [(1, r)] g')
def yC_CNX : yC := (22, (6, 166), yP_CNX)
set_option maxRecDepth 8000 in
theorem yv_CNX {K : List yV → yM → Prop} {Y : yNx} {g : yM} {a v t : Int} (hY : yCl zpD22 (zpZ, zpRS, zpP0, zpMT, [yC_HS, yC_W, yC_NXT], (6, 166), 1) K Y) (hr_a : -2147483648 ≤ a ∧ a ≤ 2147483647) (hr_v : -2147483648 ≤ v ∧ v ≤ 2147483647) (hr_t : -2147483648 ≤ t ∧ t ≤ 2147483647) (hp0 : yTy zpZ g) (hK : ∀ (r : Int) (g' : yM), (¬ (0 ≤ a ∧ a < g 6 8 ∧ 0 ≤ (yb (fun x y => x / y) v 10) ∧ (yb (fun x y => x / y) v 10) < 4 ∧ 0 ≤ (yb (fun x y => x - x / y * y) v 10) ∧ (yb (fun x y => x - x / y * y) v 10) < 4 ∧ 0 ≤ t ∧ t < 720) → r = -1 ∧ g' = g) → ((0 ≤ a ∧ a < g 6 8 ∧ 0 ≤ (yb (fun x y => x / y) v 10) ∧ (yb (fun x y => x / y) v 10) < 4 ∧ 0 ≤ (yb (fun x y => x - x / y * y) v 10) ∧ (yb (fun x y => x - x / y * y) v 10) < 4 ∧ 0 ≤ t ∧ t < 720) → yTy zpZ g' ∧ yFq g g' ∧ ∃ s : Int, yNx1 g a (yb (fun x y => x / y) v 10) (yb (fun x y => x - x / y * y) v 10) t (Int.toNat (g 1 1)) r s) → K [(1, r)] g') : Y 0 [(3, 0), (1, a), (1, v), (1, t), (0, 0), (0, 0)] [] g := by
  refine yrun_ok (sp := fun pc => false) hY 33 0 _ [] g ?_
  show ((10 : Int) ≠ 0 ∧ ((10 : Int) ≠ 0 ∧ (∃ (w1 : Int), [(3, 6), (1, a)] = [(3, 6), (1, w1)] ∧ (∀ (r2 : Int), ((r2 = 1 ∧ 0 ≤ w1 ∧ w1 < g 6 8) ∨ (r2 = 0 ∧ (w1 < 0 ∨ g 6 8 ≤ w1))) → ((r2 = 0 → (K [(1, (-1))] g)) ∧ (¬ (r2 = 0) → (∃ (v5 b6 : Int), [(1, (yb (fun x y => x / y) v 10)), (1, 4)] = [(1, v5), (1, b6)] ∧ (∀ (r7 : Int), ((r7 = 1 ∧ 0 ≤ v5 ∧ v5 < b6) ∨ (r7 = 0 ∧ (v5 < 0 ∨ b6 ≤ v5))) → ((r7 = 0 → (K [(1, (-1))] g)) ∧ (¬ (r7 = 0) → (∃ (v10 b11 : Int), [(1, (yb (fun x y => x - x / y * y) v 10)), (1, 4)] = [(1, v10), (1, b11)] ∧ (∀ (r12 : Int), ((r12 = 1 ∧ 0 ≤ v10 ∧ v10 < b11) ∨ (r12 = 0 ∧ (v10 < 0 ∨ b11 ≤ v10))) → ((r12 = 0 → (K [(1, (-1))] g)) ∧ (¬ (r12 = 0) → (∃ (v15 b16 : Int), [(1, t), (1, 720)] = [(1, v15), (1, b16)] ∧ (∀ (r17 : Int), ((r17 = 1 ∧ 0 ≤ v15 ∧ v15 < b16) ∨ (r17 = 0 ∧ (v15 < 0 ∨ b16 ≤ v15))) → ((r17 ≠ 0 → (∃ (a20 d21 e22 t23 : Int), [(3, 6), (1, a), (1, (yb (fun x y => x / y) v 10)), (1, (yb (fun x y => x - x / y * y) v 10)), (1, t)] = [(3, 6), (1, a20), (1, d21), (1, e22), (1, t23)] ∧ (yTy zpZ g) ∧ (0 ≤ a20 ∧ a20 < 20) ∧ (∀ (r24 : Int) (g25 : yM), (∃ s : Int, yNx1 g a20 d21 e22 t23 (Int.toNat (g 1 1)) r24 s) → (yTy zpZ g25) → (yFq g g25) → (K [(1, r24)] g25)))) ∧ (¬ (r17 ≠ 0) → (K [(1, (-1))] g)))))))))))))))))))
  refine ⟨(by have r68 := hp0.fO (q := 6) (j := 8) (List.mem_of_getElem? (i := 6) rfl) rfl; have q1 := yb_rng (fun x y => x / y) v 10; have q2 := yb_rng (fun x y => x - x / y * y) v 10; have q3 := yq10 hr_v; omega), ?_⟩
  refine ⟨(by have r68 := hp0.fO (q := 6) (j := 8) (List.mem_of_getElem? (i := 6) rfl) rfl; have q1 := yb_rng (fun x y => x / y) v 10; have q2 := yb_rng (fun x y => x - x / y * y) v 10; have q3 := yq10 hr_v; omega), ?_⟩
  refine ⟨_, rfl, ?_⟩
  intro r2 p30
  refine ⟨fun h4 => ?_, fun h4 => ?_⟩
  · have r68 := hp0.fO (q := 6) (j := 8) (List.mem_of_getElem? (i := 6) rfl) rfl
    have q1 := yb_rng (fun x y => x / y) v 10
    have q2 := yb_rng (fun x y => x - x / y * y) v 10
    have q3 := yq10 hr_v
    exact hK _ _ (fun _ => ⟨rfl, rfl⟩) (fun h => absurd h (by omega))
  · refine ⟨_, _, rfl, ?_⟩
    intro r7 p80
    refine ⟨fun h9 => ?_, fun h9 => ?_⟩
    · have r68 := hp0.fO (q := 6) (j := 8) (List.mem_of_getElem? (i := 6) rfl) rfl
      have q1 := yb_rng (fun x y => x / y) v 10
      have q2 := yb_rng (fun x y => x - x / y * y) v 10
      have q3 := yq10 hr_v
      exact hK _ _ (fun _ => ⟨rfl, rfl⟩) (fun h => absurd h (by omega))
    · refine ⟨_, _, rfl, ?_⟩
      intro r12 p130
      refine ⟨fun h14 => ?_, fun h14 => ?_⟩
      · have r68 := hp0.fO (q := 6) (j := 8) (List.mem_of_getElem? (i := 6) rfl) rfl
        have q1 := yb_rng (fun x y => x / y) v 10
        have q2 := yb_rng (fun x y => x - x / y * y) v 10
        have q3 := yq10 hr_v
        exact hK _ _ (fun _ => ⟨rfl, rfl⟩) (fun h => absurd h (by omega))
      · refine ⟨_, _, rfl, ?_⟩
        intro r17 p180
        refine ⟨fun h19 => ?_, fun h19 => ?_⟩
        · refine ⟨_, _, _, _, rfl, (hp0), (by have r68 := hp0.fO (q := 6) (j := 8) (List.mem_of_getElem? (i := 6) rfl) rfl; have q1 := yb_rng (fun x y => x / y) v 10; have q2 := yb_rng (fun x y => x - x / y * y) v 10; have q3 := yq10 hr_v; omega), ?_⟩
          intro r24 g25 p260 p261 p262
          have r68 := hp0.fO (q := 6) (j := 8) (List.mem_of_getElem? (i := 6) rfl) rfl
          have q1 := yb_rng (fun x y => x / y) v 10
          have q2 := yb_rng (fun x y => x - x / y * y) v 10
          have q3 := yq10 hr_v
          exact hK _ _ (fun h => absurd (by omega) h) (fun _ => ⟨p261, p262, p260⟩)
        · have r68 := hp0.fO (q := 6) (j := 8) (List.mem_of_getElem? (i := 6) rfl) rfl
          have q1 := yb_rng (fun x y => x / y) v 10
          have q2 := yb_rng (fun x y => x - x / y * y) v 10
          have q3 := yq10 hr_v
          exact hK _ _ (fun _ => ⟨rfl, rfl⟩) (fun h => absurd h (by omega))
theorem yM_CNX {l : Launch} {Ts : List Cond} {cl : List vw_C} {RO : zRO} (H : zHyp Ts cl RO) : yMet l Ts cl zpZ RO zpMT yC_CNX := ymet_of2 H.1 H.2.1 zpDj H.2.2.1 yRb H.p0 (ymets_cons (yM_HS H) (ymets_cons (yM_W H) (ymets_cons (yM_NXT H) ymets_nil))) (zrc1 rfl) (plainFor_of_name zpy0) zpDk22 (fun as g K Y h hA hY => by
  obtain ⟨a, v, t, rfl, hp0, hK⟩ := h
  exact yv_CNX hY (yAr1 hA (by simp)) (yAr1 hA (by simp)) (yAr1 hA (by simp)) hp0 hK)
def yP_CBR : yPT := fun as g K => ∃ (a d k : Int), as = [(3, 0), (1, a), (1, d), (1, k)] ∧ (yTy zpZ g) ∧ (∀ (r : Int) (g' : yM), (¬ (0 ≤ a ∧ a < g 6 8 ∧ 0 ≤ d ∧ d < 4 ∧ -1 ≤ k) → r = -1 ∧ g' = g) → ((0 ≤ a ∧ a < g 6 8 ∧ 0 ≤ d ∧ d < 4 ∧ -1 ≤ k) → yTy zpZ g' ∧ yFq g g' ∧ (k = -1 → ySu (fun i => g (50 + i) 0 = d ∧ yBr g a i) (fun _ => 1) 0 (Int.toNat (g 1 1)) r) ∧ (k ≠ -1 → yThr (fun i => g (50 + i) 0 = d ∧ yBr g a i) k (Int.toNat (g 1 1)) r)) → K [(1, r)] g')
def yC_CBR : yC := (3, (8, 214), yP_CBR)
set_option maxRecDepth 8000 in
theorem yv_CBR {K : List yV → yM → Prop} {Y : yNx} {g : yM} {a d k : Int} (hY : yCl zpD3 (zpZ, zpRS, zpP0, zpMT, [yC_HS, yC_W, yC_BKO, yC_BKN], (8, 214), 1) K Y) (hr_a : -2147483648 ≤ a ∧ a ≤ 2147483647) (hr_d : -2147483648 ≤ d ∧ d ≤ 2147483647) (hr_k : -2147483648 ≤ k ∧ k ≤ 2147483647) (hp0 : yTy zpZ g) (hK : ∀ (r : Int) (g' : yM), (¬ (0 ≤ a ∧ a < g 6 8 ∧ 0 ≤ d ∧ d < 4 ∧ -1 ≤ k) → r = -1 ∧ g' = g) → ((0 ≤ a ∧ a < g 6 8 ∧ 0 ≤ d ∧ d < 4 ∧ -1 ≤ k) → yTy zpZ g' ∧ yFq g g' ∧ (k = -1 → ySu (fun i => g (50 + i) 0 = d ∧ yBr g a i) (fun _ => 1) 0 (Int.toNat (g 1 1)) r) ∧ (k ≠ -1 → yThr (fun i => g (50 + i) 0 = d ∧ yBr g a i) k (Int.toNat (g 1 1)) r)) → K [(1, r)] g') : Y 0 [(3, 0), (1, a), (1, d), (1, k)] [] g := by
  refine yrun_ok (sp := fun pc => false) hY 22 0 _ [] g ?_
  show (∃ (w1 : Int), [(3, 6), (1, a)] = [(3, 6), (1, w1)] ∧ (∀ (r2 : Int), ((r2 = 1 ∧ 0 ≤ w1 ∧ w1 < g 6 8) ∨ (r2 = 0 ∧ (w1 < 0 ∨ g 6 8 ≤ w1))) → ((r2 = 0 → (K [(1, (-1))] g)) ∧ (¬ (r2 = 0) → (∃ (v5 b6 : Int), [(1, d), (1, 4)] = [(1, v5), (1, b6)] ∧ (∀ (r7 : Int), ((r7 = 1 ∧ 0 ≤ v5 ∧ v5 < b6) ∨ (r7 = 0 ∧ (v5 < 0 ∨ b6 ≤ v5))) → ((r7 = 0 → (K [(1, (-1))] g)) ∧ (¬ (r7 = 0) → (((-1) ≤ k → ((k ≠ (-1) → (∃ (a12 d13 k14 : Int), [(3, 6), (1, a), (1, d), (1, k)] = [(3, 6), (1, a12), (1, d13), (1, k14)] ∧ (yTy zpZ g) ∧ (0 ≤ a12 ∧ a12 < 20) ∧ (∀ (r15 : Int) (g16 : yM), (yThr (fun i => g (50 + i) 0 = d13 ∧ yBr g a12 i) k14 (Int.toNat (g 1 1)) r15) → (yTy zpZ g16) → (yFq g g16) → (K [(1, r15)] g16)))) ∧ (¬ (k ≠ (-1)) → (∃ (a18 d19 : Int), [(3, 6), (1, a), (1, d)] = [(3, 6), (1, a18), (1, d19)] ∧ (yTy zpZ g) ∧ (0 ≤ a18 ∧ a18 < 20) ∧ (∀ (r20 : Int) (g21 : yM), (ySu (fun i => g (50 + i) 0 = d19 ∧ yBr g a18 i) (fun _ => 1) 0 (Int.toNat (g 1 1)) r20) → (yTy zpZ g21) → (yFq g g21) → (K [(1, r20)] g21)))))) ∧ (¬ ((-1) ≤ k) → (K [(1, (-1))] g)))))))))))
  refine ⟨_, rfl, ?_⟩
  intro r2 p30
  refine ⟨fun h4 => ?_, fun h4 => ?_⟩
  · have r68 := hp0.fO (q := 6) (j := 8) (List.mem_of_getElem? (i := 6) rfl) rfl
    exact hK _ _ (fun _ => ⟨rfl, rfl⟩) (fun h => absurd h (by omega))
  · refine ⟨_, _, rfl, ?_⟩
    intro r7 p80
    refine ⟨fun h9 => ?_, fun h9 => ?_⟩
    · have r68 := hp0.fO (q := 6) (j := 8) (List.mem_of_getElem? (i := 6) rfl) rfl
      exact hK _ _ (fun _ => ⟨rfl, rfl⟩) (fun h => absurd h (by omega))
    · refine ⟨fun h10 => ?_, fun h10 => ?_⟩
      · refine ⟨fun h11 => ?_, fun h11 => ?_⟩
        · refine ⟨_, _, _, rfl, (hp0), (by have r68 := hp0.fO (q := 6) (j := 8) (List.mem_of_getElem? (i := 6) rfl) rfl; omega), ?_⟩
          intro r15 g16 p170 p171 p172
          have r68 := hp0.fO (q := 6) (j := 8) (List.mem_of_getElem? (i := 6) rfl) rfl
          exact hK _ _ (fun h => absurd (by omega) h) (fun _ => ⟨p171, p172, fun h => absurd h (by omega), fun _ => p170⟩)
        · refine ⟨_, _, rfl, (hp0), (by have r68 := hp0.fO (q := 6) (j := 8) (List.mem_of_getElem? (i := 6) rfl) rfl; omega), ?_⟩
          intro r20 g21 p220 p221 p222
          have r68 := hp0.fO (q := 6) (j := 8) (List.mem_of_getElem? (i := 6) rfl) rfl
          exact hK _ _ (fun h => absurd (by omega) h) (fun _ => ⟨p221, p222, fun _ => p220, fun h => absurd (by omega) h⟩)
      · have r68 := hp0.fO (q := 6) (j := 8) (List.mem_of_getElem? (i := 6) rfl) rfl
        exact hK _ _ (fun _ => ⟨rfl, rfl⟩) (fun h => absurd h (by omega))
theorem yM_CBR {l : Launch} {Ts : List Cond} {cl : List vw_C} {RO : zRO} (H : zHyp Ts cl RO) : yMet l Ts cl zpZ RO zpMT yC_CBR := ymet_of2 H.1 H.2.1 zpDj H.2.2.1 yRb H.p0 (ymets_cons (yM_HS H) (ymets_cons (yM_W H) (ymets_cons (yM_BKO H) (ymets_cons (yM_BKN H) ymets_nil)))) (zrc1 rfl) (plainFor_of_name zpy0) zpDk3 (fun as g K Y h hA hY => by
  obtain ⟨a, d, k, rfl, hp0, hK⟩ := h
  exact yv_CBR hY (yAr1 hA (by simp)) (yAr1 hA (by simp)) (yAr1 hA (by simp)) hp0 hK)
def yP_CFI : yPT := fun as g K => ∃ (h : Int), as = [(3, 0), (1, h)] ∧ (yTy zpZ g) ∧ (∀ (r : Int) (g' : yM), (¬ (0 ≤ h ∧ h < 2) → r = -1 ∧ g' = g) → (0 ≤ h ∧ h < 2 → g 6 8 = 0 → r = -5 ∧ g' = g) → (0 ≤ h ∧ h < 2 → g 6 8 ≠ 0 → yTy zpZ g' ∧ yFq g g' ∧ ∃ b l : Int, yMn (yCs g) (Int.toNat (g 6 8)) b l ∧ (h = 0 → r = b) ∧ (h = 1 → r = l)) → K [(1, r)] g')
def yC_CFI : yC := (13, (8, 212), yP_CFI)
set_option maxRecDepth 8000 in
theorem yl_CFI {K : List yV → yM → Prop} {Y : yNx} {g : yM} {h : Int} (hY : yCl zpD13 (zpZ, zpRS, zpP0, zpMT, [yC_W, yC_CSO], (8, 212), 1) K Y) (hG : yTy zpZ g) (hh : 0 ≤ h ∧ h < 2) (hK : ∀ (r b l : Int) (m : yM), yMn (yCs g) (Int.toNat (g 6 8)) b l → (h = 0 → r = b) → (h = 1 → r = l) → yTy zpZ m → yFq g m → K [(1, r)] m) : ∀ (n : Nat) (i : Int), i + n = g 6 8 → 1 ≤ i → ∀ (b l : Int) (m : yM) (w5 : yV), yMn (yCs g) (Int.toNat i) b l → yTy zpZ m → yFq g m → Y 37 [(3, 0), (1, h), (1, b), (1, l), (1, i), w5] [] m := by
  intro n
  induction n with
  | zero =>
    intro i hd h0 b l m w5 hu hT f
    have r68 := hG.fO (q := 6) (j := 8) (List.mem_of_getElem? (i := 6) rfl) rfl
    have e68 : m 6 8 = g 6 8 := f 6 8 (by decide) (by decide) (by decide)
    have hb := yMn_b _ b l hu
    refine yrun_ok (sp := fun pc => Nat.beq pc 37) hY 20 37 _ [] m ?_
    show (((m 6 8) ≤ i → ((h ≠ 0 → (K [(1, l)] m)) ∧ (¬ (h ≠ 0) → (K [(1, b)] m)))) ∧ (¬ ((m 6 8) ≤ i) → (∃ (a3 : Int), [(3, 6), (1, i)] = [(3, 6), (1, a3)] ∧ (yTy zpZ m) ∧ (0 ≤ a3 ∧ a3 < 20) ∧ (∀ (r4 : Int) (g5 : yM), (∃ u : Int, ySu (yBr m a3) (fun _ => 1) 0 (Int.toNat (m 1 1)) u ∧ r4 = yw (yw (10 * u) + m 29 (Int.toNat a3))) → (yTy zpZ g5) → (yFq m g5) → ((l ≤ r4 → (Y 37 [(3, 0), (1, h), (1, b), (1, l), (1, (yw (i + 1))), (1, r4)] [] g5)) ∧ (¬ (l ≤ r4) → (Y 37 [(3, 0), (1, h), (1, i), (1, r4), (1, (yw (i + 1))), (1, r4)] [] g5)))))))
    refine ⟨fun h1 => ?_, fun h1 => ?_⟩
    · refine ⟨fun h2 => ?_, fun h2 => ?_⟩
      · obtain rfl : i = g 6 8 := by omega
        exact hK _ b l m hu (fun h => absurd h (by omega)) (fun _ => rfl) hT f
      · obtain rfl : i = g 6 8 := by omega
        exact hK _ b l m hu (fun _ => rfl) (fun h => absurd h (by omega)) hT f
    · refine ⟨_, rfl, (by omega), (by omega), ?_⟩
      intro r4 g5 p60 p61 p62
      refine ⟨fun h7 => ?_, fun h7 => ?_⟩
      · omega
      · omega
  | succ n ih =>
    intro i hd h0 b l m w5 hu hT f
    have r68 := hG.fO (q := 6) (j := 8) (List.mem_of_getElem? (i := 6) rfl) rfl
    have e68 : m 6 8 = g 6 8 := f 6 8 (by decide) (by decide) (by decide)
    have hb := yMn_b _ b l hu
    refine yrun_ok (sp := fun pc => Nat.beq pc 37) hY 20 37 _ [] m ?_
    show (((m 6 8) ≤ i → ((h ≠ 0 → (K [(1, l)] m)) ∧ (¬ (h ≠ 0) → (K [(1, b)] m)))) ∧ (¬ ((m 6 8) ≤ i) → (∃ (a3 : Int), [(3, 6), (1, i)] = [(3, 6), (1, a3)] ∧ (yTy zpZ m) ∧ (0 ≤ a3 ∧ a3 < 20) ∧ (∀ (r4 : Int) (g5 : yM), (∃ u : Int, ySu (yBr m a3) (fun _ => 1) 0 (Int.toNat (m 1 1)) u ∧ r4 = yw (yw (10 * u) + m 29 (Int.toNat a3))) → (yTy zpZ g5) → (yFq m g5) → ((l ≤ r4 → (Y 37 [(3, 0), (1, h), (1, b), (1, l), (1, (yw (i + 1))), (1, r4)] [] g5)) ∧ (¬ (l ≤ r4) → (Y 37 [(3, 0), (1, h), (1, i), (1, r4), (1, (yw (i + 1))), (1, r4)] [] g5)))))))
    refine ⟨fun h1 => ?_, fun h1 => ?_⟩
    · refine ⟨fun h2 => ?_, fun h2 => ?_⟩
      · omega
      · omega
    · refine ⟨_, rfl, (hT), (by omega), ?_⟩
      intro r4 g5 p60 p61 p62
      refine ⟨fun h7 => ?_, fun h7 => ?_⟩
      · have hC : yCs g (Int.toNat i) r4 := by
          rw [← yCs_fr hG f]
          unfold yCs
          rw [show ((Int.toNat i : Nat) : Int) = i by omega]
          exact p60
        have yi : yw (i + 1) = i + 1 := yw_s (i + 1) (by omega) (by omega)
        rw [yi]
        refine ih (i + 1) (by omega) (by omega) _ _ g5 _ ?_ p61 (f.tr p62)
        rw [show Int.toNat (i + 1) = Int.toNat i + 1 by omega]
        exact ⟨b, l, _, hu, hC, Or.inr ⟨by omega, rfl, rfl⟩⟩
      · have hC : yCs g (Int.toNat i) r4 := by
          rw [← yCs_fr hG f]
          unfold yCs
          rw [show ((Int.toNat i : Nat) : Int) = i by omega]
          exact p60
        have yi : yw (i + 1) = i + 1 := yw_s (i + 1) (by omega) (by omega)
        rw [yi]
        refine ih (i + 1) (by omega) (by omega) _ _ g5 _ ?_ p61 (f.tr p62)
        rw [show Int.toNat (i + 1) = Int.toNat i + 1 by omega]
        exact ⟨b, l, _, hu, hC, Or.inl ⟨by omega, by omega, rfl⟩⟩
set_option maxRecDepth 8000 in
theorem yv_CFI {K : List yV → yM → Prop} {Y : yNx} {g : yM} {h : Int} (hY : yCl zpD13 (zpZ, zpRS, zpP0, zpMT, [yC_W, yC_CSO], (8, 212), 1) K Y) (hr_h : -2147483648 ≤ h ∧ h ≤ 2147483647) (hp0 : yTy zpZ g) (hK : ∀ (r : Int) (g' : yM), (¬ (0 ≤ h ∧ h < 2) → r = -1 ∧ g' = g) → (0 ≤ h ∧ h < 2 → g 6 8 = 0 → r = -5 ∧ g' = g) → (0 ≤ h ∧ h < 2 → g 6 8 ≠ 0 → yTy zpZ g' ∧ yFq g g' ∧ ∃ b l : Int, yMn (yCs g) (Int.toNat (g 6 8)) b l ∧ (h = 0 → r = b) ∧ (h = 1 → r = l)) → K [(1, r)] g') : Y 0 [(3, 0), (1, h), (0, 0), (0, 0), (0, 0), (0, 0)] [] g := by
  refine yrun_ok (sp := fun pc => Nat.beq pc 37) hY 18 0 _ [] g ?_
  show (∃ (v1 b2 : Int), [(1, h), (1, 2)] = [(1, v1), (1, b2)] ∧ (∀ (r3 : Int), ((r3 = 1 ∧ 0 ≤ v1 ∧ v1 < b2) ∨ (r3 = 0 ∧ (v1 < 0 ∨ b2 ≤ v1))) → ((r3 ≠ 0 → (((g 6 8) ≠ 0 → (∃ (a7 : Int), [(3, 6), (1, 0)] = [(3, 6), (1, a7)] ∧ (yTy zpZ g) ∧ (0 ≤ a7 ∧ a7 < 20) ∧ (∀ (r8 : Int) (g9 : yM), (∃ u : Int, ySu (yBr g a7) (fun _ => 1) 0 (Int.toNat (g 1 1)) u ∧ r8 = yw (yw (10 * u) + g 29 (Int.toNat a7))) → (yTy zpZ g9) → (yFq g g9) → (Y 37 [(3, 0), (1, h), (1, 0), (1, r8), (1, 1), (0, 0)] [] g9)))) ∧ (¬ ((g 6 8) ≠ 0) → (K [(1, (-5))] g)))) ∧ (¬ (r3 ≠ 0) → (K [(1, (-1))] g)))))
  refine ⟨_, _, rfl, ?_⟩
  intro r3 p40
  refine ⟨fun h5 => ?_, fun h5 => ?_⟩
  · refine ⟨fun h6 => ?_, fun h6 => ?_⟩
    · refine ⟨_, rfl, (hp0), (by have r68 := hp0.fO (q := 6) (j := 8) (List.mem_of_getElem? (i := 6) rfl) rfl; omega), ?_⟩
      intro r8 g9 p100 p101 p102
      have r68 := hp0.fO (q := 6) (j := 8) (List.mem_of_getElem? (i := 6) rfl) rfl
      exact yl_CFI hY hp0 (by omega) (fun r b l m h1 h2 h3 h4 h5 => hK r m (fun h => absurd (by omega) h) (fun _ h => absurd h (by omega)) (fun _ _ => ⟨h4, h5, b, l, h1, h2, h3⟩)) (Int.toNat (g 6 8 - 1)) 1 (by omega) (by decide) 0 r8 g9 _ ⟨-1, 0, _, ⟨rfl, rfl⟩, p100, Or.inl ⟨Or.inl (by decide), rfl, rfl⟩⟩ p101 p102
    · exact hK _ _ (fun h => absurd (by omega) h) (fun _ _ => ⟨rfl, rfl⟩) (fun _ h => absurd (by omega) h)
  · exact hK _ _ (fun _ => ⟨rfl, rfl⟩) (fun h => absurd h (by omega)) (fun h => absurd h (by omega))
theorem yM_CFI {l : Launch} {Ts : List Cond} {cl : List vw_C} {RO : zRO} (H : zHyp Ts cl RO) : yMet l Ts cl zpZ RO zpMT yC_CFI := ymet_of2 H.1 H.2.1 zpDj H.2.2.1 yRb H.p0 (ymets_cons (yM_W H) (ymets_cons (yM_CSO H) ymets_nil)) (zrc1 rfl) (plainFor_of_name zpy0) zpDk13 (fun as g K Y h hA hY => by
  obtain ⟨h, rfl, hp0, hK⟩ := h
  exact yv_CFI hY (yAr1 hA (by simp)) hp0 hK)
def yP_HCO : yPT := fun as g K => ∃ (d : Int), as = [(3, 1), (1, d)] ∧ (0 ≤ g 1 1 ∧ g 1 1 ≤ 40) ∧ (∀ (r : Int), ((r = 1 ∧ (∃ i : Nat, (i : Int) < g 1 1 ∧ g (50 + i) 0 = d)) ∨ (r = 0 ∧ ¬ (∃ i : Nat, (i : Int) < g 1 1 ∧ g (50 + i) 0 = d))) → K [(1, r)] g)
def yC_HCO : yC := (123, (1, 40), yP_HCO)
set_option maxRecDepth 8000 in
theorem yl_HCO {K : List yV → yM → Prop} {Y : yNx} {g : yM} {d : Int} (hY : yCl zpD123 (zpZ, zpRS, zpP11, zpMT, [], (1, 40), 2) K Y) (hz : 0 ≤ g 1 1 ∧ g 1 1 ≤ 40) (hK1 : (∃ i : Nat, (i : Int) < g 1 1 ∧ g (50 + i) 0 = d) → K [(1, 1)] g) (hK0 : ¬ (∃ i : Nat, (i : Int) < g 1 1 ∧ g (50 + i) 0 = d) → K [(1, 0)] g) : ∀ (n : Nat) (i : Int), i + n = g 1 1 → 0 ≤ i → (∀ j : Nat, (j : Int) < i → ¬ g (50 + j) 0 = d) → Y 2 [(3, 1), (1, d), (1, i)] [] g := by
  intro n
  induction n with
  | zero =>
    intro i hd h0 hu
    refine yrun_ok (sp := fun pc => Nat.beq pc 2) hY 14 2 _ [] g ?_
    show (((g 1 1) ≤ i → (((0 : Int) ≤ 0 ∧ 0 ≤ (1 : Int)) ∧ (K [(1, 0)] g))) ∧ (¬ ((g 1 1) ≤ i) → (((0 : Int) ≤ i ∧ i < ((40 : Nat) : Int)) ∧ (((g (50 + Int.toNat i) 0) ≠ d → (Y 2 [(3, 1), (1, d), (1, (yw (i + 1)))] [] g)) ∧ (¬ ((g (50 + Int.toNat i) 0) ≠ d) → (((0 : Int) ≤ 1 ∧ 1 ≤ (1 : Int)) ∧ (K [(1, 1)] g)))))))
    refine ⟨fun h1 => ?_, fun h1 => ?_⟩
    · refine ⟨(by omega), ?_⟩
      obtain rfl : i = g 1 1 := by omega
      exact hK0 (fun ⟨j, j1, j2⟩ => hu j j1 j2)
    · refine ⟨(by omega), ?_⟩
      refine ⟨fun h2 => ?_, fun h2 => ?_⟩
      · omega
      · refine ⟨(by omega), ?_⟩
        omega
  | succ n ih =>
    intro i hd h0 hu
    refine yrun_ok (sp := fun pc => Nat.beq pc 2) hY 14 2 _ [] g ?_
    show (((g 1 1) ≤ i → (((0 : Int) ≤ 0 ∧ 0 ≤ (1 : Int)) ∧ (K [(1, 0)] g))) ∧ (¬ ((g 1 1) ≤ i) → (((0 : Int) ≤ i ∧ i < ((40 : Nat) : Int)) ∧ (((g (50 + Int.toNat i) 0) ≠ d → (Y 2 [(3, 1), (1, d), (1, (yw (i + 1)))] [] g)) ∧ (¬ ((g (50 + Int.toNat i) 0) ≠ d) → (((0 : Int) ≤ 1 ∧ 1 ≤ (1 : Int)) ∧ (K [(1, 1)] g)))))))
    refine ⟨fun h1 => ?_, fun h1 => ?_⟩
    · refine ⟨(by omega), ?_⟩
      omega
    · refine ⟨(by omega), ?_⟩
      refine ⟨fun h2 => ?_, fun h2 => ?_⟩
      · have yi : yw (i + 1) = i + 1 := yw_s (i + 1) (by omega) (by omega)
        rw [yi]
        refine ih (i + 1) (by omega) (by omega) (fun j hj => ?_)
        by_cases hji : (j : Int) < i
        · exact hu j hji
        · obtain rfl : j = Int.toNat i := by omega
          omega
      · refine ⟨(by omega), ?_⟩
        exact hK1 ⟨Int.toNat i, by omega, by omega⟩
set_option maxRecDepth 8000 in
theorem yv_HCO {K : List yV → yM → Prop} {Y : yNx} {g : yM} {d : Int} (hY : yCl zpD123 (zpZ, zpRS, zpP11, zpMT, [], (1, 40), 2) K Y) (hr_d : -2147483648 ≤ d ∧ d ≤ 2147483647) (hp0 : 0 ≤ g 1 1 ∧ g 1 1 ≤ 40) (hK : ∀ (r : Int), ((r = 1 ∧ (∃ i : Nat, (i : Int) < g 1 1 ∧ g (50 + i) 0 = d)) ∨ (r = 0 ∧ ¬ (∃ i : Nat, (i : Int) < g 1 1 ∧ g (50 + i) 0 = d))) → K [(1, r)] g) : Y 0 [(3, 1), (1, d), (0, 0)] [] g := by
  refine yrun_ok (sp := fun pc => Nat.beq pc 2) hY 3 0 _ [] g ?_
  show (Y 2 [(3, 1), (1, d), (1, 0)] [] g)
  exact yl_HCO hY hp0 (fun h => hK _ (Or.inl ⟨rfl, h⟩)) (fun h => hK _ (Or.inr ⟨rfl, h⟩)) (Int.toNat (g 1 1)) 0 (by omega) (by decide) (fun j hj => absurd hj (by omega))
theorem yM_HCO {l : Launch} {Ts : List Cond} {cl : List vw_C} {RO : zRO} (H : zHyp Ts cl RO) : yMet l Ts cl zpZ RO zpMT yC_HCO := ymet_of2 H.1 H.2.1 zpDj H.2.2.1 yRb H.p11 ymets_nil (zrc2 rfl) (plainFor_of_name zpy11) zpDk123 (fun as g K Y h hA hY => by
  obtain ⟨d, rfl, hp0, hK⟩ := h
  exact yv_HCO hY (yAr1 hA (by simp)) hp0 hK)
def yP_CKP : yPT := fun as g K => ∃ (a : Int), as = [(3, 0), (1, a)] ∧ (yTy zpZ g) ∧ (∀ (r : Int) (g' : yM), (¬ (0 ≤ a ∧ a < g 6 8) → r = -1 ∧ g' = g) → ((0 ≤ a ∧ a < g 6 8) → yTy zpZ g' ∧ yFq g g' ∧ yKb (yDy g a) 4 r) → K [(1, r)] g')
def yC_CKP : yC := (19, (8, 213), yP_CKP)
set_option maxRecDepth 8000 in
theorem yl_CKP {K : List yV → yM → Prop} {Y : yNx} {g : yM} {a : Int} (hY : yCl zpD19 (zpZ, zpRS, zpP0, zpMT, [yC_HS, yC_HCO, yC_BKO], (8, 213), 1) K Y) (hG : yTy zpZ g) (ha : 0 ≤ a ∧ a < 20) (hK : ∀ (u : Int) (m : yM), yKb (yDy g a) 4 u → yTy zpZ m → yFq g m → K [(1, u)] m) : ∀ (n : Nat) (i : Int), i + n = 4 → 0 ≤ i → ∀ (u : Int) (m : yM), yKb (yDy g a) (Int.toNat i) u → yTy zpZ m → yFq g m → Y 17 [(3, 0), (1, a), (1, u), (1, i)] [] m := by
  intro n
  induction n with
  | zero =>
    intro i hd h0 u m hu hT f
    have hz := hG.sz
    have e11 : m 1 1 = g 1 1 := f 1 1 (by decide) (by decide) (by decide)
    refine yrun_ok (sp := fun pc => Nat.beq pc 17) hY 23 17 _ [] m ?_
    show ((4 ≤ i → (K [(1, u)] m)) ∧ (¬ (4 ≤ i) → (∃ (d2 : Int), [(3, 1), (1, i)] = [(3, 1), (1, d2)] ∧ (0 ≤ m 1 1 ∧ m 1 1 ≤ 40) ∧ (∀ (r3 : Int), ((r3 = 1 ∧ (∃ i : Nat, (i : Int) < m 1 1 ∧ m (50 + i) 0 = d2)) ∨ (r3 = 0 ∧ ¬ (∃ i : Nat, (i : Int) < m 1 1 ∧ m (50 + i) 0 = d2))) → ((r3 = 0 → (Y 17 [(3, 0), (1, a), (1, u), (1, (yw (i + 1)))] [] m)) ∧ (¬ (r3 = 0) → (∃ (a6 d7 : Int), [(3, 6), (1, a), (1, i)] = [(3, 6), (1, a6), (1, d7)] ∧ (yTy zpZ m) ∧ (0 ≤ a6 ∧ a6 < 20) ∧ (∀ (r8 : Int) (g9 : yM), (ySu (fun i => m (50 + i) 0 = d7 ∧ yBr m a6 i) (fun _ => 1) 0 (Int.toNat (m 1 1)) r8) → (yTy zpZ g9) → (yFq m g9) → ((r8 ≠ 0 → (Y 17 [(3, 0), (1, a), (1, u), (1, (yw (i + 1)))] [] g9)) ∧ (¬ (r8 ≠ 0) → (Y 17 [(3, 0), (1, a), (1, (yb (fun x y => x ||| y) u (yb (fun x y => x <<< (y &&& 31)) 1 i))), (1, (yw (i + 1)))] [] g9)))))))))))
    refine ⟨fun h1 => ?_, fun h1 => ?_⟩
    · obtain rfl : i = 4 := by omega
      exact hK u m hu hT f
    · refine ⟨_, rfl, (by omega), ?_⟩
      intro r3 p40
      refine ⟨fun h5 => ?_, fun h5 => ?_⟩
      · omega
      · refine ⟨_, _, rfl, (by omega), (by omega), ?_⟩
        intro r8 g9 p100 p101 p102
        refine ⟨fun h11 => ?_, fun h11 => ?_⟩
        · omega
        · omega
  | succ n ih =>
    intro i hd h0 u m hu hT f
    have hz := hG.sz
    have e11 : m 1 1 = g 1 1 := f 1 1 (by decide) (by decide) (by decide)
    refine yrun_ok (sp := fun pc => Nat.beq pc 17) hY 23 17 _ [] m ?_
    show ((4 ≤ i → (K [(1, u)] m)) ∧ (¬ (4 ≤ i) → (∃ (d2 : Int), [(3, 1), (1, i)] = [(3, 1), (1, d2)] ∧ (0 ≤ m 1 1 ∧ m 1 1 ≤ 40) ∧ (∀ (r3 : Int), ((r3 = 1 ∧ (∃ i : Nat, (i : Int) < m 1 1 ∧ m (50 + i) 0 = d2)) ∨ (r3 = 0 ∧ ¬ (∃ i : Nat, (i : Int) < m 1 1 ∧ m (50 + i) 0 = d2))) → ((r3 = 0 → (Y 17 [(3, 0), (1, a), (1, u), (1, (yw (i + 1)))] [] m)) ∧ (¬ (r3 = 0) → (∃ (a6 d7 : Int), [(3, 6), (1, a), (1, i)] = [(3, 6), (1, a6), (1, d7)] ∧ (yTy zpZ m) ∧ (0 ≤ a6 ∧ a6 < 20) ∧ (∀ (r8 : Int) (g9 : yM), (ySu (fun i => m (50 + i) 0 = d7 ∧ yBr m a6 i) (fun _ => 1) 0 (Int.toNat (m 1 1)) r8) → (yTy zpZ g9) → (yFq m g9) → ((r8 ≠ 0 → (Y 17 [(3, 0), (1, a), (1, u), (1, (yw (i + 1)))] [] g9)) ∧ (¬ (r8 ≠ 0) → (Y 17 [(3, 0), (1, a), (1, (yb (fun x y => x ||| y) u (yb (fun x y => x <<< (y &&& 31)) 1 i))), (1, (yw (i + 1)))] [] g9)))))))))))
    refine ⟨fun h1 => ?_, fun h1 => ?_⟩
    · omega
    · refine ⟨_, rfl, (by omega), ?_⟩
      intro r3 p40
      refine ⟨fun h5 => ?_, fun h5 => ?_⟩
      · have yi : yw (i + 1) = i + 1 := yw_s (i + 1) (by omega) (by omega)
        have en : ((Int.toNat i : Nat) : Int) = i := by omega
        have ce : ∀ j : Nat, m (50 + j) 0 = g (50 + j) 0 := fun j => f.c j 0
        rw [yi]
        refine ih (i + 1) (by omega) (by omega) u m ?_ hT f
        rw [show Int.toNat (i + 1) = Int.toNat i + 1 by omega]
        refine yKb_0 hu (fun z => ?_)
        obtain ⟨⟨j, j1, j2⟩, -⟩ := z
        rcases p40 with ⟨q1, q2⟩ | ⟨q1, q2⟩
        · omega
        · exact q2 ⟨j, by omega, by rw [ce]; omega⟩
      · refine ⟨_, _, rfl, (hT), (by omega), ?_⟩
        intro r8 g9 p100 p101 p102
        refine ⟨fun h11 => ?_, fun h11 => ?_⟩
        · have yi : yw (i + 1) = i + 1 := yw_s (i + 1) (by omega) (by omega)
          have en : ((Int.toNat i : Nat) : Int) = i := by omega
          have ce : ∀ j : Nat, m (50 + j) 0 = g (50 + j) 0 := fun j => f.c j 0
          have cn := (ySu_cnt _ r8 (by omega) p100).2
          have al : ∀ j : Nat, yBr m a j ↔ yBr g a j := fun j => yBr_fr hG f a j
          rw [yi]
          refine ih (i + 1) (by omega) (by omega) _ g9 ?_ p101 (f.tr p102)
          rw [show Int.toNat (i + 1) = Int.toNat i + 1 by omega]
          refine yKb_0 hu (fun z => ?_)
          have h0 : r8 = 0 := cn.mpr (fun j hj y => z.2 j (by omega) ⟨by rw [en, ← ce]; exact y.1, (al j).mp y.2⟩)
          omega
        · have yi : yw (i + 1) = i + 1 := yw_s (i + 1) (by omega) (by omega)
          have en : ((Int.toNat i : Nat) : Int) = i := by omega
          have ce : ∀ j : Nat, m (50 + j) 0 = g (50 + j) 0 := fun j => f.c j 0
          have cn := (ySu_cnt _ r8 (by omega) p100).2
          have al : ∀ j : Nat, yBr m a j ↔ yBr g a j := fun j => yBr_fr hG f a j
          rw [yi]
          refine ih (i + 1) (by omega) (by omega) _ g9 ?_ p101 (f.tr p102)
          rw [show Int.toNat (i + 1) = Int.toNat i + 1 by omega]
          have h9 := yKb_1 (Q := yDy g a) hu ?_
          · rw [en] at h9
            exact h9
          · refine ⟨?_, fun j hj z => ?_⟩
            · rcases p40 with ⟨q1, j, j1, j2⟩ | ⟨q1, q2⟩
              · exact ⟨j, by omega, by rw [← ce, en]; exact j2⟩
              · omega
            · rw [en] at z
              exact cn.mp (by omega) j (by omega) ⟨by rw [ce]; exact z.1, (al j).mpr z.2⟩
set_option maxRecDepth 8000 in
theorem yv_CKP {K : List yV → yM → Prop} {Y : yNx} {g : yM} {a : Int} (hY : yCl zpD19 (zpZ, zpRS, zpP0, zpMT, [yC_HS, yC_HCO, yC_BKO], (8, 213), 1) K Y) (hr_a : -2147483648 ≤ a ∧ a ≤ 2147483647) (hp0 : yTy zpZ g) (hK : ∀ (r : Int) (g' : yM), (¬ (0 ≤ a ∧ a < g 6 8) → r = -1 ∧ g' = g) → ((0 ≤ a ∧ a < g 6 8) → yTy zpZ g' ∧ yFq g g' ∧ yKb (yDy g a) 4 r) → K [(1, r)] g') : Y 0 [(3, 0), (1, a), (0, 0), (0, 0)] [] g := by
  refine yrun_ok (sp := fun pc => Nat.beq pc 17) hY 10 0 _ [] g ?_
  show (∃ (w1 : Int), [(3, 6), (1, a)] = [(3, 6), (1, w1)] ∧ (∀ (r2 : Int), ((r2 = 1 ∧ 0 ≤ w1 ∧ w1 < g 6 8) ∨ (r2 = 0 ∧ (w1 < 0 ∨ g 6 8 ≤ w1))) → ((r2 ≠ 0 → (Y 17 [(3, 0), (1, a), (1, 0), (1, 0)] [] g)) ∧ (¬ (r2 ≠ 0) → (K [(1, (-1))] g)))))
  refine ⟨_, rfl, ?_⟩
  intro r2 p30
  refine ⟨fun h4 => ?_, fun h4 => ?_⟩
  · have r68 := hp0.fO (q := 6) (j := 8) (List.mem_of_getElem? (i := 6) rfl) rfl
    exact yl_CKP hY hp0 (by omega) (fun u m h1 h2 h3 => hK u m (fun h => absurd (by omega) h) (fun _ => ⟨h2, h3, h1⟩)) 4 0 (by decide) (by decide) 0 g rfl hp0 yFq.rf
  · exact hK _ _ (fun _ => ⟨rfl, rfl⟩) (fun h => absurd h (by omega))
theorem yM_CKP {l : Launch} {Ts : List Cond} {cl : List vw_C} {RO : zRO} (H : zHyp Ts cl RO) : yMet l Ts cl zpZ RO zpMT yC_CKP := ymet_of2 H.1 H.2.1 zpDj H.2.2.1 yRb H.p0 (ymets_cons (yM_HS H) (ymets_cons (yM_HCO H) (ymets_cons (yM_BKO H) ymets_nil))) (zrc1 rfl) (plainFor_of_name zpy0) zpDk19 (fun as g K Y h hA hY => by
  obtain ⟨a, rfl, hp0, hK⟩ := h
  exact yv_CKP hY (yAr1 hA (by simp)) hp0 hK)
