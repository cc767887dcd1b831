/-! TEXTS: THE REFERENCE -/
set_option maxRecDepth 8000 in
theorem yl_mOzd {K : List yV → yM → Prop} {Y : yNx} {g : yM} {c k : Int} {o : Int} (ho : o = 6) (hY : yCl zpD183 (zpZ, zpRS, zpP12, zpMT, [yC_BA3, yC_TK3, yC_NMO, yC_WR], (50, 5000), 1) K Y) (hp : yMq o g) : ∀ (n : Nat) (i p v : Int), i + n = 4 → 0 ≤ p ∧ p ≤ 60 → ((n = 4 ∧ v = 0) ∨ (n = 3 ∧ 0 ≤ v ∧ v ≤ 9) ∨ (n = 2 ∧ 0 ≤ v ∧ v ≤ 99) ∨ (n = 1 ∧ 0 ≤ v ∧ v ≤ 999) ∨ (n = 0 ∧ 0 ≤ v ∧ v ≤ 9999)) → (∀ i2 : Int, i2 = i + ((yNm (yTq g) n p v).1 - p) → Y 229 [(3, 90), (1, c), (1, k), (1, (yNm (yTq g) n p v).2), (1, i2)] [] (yset g 90 17 (yNm (yTq g) n p v).1)) → Y 176 [(3, 90), (1, c), (1, k), (1, v), (1, i)] [] (yset g 90 17 p) := by
  intro n
  induction n with
  | zero =>
    intro i p v hd hpp hv hK
    obtain ⟨hT0, hf, hpl, hle, hbs, hop⟩ := id hp
    have e1 : (yset g 90 17 p) 90 17 = p := yset_eq
    have e2 : (yset g 90 17 p) 90 18 = g 90 18 := yset_nj (by decide)
    have e3 : (yset g 90 17 p) 90 16 = g 90 16 := yset_nj (by decide)
    have et : yTq (yset g 90 17 p) = yTq g := (yXm.st (fun _ _ _ => rfl) (Or.inl rfl)).tq
    have tz : g 90 18 ≤ p → yTq g p = 0 := yTq_z
    refine yrun_ok (sp := fun pc => Nat.beq pc 176 || Nat.beq pc 229) hY 29 176 _ [] (yset g 90 17 p) ?_
    show ((4 ≤ i → (Y 229 [(3, 90), (1, c), (1, k), (1, v), (1, i)] [] (yset g 90 17 p))) ∧ (¬ (4 ≤ i) → ([(3, 90)] = [(3, 90)] ∧ (0 ≤ (yset g 90 17 p) 90 17) ∧ ((yset g 90 17 p) 90 18 ≤ 60) ∧ ((yset g 90 17 p) 90 16 = -1 ∨ (yset g 90 17 p) 90 16 = 0) ∧ (∀ (r2 : Int), (r2 = yTq (yset g 90 17 p) ((yset g 90 17 p) 90 17)) → ((r2 < 48 → (Y 229 [(3, 90), (1, c), (1, k), (1, v), (1, i)] [] (yset g 90 17 p))) ∧ (¬ (r2 < 48) → ([(3, 90)] = [(3, 90)] ∧ (0 ≤ (yset g 90 17 p) 90 17) ∧ ((yset g 90 17 p) 90 18 ≤ 60) ∧ ((yset g 90 17 p) 90 16 = -1 ∨ (yset g 90 17 p) 90 16 = 0) ∧ (∀ (r5 : Int), (r5 = yTq (yset g 90 17 p) ((yset g 90 17 p) 90 17)) → ((57 < r5 → (Y 229 [(3, 90), (1, c), (1, k), (1, v), (1, i)] [] (yset g 90 17 p))) ∧ (¬ (57 < r5) → ([(3, 90)] = [(3, 90)] ∧ (0 ≤ (yset g 90 17 p) 90 17) ∧ ((yset g 90 17 p) 90 18 ≤ 60) ∧ ((yset g 90 17 p) 90 16 = -1 ∨ (yset g 90 17 p) 90 16 = 0) ∧ (∀ (r8 : Int), (r8 = yTq (yset g 90 17 p) ((yset g 90 17 p) 90 17)) → (Y 176 [(3, 90), (1, c), (1, k), (1, (yw ((yw ((yw (10 * v)) + r8)) - 48))), (1, (yw (i + 1)))] [] (yset (yset g 90 17 p) 90 17 (yw (((yset g 90 17 p) 90 17) + 1))))))))))))))))
    refine ⟨fun h1 => ?_, fun h1 => ?_⟩
    · exact hK i (by show i = i + (p - p); omega)
    · refine ⟨rfl, (by omega), (by omega), (by omega), ?_⟩
      intro r2 p30
      refine ⟨fun h4 => ?_, fun h4 => ?_⟩
      · omega
      · refine ⟨rfl, (by omega), (by omega), (by omega), ?_⟩
        intro r5 p60
        refine ⟨fun h7 => ?_, fun h7 => ?_⟩
        · omega
        · refine ⟨rfl, (by omega), (by omega), (by omega), ?_⟩
          intro r8 p90
          omega
  | succ n ih =>
    intro i p v hd hpp hv hK
    obtain ⟨hT0, hf, hpl, hle, hbs, hop⟩ := id hp
    have e1 : (yset g 90 17 p) 90 17 = p := yset_eq
    have e2 : (yset g 90 17 p) 90 18 = g 90 18 := yset_nj (by decide)
    have e3 : (yset g 90 17 p) 90 16 = g 90 16 := yset_nj (by decide)
    have et : yTq (yset g 90 17 p) = yTq g := (yXm.st (fun _ _ _ => rfl) (Or.inl rfl)).tq
    have tz : g 90 18 ≤ p → yTq g p = 0 := yTq_z
    refine yrun_ok (sp := fun pc => Nat.beq pc 176 || Nat.beq pc 229) hY 29 176 _ [] (yset g 90 17 p) ?_
    show ((4 ≤ i → (Y 229 [(3, 90), (1, c), (1, k), (1, v), (1, i)] [] (yset g 90 17 p))) ∧ (¬ (4 ≤ i) → ([(3, 90)] = [(3, 90)] ∧ (0 ≤ (yset g 90 17 p) 90 17) ∧ ((yset g 90 17 p) 90 18 ≤ 60) ∧ ((yset g 90 17 p) 90 16 = -1 ∨ (yset g 90 17 p) 90 16 = 0) ∧ (∀ (r2 : Int), (r2 = yTq (yset g 90 17 p) ((yset g 90 17 p) 90 17)) → ((r2 < 48 → (Y 229 [(3, 90), (1, c), (1, k), (1, v), (1, i)] [] (yset g 90 17 p))) ∧ (¬ (r2 < 48) → ([(3, 90)] = [(3, 90)] ∧ (0 ≤ (yset g 90 17 p) 90 17) ∧ ((yset g 90 17 p) 90 18 ≤ 60) ∧ ((yset g 90 17 p) 90 16 = -1 ∨ (yset g 90 17 p) 90 16 = 0) ∧ (∀ (r5 : Int), (r5 = yTq (yset g 90 17 p) ((yset g 90 17 p) 90 17)) → ((57 < r5 → (Y 229 [(3, 90), (1, c), (1, k), (1, v), (1, i)] [] (yset g 90 17 p))) ∧ (¬ (57 < r5) → ([(3, 90)] = [(3, 90)] ∧ (0 ≤ (yset g 90 17 p) 90 17) ∧ ((yset g 90 17 p) 90 18 ≤ 60) ∧ ((yset g 90 17 p) 90 16 = -1 ∨ (yset g 90 17 p) 90 16 = 0) ∧ (∀ (r8 : Int), (r8 = yTq (yset g 90 17 p) ((yset g 90 17 p) 90 17)) → (Y 176 [(3, 90), (1, c), (1, k), (1, (yw ((yw ((yw (10 * v)) + r8)) - 48))), (1, (yw (i + 1)))] [] (yset (yset g 90 17 p) 90 17 (yw (((yset g 90 17 p) 90 17) + 1))))))))))))))))
    refine ⟨fun h1 => ?_, fun h1 => ?_⟩
    · omega
    · refine ⟨rfl, (by omega), (by omega), (by omega), ?_⟩
      intro r2 p30
      refine ⟨fun h4 => ?_, fun h4 => ?_⟩
      · rw [et, e1] at p30
        have e5 : yNm (yTq g) (n + 1) p v = (p, v) := if_neg (by omega)
        have e4 := hK i (by rw [e5]; omega)
        rw [e5] at e4
        exact e4
      · refine ⟨rfl, (by omega), (by omega), (by omega), ?_⟩
        intro r5 p60
        refine ⟨fun h7 => ?_, fun h7 => ?_⟩
        · rw [et, e1] at p30
          rw [et, e1] at p60
          have e5 : yNm (yTq g) (n + 1) p v = (p, v) := if_neg (by omega)
          have e4 := hK i (by rw [e5]; omega)
          rw [e5] at e4
          exact e4
        · refine ⟨rfl, (by omega), (by omega), (by omega), ?_⟩
          intro r8 p90
          rw [et, e1] at p30
          rw [et, e1] at p60
          rw [et, e1] at p90
          have e7 : p < 60 := by omega
          have e5 : yNm (yTq g) (n + 1) p v = yNm (yTq g) n (p + 1) (v * 10 + yTq g p - 48) := if_pos (by omega)
          rw [e5] at hK
          have f1 : (yw ((yw ((yw (10 * v)) + r8)) - 48)) = v * 10 + yTq g p - 48 := by
            have := yw_s ((yw ((yw (10 * v)) + r8)) - 48)
            have := yw_s ((yw (10 * v)) + r8)
            have := yw_s (10 * v)
            omega
          have f2 : (yw (i + 1)) = i + 1 := yw_s (i + 1) (by omega) (by omega)
          have f3 : (yset (yset g 90 17 p) 90 17 (yw (((yset g 90 17 p) 90 17) + 1))) = yset g 90 17 (p + 1) := by
            rw [yset_yset, e1, yw_s (p + 1) (by omega) (by omega)]
          rw [f1, f2, f3]
          exact ih (i + 1) (p + 1) (v * 10 + yTq g p - 48) (by omega) (by omega) (by omega) (fun i2 h2 => hK i2 (by omega))
set_option maxRecDepth 8000 in
theorem yt_mOz {K : List yV → yM → Prop} {Y : yNx} {g : yM} {c k i2 : Int} {o : Int} (ho : o = 6) (hY : yCl zpD183 (zpZ, zpRS, zpP12, zpMT, [yC_BA3, yC_TK3, yC_NMO, yC_WR], (50, 5000), 1) K Y) (hp : yMq o g) (hc : yTq g (g 90 17) ≠ 33 ∧ yTq g (g 90 17) ≠ 45 ∧ yTq g (g 90 17) ≠ 40) (hn : ¬ 0 ≤ yKx (yTq g (g 90 17))) (h2 : i2 = 0 + ((yNm (yTq g) 4 (g 90 17) 0).1 - g 90 17)) (hK : ∀ (z : Int) (g' : yM), yMo o g g' (yOn (yTq g) 0 (g 90 17)) z → K [(1, z)] g') : Y 229 [(3, 90), (1, c), (1, k), (1, (yNm (yTq g) 4 (g 90 17) 0).2), (1, i2)] [] (yset g 90 17 (yNm (yTq g) 4 (g 90 17) 0).1) := by
  obtain ⟨hT0, hf, hpl, hle, hbs, hop⟩ := id hp
  have tg := yTq_tg hle
  have hd : 48 ≤ yTq g (g 90 17) ∧ yTq g (g 90 17) ≤ 57 → (yNm (yTq g) 4 (g 90 17) 0).1 ≠ g 90 17 ∧ 0 ≤ (yNm (yTq g) 4 (g 90 17) 0).1 ∧ (yNm (yTq g) 4 (g 90 17) 0).1 ≤ 60 := fun h => by
    have z1 := (yOn_gd tg 0 (g 90 17) hpl.1 hpl.2).1 (by rw [yOn_d h])
    rw [yOn_d h] at z1
    have z2 : g 90 17 < (yNm (yTq g) 4 (g 90 17) 0).1 ∧ (yNm (yTq g) 4 (g 90 17) 0).1 ≤ 60 := ⟨z1.1, z1.2.1⟩
    omega
  have hnd : ¬ (48 ≤ yTq g (g 90 17) ∧ yTq g (g 90 17) ≤ 57) → (yNm (yTq g) 4 (g 90 17) 0) = (g 90 17, 0) := fun h => if_neg h
  refine yrun_ok (sp := fun pc => Nat.beq pc 176) hY 6 229 _ [] (yset g 90 17 (yNm (yTq g) 4 (g 90 17) 0).1) ?_
  show ((i2 ≠ 0 → (K [(1, (yNm (yTq g) 4 (g 90 17) 0).2)] (yset g 90 17 (yNm (yTq g) 4 (g 90 17) 0).1))) ∧ (¬ (i2 ≠ 0) → ([(3, 90)] = [(3, 90)] ∧ (0 ≤ (yset g 90 17 (yNm (yTq g) 4 (g 90 17) 0).1) 90 17 ∧ (yset g 90 17 (yNm (yTq g) 4 (g 90 17) 0).1) 90 17 ≤ 60) ∧ (-1 ≤ (yset g 90 17 (yNm (yTq g) 4 (g 90 17) 0).1) 90 19) ∧ (∀ (r2 : Int) (g3 : yM), (r2 = 0) → ((yset g 90 17 (yNm (yTq g) 4 (g 90 17) 0).1) 90 19 = -1 → g3 = yset (yset g 90 17 (yNm (yTq g) 4 (g 90 17) 0).1) 90 19 ((yset g 90 17 (yNm (yTq g) 4 (g 90 17) 0).1) 90 17)) → ((yset g 90 17 (yNm (yTq g) 4 (g 90 17) 0).1) 90 19 ≠ -1 → g3 = (yset g 90 17 (yNm (yTq g) 4 (g 90 17) 0).1)) → (K [(1, r2)] g3)))))
  refine ⟨fun h1 => ?_, fun h1 => ?_⟩
  · by_cases hq : 48 ≤ yTq g (g 90 17) ∧ yTq g (g 90 17) ≤ 57
    · refine hK _ _ ?_
      rw [yOn_d hq]
      have := hd hq
      exact yMo.one hp ⟨by omega, by omega⟩ ⟨by omega, by omega⟩ (fun st => rfl)
    · rw [hnd hq] at h2
      omega
  · refine ⟨rfl, (by
      first
        | omega
        | (rw [yset_nj (by decide)]; omega)
        | (rw [yset_eq]
           by_cases hq : 48 ≤ yTq g (g 90 17) ∧ yTq g (g 90 17) ≤ 57
           · have := hd hq
             omega
           · rw [hnd hq]
             exact hpl)), (by
      first
        | omega
        | (rw [yset_nj (by decide)]; omega)
        | (rw [yset_eq]
           by_cases hq : 48 ≤ yTq g (g 90 17) ∧ yTq g (g 90 17) ≤ 57
           · have := hd hq
             omega
           · rw [hnd hq]
             exact hpl)), ?_⟩
    intro r2 g3 p40 p41 p42
    by_cases hq : 48 ≤ yTq g (g 90 17) ∧ yTq g (g 90 17) ≤ 57
    · have := hd hq
      omega
    · rw [hnd hq] at p41
      have e := p41 (by rw [yset_id]; exact hf)
      rw [yset_id] at e
      subst e
      refine hK _ _ ?_
      rw [yOn_0 hq hn]
      exact yMo.bad hp ⟨by omega, by omega⟩ rfl
set_option maxRecDepth 8000 in
theorem yv_mOz {K : List yV → yM → Prop} {Y : yNx} {g : yM} {o : Int} (hY : yCl zpD183 (zpZ, zpRS, zpP12, zpMT, [yC_BA3, yC_TK3, yC_NMO, yC_WR], (50, 5000), 1) K Y) (hp0 : yMq o g) (hp1 : o = 6) (hK : ∀ (r : Int) (g' : yM), (yMo o g g' (yOn (yTq g) 0 (g 90 17)) r) → K [(1, r)] g') : Y 0 [(3, 90), (0, 0), (0, 0), (0, 0), (0, 0)] [] g := by
  have hp := hp0
  have ho := hp1
  obtain ⟨hT0, hf, hpl, hle, hbs, hop⟩ := id hp
  have tg := yTq_tg hle
  have kb := yKx_b (yTq g (g 90 17))
  have kn : 0 ≤ yKx (yTq g (g 90 17)) → 97 ≤ yTq g (g 90 17) ∧ yTq g (g 90 17) ≤ 119 := yKx_n
  have h60 : yTq g (g 90 17) ≠ 0 → g 90 17 < 60 := tg (g 90 17) hpl.1
  have k3 : yTq g (g 90 17) = 33 ∨ yTq g (g 90 17) = 45 ∨ yTq g (g 90 17) = 40 → ¬ 0 ≤ yKx (yTq g (g 90 17)) := fun e => by rcases e with e | e | e <;> rw [e] <;> decide
  refine yrun_ok (sp := fun pc => Nat.beq pc 46 || Nat.beq pc 176) hY 31 0 _ [] g ?_
  show (((g 90 19) < 0 → ([(3, 90)] = [(3, 90)] ∧ (0 ≤ g 90 17) ∧ (g 90 18 ≤ 60) ∧ (g 90 16 = -1 ∨ g 90 16 = 0) ∧ (∀ (r2 : Int), (r2 = yTq g (g 90 17)) → ((r2 = 33 → (((g 90 20) ≠ 6 → (Y 46 [(3, 90), (1, r2), (0, 0), (0, 0), (0, 0)] [] g)) ∧ (¬ ((g 90 20) ≠ 6) → ([(3, 90)] = [(3, 90)] ∧ (0 ≤ g 90 17 ∧ g 90 17 ≤ 60) ∧ (-1 ≤ g 90 19) ∧ (∀ (r6 : Int) (g7 : yM), (r6 = 0) → (g 90 19 = -1 → g7 = yset g 90 19 (g 90 17)) → (g 90 19 ≠ -1 → g7 = g) → (K [(1, r6)] g7)))))) ∧ (¬ (r2 = 33) → ((r2 = 45 → (((g 90 20) ≠ 6 → (Y 46 [(3, 90), (1, r2), (0, 0), (0, 0), (0, 0)] [] g)) ∧ (¬ ((g 90 20) ≠ 6) → ([(3, 90)] = [(3, 90)] ∧ (0 ≤ g 90 17 ∧ g 90 17 ≤ 60) ∧ (-1 ≤ g 90 19) ∧ (∀ (r11 : Int) (g12 : yM), (r11 = 0) → (g 90 19 = -1 → g12 = yset g 90 19 (g 90 17)) → (g 90 19 ≠ -1 → g12 = g) → (K [(1, r11)] g12)))))) ∧ (¬ (r2 = 45) → ((r2 ≠ 40 → (∃ (c15 : Int), [(1, r2)] = [(1, c15)] ∧ (∀ (r16 : Int), (r16 = yKx c15) → ((r16 < 0 → (Y 176 [(3, 90), (1, r2), (1, r16), (1, 0), (1, 0)] [] g)) ∧ (¬ (r16 < 0) → (((0 : Int) ≤ r16 ∧ r16 < ((8 : Nat) : Int)) ∧ (K [(1, (g 100 (Int.toNat r16)))] (yset g 90 17 (yw ((g 90 17) + 1)))))))))) ∧ (¬ (r2 ≠ 40) → (((g 90 20) ≠ 6 → (Y 46 [(3, 90), (1, r2), (0, 0), (0, 0), (0, 0)] [] g)) ∧ (¬ ((g 90 20) ≠ 6) → ([(3, 90)] = [(3, 90)] ∧ (0 ≤ g 90 17 ∧ g 90 17 ≤ 60) ∧ (-1 ≤ g 90 19) ∧ (∀ (r20 : Int) (g21 : yM), (r20 = 0) → (g 90 19 = -1 → g21 = yset g 90 19 (g 90 17)) → (g 90 19 ≠ -1 → g21 = g) → (K [(1, r20)] g21)))))))))))))) ∧ (¬ ((g 90 19) < 0) → (K [(1, 0)] g)))
  refine ⟨fun h1 => ?_, fun h1 => ?_⟩
  · refine ⟨rfl, (by omega), (by omega), (by omega), ?_⟩
    intro r2 p30
    refine ⟨fun h4 => ?_, fun h4 => ?_⟩
    · refine ⟨fun h5 => ?_, fun h5 => ?_⟩
      · omega
      · refine ⟨rfl, (by omega), (by omega), ?_⟩
        intro r6 g7 p80 p81 p82
        have n1 : ¬ (48 ≤ yTq g (g 90 17) ∧ yTq g (g 90 17) ≤ 57) := by omega
        have n2 : ¬ 0 ≤ yKx (yTq g (g 90 17)) := k3 (by omega)
        have e := p81 hf
        subst e
        refine hK _ _ ?_
        rw [yOn_0 n1 n2]
        exact yMo.bad hp ⟨by omega, by omega⟩ rfl
    · refine ⟨fun h9 => ?_, fun h9 => ?_⟩
      · refine ⟨fun h10 => ?_, fun h10 => ?_⟩
        · omega
        · refine ⟨rfl, (by omega), (by omega), ?_⟩
          intro r11 g12 p130 p131 p132
          have n1 : ¬ (48 ≤ yTq g (g 90 17) ∧ yTq g (g 90 17) ≤ 57) := by omega
          have n2 : ¬ 0 ≤ yKx (yTq g (g 90 17)) := k3 (by omega)
          have e := p131 hf
          subst e
          refine hK _ _ ?_
          rw [yOn_0 n1 n2]
          exact yMo.bad hp ⟨by omega, by omega⟩ rfl
      · refine ⟨fun h14 => ?_, fun h14 => ?_⟩
        · refine ⟨_, rfl, ?_⟩
          intro r16 p170
          refine ⟨fun h18 => ?_, fun h18 => ?_⟩
          · rw [p30] at p170
            have h9 := yl_mOzd (c := r2) (k := r16) ho hY hp 4 0 (g 90 17) 0 (by omega) hpl (Or.inl ⟨rfl, rfl⟩) (fun i2 h2 => ?_)
            · rw [yset_id] at h9
              exact h9
            · exact yt_mOz ho hY hp (by omega) (by have := p170; omega) h2 hK
          · refine ⟨(by
      rw [p30] at p170
      omega), ?_⟩
            rw [p30] at p170
            have hk : 0 ≤ yKx (yTq g (g 90 17)) := by omega
            have h61 := h60 (by omega)
            rw [yw_s (g 90 17 + 1) (by omega) (by omega)]
            refine hK _ _ ?_
            rw [yOn_k hk, p170]
            exact yMo.one hp ⟨by omega, by omega⟩ ⟨by omega, by omega⟩ (yVl.nam ⟨by omega, by omega⟩)
        · refine ⟨fun h19 => ?_, fun h19 => ?_⟩
          · omega
          · refine ⟨rfl, (by omega), (by omega), ?_⟩
            intro r20 g21 p220 p221 p222
            have n1 : ¬ (48 ≤ yTq g (g 90 17) ∧ yTq g (g 90 17) ≤ 57) := by omega
            have n2 : ¬ 0 ≤ yKx (yTq g (g 90 17)) := k3 (by omega)
            have e := p221 hf
            subst e
            refine hK _ _ ?_
            rw [yOn_0 n1 n2]
            exact yMo.bad hp ⟨by omega, by omega⟩ rfl
  · omega
theorem yR_mOz : yRl zpMT (26 + 6 * 0, 1210 + 150 * 0) [yC_BA3, yC_TK3, yC_NMO, yC_WR] [yC_BA3, yC_TK3, yC_NMO, yC_WR] := (yRl_cons rfl rfl (by show 1 + 1 ≤ 26 + 6 * 0; omega) (by show 8 + (1 + 11) + (40) ≤ 1210 + 150 * 0; omega) (yRl_cons rfl rfl (by show 2 + 1 ≤ 26 + 6 * 0; omega) (by show 8 + (2 + 11) + (60) ≤ 1210 + 150 * 0; omega) (yRl_cons rfl rfl (by show 1 + 1 ≤ 26 + 6 * 0; omega) (by show 8 + (1 + 11) + (40) ≤ 1210 + 150 * 0; omega) (yRl_cons rfl rfl (by show 1 + 1 ≤ 26 + 6 * 0; omega) (by show 8 + (1 + 11) + (40) ≤ 1210 + 150 * 0; omega) yRl_nil))))
theorem yM_mOz {l : Launch} {Ts : List Cond} {cl : List vw_C} {RO : zRO} (H : zHyp Ts cl RO) : yMet l Ts cl zpZ RO zpMT (yC_mOg 0) := ymet_of2 H.1 H.2.1 zpDj H.2.2.1 yRb H.p12 (ymets_cons (yM_BA3 H) (ymets_cons (yM_TK3 H) (ymets_cons (yM_NMO H) (ymets_cons (yM_WR H) ymets_nil)))) (zrc1 rfl) (plainFor_of_name zpy12) zpDk183 (fun as g K Y h hA hY => by
  obtain ⟨o, rfl, hp0, hp1, hK⟩ := h
  have hp1 : o = 6 := by omega
  exact yv_mOz (yCl.rl (rm := (50, 5000)) (yR_mOz) (by show 1 ≤ 26 + 6 * 0; omega) (by show 1000 ≤ 1210 + 150 * 0; omega) hY) hp0 hp1 hK)
set_option maxRecDepth 8000 in
theorem yl_mOsd {K : List yV → yM → Prop} {Y : yNx} {g : yM} {c k : Int} {lv : Nat} {o : Int} (ho : o + (lv : Int) + 1 = 6 ∧ 0 ≤ o) (hY : yCl zpD183 (zpZ, zpRS, zpP12, zpMT, [yC_BA3, yC_TK3, yC_NMO, yC_WR, (183, (40, 4000), yP_mOg lv), (154, (40, 4000), yP_mEg lv)], (50, 5000), 1) K Y) (hp : yMq o g) : ∀ (n : Nat) (i p v : Int), i + n = 4 → 0 ≤ p ∧ p ≤ 60 → ((n = 4 ∧ v = 0) ∨ (n = 3 ∧ 0 ≤ v ∧ v ≤ 9) ∨ (n = 2 ∧ 0 ≤ v ∧ v ≤ 99) ∨ (n = 1 ∧ 0 ≤ v ∧ v ≤ 999) ∨ (n = 0 ∧ 0 ≤ v ∧ v ≤ 9999)) → (∀ i2 : Int, i2 = i + ((yNm (yTq g) n p v).1 - p) → Y 229 [(3, 90), (1, c), (1, k), (1, (yNm (yTq g) n p v).2), (1, i2)] [] (yset g 90 17 (yNm (yTq g) n p v).1)) → Y 176 [(3, 90), (1, c), (1, k), (1, v), (1, i)] [] (yset g 90 17 p) := by
  intro n
  induction n with
  | zero =>
    intro i p v hd hpp hv hK
    obtain ⟨hT0, hf, hpl, hle, hbs, hop⟩ := id hp
    have e1 : (yset g 90 17 p) 90 17 = p := yset_eq
    have e2 : (yset g 90 17 p) 90 18 = g 90 18 := yset_nj (by decide)
    have e3 : (yset g 90 17 p) 90 16 = g 90 16 := yset_nj (by decide)
    have et : yTq (yset g 90 17 p) = yTq g := (yXm.st (fun _ _ _ => rfl) (Or.inl rfl)).tq
    have tz : g 90 18 ≤ p → yTq g p = 0 := yTq_z
    refine yrun_ok (sp := fun pc => Nat.beq pc 176 || Nat.beq pc 229) hY 29 176 _ [] (yset g 90 17 p) ?_
    show ((4 ≤ i → (Y 229 [(3, 90), (1, c), (1, k), (1, v), (1, i)] [] (yset g 90 17 p))) ∧ (¬ (4 ≤ i) → ([(3, 90)] = [(3, 90)] ∧ (0 ≤ (yset g 90 17 p) 90 17) ∧ ((yset g 90 17 p) 90 18 ≤ 60) ∧ ((yset g 90 17 p) 90 16 = -1 ∨ (yset g 90 17 p) 90 16 = 0) ∧ (∀ (r2 : Int), (r2 = yTq (yset g 90 17 p) ((yset g 90 17 p) 90 17)) → ((r2 < 48 → (Y 229 [(3, 90), (1, c), (1, k), (1, v), (1, i)] [] (yset g 90 17 p))) ∧ (¬ (r2 < 48) → ([(3, 90)] = [(3, 90)] ∧ (0 ≤ (yset g 90 17 p) 90 17) ∧ ((yset g 90 17 p) 90 18 ≤ 60) ∧ ((yset g 90 17 p) 90 16 = -1 ∨ (yset g 90 17 p) 90 16 = 0) ∧ (∀ (r5 : Int), (r5 = yTq (yset g 90 17 p) ((yset g 90 17 p) 90 17)) → ((57 < r5 → (Y 229 [(3, 90), (1, c), (1, k), (1, v), (1, i)] [] (yset g 90 17 p))) ∧ (¬ (57 < r5) → ([(3, 90)] = [(3, 90)] ∧ (0 ≤ (yset g 90 17 p) 90 17) ∧ ((yset g 90 17 p) 90 18 ≤ 60) ∧ ((yset g 90 17 p) 90 16 = -1 ∨ (yset g 90 17 p) 90 16 = 0) ∧ (∀ (r8 : Int), (r8 = yTq (yset g 90 17 p) ((yset g 90 17 p) 90 17)) → (Y 176 [(3, 90), (1, c), (1, k), (1, (yw ((yw ((yw (10 * v)) + r8)) - 48))), (1, (yw (i + 1)))] [] (yset (yset g 90 17 p) 90 17 (yw (((yset g 90 17 p) 90 17) + 1))))))))))))))))
    refine ⟨fun h1 => ?_, fun h1 => ?_⟩
    · exact hK i (by show i = i + (p - p); omega)
    · refine ⟨rfl, (by omega), (by omega), (by omega), ?_⟩
      intro r2 p30
      refine ⟨fun h4 => ?_, fun h4 => ?_⟩
      · omega
      · refine ⟨rfl, (by omega), (by omega), (by omega), ?_⟩
        intro r5 p60
        refine ⟨fun h7 => ?_, fun h7 => ?_⟩
        · omega
        · refine ⟨rfl, (by omega), (by omega), (by omega), ?_⟩
          intro r8 p90
          omega
  | succ n ih =>
    intro i p v hd hpp hv hK
    obtain ⟨hT0, hf, hpl, hle, hbs, hop⟩ := id hp
    have e1 : (yset g 90 17 p) 90 17 = p := yset_eq
    have e2 : (yset g 90 17 p) 90 18 = g 90 18 := yset_nj (by decide)
    have e3 : (yset g 90 17 p) 90 16 = g 90 16 := yset_nj (by decide)
    have et : yTq (yset g 90 17 p) = yTq g := (yXm.st (fun _ _ _ => rfl) (Or.inl rfl)).tq
    have tz : g 90 18 ≤ p → yTq g p = 0 := yTq_z
    refine yrun_ok (sp := fun pc => Nat.beq pc 176 || Nat.beq pc 229) hY 29 176 _ [] (yset g 90 17 p) ?_
    show ((4 ≤ i → (Y 229 [(3, 90), (1, c), (1, k), (1, v), (1, i)] [] (yset g 90 17 p))) ∧ (¬ (4 ≤ i) → ([(3, 90)] = [(3, 90)] ∧ (0 ≤ (yset g 90 17 p) 90 17) ∧ ((yset g 90 17 p) 90 18 ≤ 60) ∧ ((yset g 90 17 p) 90 16 = -1 ∨ (yset g 90 17 p) 90 16 = 0) ∧ (∀ (r2 : Int), (r2 = yTq (yset g 90 17 p) ((yset g 90 17 p) 90 17)) → ((r2 < 48 → (Y 229 [(3, 90), (1, c), (1, k), (1, v), (1, i)] [] (yset g 90 17 p))) ∧ (¬ (r2 < 48) → ([(3, 90)] = [(3, 90)] ∧ (0 ≤ (yset g 90 17 p) 90 17) ∧ ((yset g 90 17 p) 90 18 ≤ 60) ∧ ((yset g 90 17 p) 90 16 = -1 ∨ (yset g 90 17 p) 90 16 = 0) ∧ (∀ (r5 : Int), (r5 = yTq (yset g 90 17 p) ((yset g 90 17 p) 90 17)) → ((57 < r5 → (Y 229 [(3, 90), (1, c), (1, k), (1, v), (1, i)] [] (yset g 90 17 p))) ∧ (¬ (57 < r5) → ([(3, 90)] = [(3, 90)] ∧ (0 ≤ (yset g 90 17 p) 90 17) ∧ ((yset g 90 17 p) 90 18 ≤ 60) ∧ ((yset g 90 17 p) 90 16 = -1 ∨ (yset g 90 17 p) 90 16 = 0) ∧ (∀ (r8 : Int), (r8 = yTq (yset g 90 17 p) ((yset g 90 17 p) 90 17)) → (Y 176 [(3, 90), (1, c), (1, k), (1, (yw ((yw ((yw (10 * v)) + r8)) - 48))), (1, (yw (i + 1)))] [] (yset (yset g 90 17 p) 90 17 (yw (((yset g 90 17 p) 90 17) + 1))))))))))))))))
    refine ⟨fun h1 => ?_, fun h1 => ?_⟩
    · omega
    · refine ⟨rfl, (by omega), (by omega), (by omega), ?_⟩
      intro r2 p30
      refine ⟨fun h4 => ?_, fun h4 => ?_⟩
      · rw [et, e1] at p30
        have e5 : yNm (yTq g) (n + 1) p v = (p, v) := if_neg (by omega)
        have e4 := hK i (by rw [e5]; omega)
        rw [e5] at e4
        exact e4
      · refine ⟨rfl, (by omega), (by omega), (by omega), ?_⟩
        intro r5 p60
        refine ⟨fun h7 => ?_, fun h7 => ?_⟩
        · rw [et, e1] at p30
          rw [et, e1] at p60
          have e5 : yNm (yTq g) (n + 1) p v = (p, v) := if_neg (by omega)
          have e4 := hK i (by rw [e5]; omega)
          rw [e5] at e4
          exact e4
        · refine ⟨rfl, (by omega), (by omega), (by omega), ?_⟩
          intro r8 p90
          rw [et, e1] at p30
          rw [et, e1] at p60
          rw [et, e1] at p90
          have e7 : p < 60 := by omega
          have e5 : yNm (yTq g) (n + 1) p v = yNm (yTq g) n (p + 1) (v * 10 + yTq g p - 48) := if_pos (by omega)
          rw [e5] at hK
          have f1 : (yw ((yw ((yw (10 * v)) + r8)) - 48)) = v * 10 + yTq g p - 48 := by
            have := yw_s ((yw ((yw (10 * v)) + r8)) - 48)
            have := yw_s ((yw (10 * v)) + r8)
            have := yw_s (10 * v)
            omega
          have f2 : (yw (i + 1)) = i + 1 := yw_s (i + 1) (by omega) (by omega)
          have f3 : (yset (yset g 90 17 p) 90 17 (yw (((yset g 90 17 p) 90 17) + 1))) = yset g 90 17 (p + 1) := by
            rw [yset_yset, e1, yw_s (p + 1) (by omega) (by omega)]
          rw [f1, f2, f3]
          exact ih (i + 1) (p + 1) (v * 10 + yTq g p - 48) (by omega) (by omega) (by omega) (fun i2 h2 => hK i2 (by omega))
set_option maxRecDepth 8000 in
theorem yt_mOs {K : List yV → yM → Prop} {Y : yNx} {g : yM} {c k i2 : Int} {lv : Nat} {o : Int} (ho : o + (lv : Int) + 1 = 6 ∧ 0 ≤ o) (hY : yCl zpD183 (zpZ, zpRS, zpP12, zpMT, [yC_BA3, yC_TK3, yC_NMO, yC_WR, (183, (40, 4000), yP_mOg lv), (154, (40, 4000), yP_mEg lv)], (50, 5000), 1) K Y) (hp : yMq o g) (hc : yTq g (g 90 17) ≠ 33 ∧ yTq g (g 90 17) ≠ 45 ∧ yTq g (g 90 17) ≠ 40) (hn : ¬ 0 ≤ yKx (yTq g (g 90 17))) (h2 : i2 = 0 + ((yNm (yTq g) 4 (g 90 17) 0).1 - g 90 17)) (hK : ∀ (z : Int) (g' : yM), yMo o g g' (yOn (yTq g) (lv + 1) (g 90 17)) z → K [(1, z)] g') : Y 229 [(3, 90), (1, c), (1, k), (1, (yNm (yTq g) 4 (g 90 17) 0).2), (1, i2)] [] (yset g 90 17 (yNm (yTq g) 4 (g 90 17) 0).1) := by
  obtain ⟨hT0, hf, hpl, hle, hbs, hop⟩ := id hp
  have tg := yTq_tg hle
  have hd : 48 ≤ yTq g (g 90 17) ∧ yTq g (g 90 17) ≤ 57 → (yNm (yTq g) 4 (g 90 17) 0).1 ≠ g 90 17 ∧ 0 ≤ (yNm (yTq g) 4 (g 90 17) 0).1 ∧ (yNm (yTq g) 4 (g 90 17) 0).1 ≤ 60 := fun h => by
    have z1 := (yOn_gd tg 0 (g 90 17) hpl.1 hpl.2).1 (by rw [yOn_d h])
    rw [yOn_d h] at z1
    have z2 : g 90 17 < (yNm (yTq g) 4 (g 90 17) 0).1 ∧ (yNm (yTq g) 4 (g 90 17) 0).1 ≤ 60 := ⟨z1.1, z1.2.1⟩
    omega
  have hnd : ¬ (48 ≤ yTq g (g 90 17) ∧ yTq g (g 90 17) ≤ 57) → (yNm (yTq g) 4 (g 90 17) 0) = (g 90 17, 0) := fun h => if_neg h
  refine yrun_ok (sp := fun pc => Nat.beq pc 176) hY 6 229 _ [] (yset g 90 17 (yNm (yTq g) 4 (g 90 17) 0).1) ?_
  show ((i2 ≠ 0 → (K [(1, (yNm (yTq g) 4 (g 90 17) 0).2)] (yset g 90 17 (yNm (yTq g) 4 (g 90 17) 0).1))) ∧ (¬ (i2 ≠ 0) → ([(3, 90)] = [(3, 90)] ∧ (0 ≤ (yset g 90 17 (yNm (yTq g) 4 (g 90 17) 0).1) 90 17 ∧ (yset g 90 17 (yNm (yTq g) 4 (g 90 17) 0).1) 90 17 ≤ 60) ∧ (-1 ≤ (yset g 90 17 (yNm (yTq g) 4 (g 90 17) 0).1) 90 19) ∧ (∀ (r2 : Int) (g3 : yM), (r2 = 0) → ((yset g 90 17 (yNm (yTq g) 4 (g 90 17) 0).1) 90 19 = -1 → g3 = yset (yset g 90 17 (yNm (yTq g) 4 (g 90 17) 0).1) 90 19 ((yset g 90 17 (yNm (yTq g) 4 (g 90 17) 0).1) 90 17)) → ((yset g 90 17 (yNm (yTq g) 4 (g 90 17) 0).1) 90 19 ≠ -1 → g3 = (yset g 90 17 (yNm (yTq g) 4 (g 90 17) 0).1)) → (K [(1, r2)] g3)))))
  refine ⟨fun h1 => ?_, fun h1 => ?_⟩
  · by_cases hq : 48 ≤ yTq g (g 90 17) ∧ yTq g (g 90 17) ≤ 57
    · refine hK _ _ ?_
      rw [yOn_d hq]
      have := hd hq
      exact yMo.one hp ⟨by omega, by omega⟩ ⟨by omega, by omega⟩ (fun st => rfl)
    · rw [hnd hq] at h2
      omega
  · refine ⟨rfl, (by
      first
        | omega
        | (rw [yset_nj (by decide)]; omega)
        | (rw [yset_eq]
           by_cases hq : 48 ≤ yTq g (g 90 17) ∧ yTq g (g 90 17) ≤ 57
           · have := hd hq
             omega
           · rw [hnd hq]
             exact hpl)), (by
      first
        | omega
        | (rw [yset_nj (by decide)]; omega)
        | (rw [yset_eq]
           by_cases hq : 48 ≤ yTq g (g 90 17) ∧ yTq g (g 90 17) ≤ 57
           · have := hd hq
             omega
           · rw [hnd hq]
             exact hpl)), ?_⟩
    intro r2 g3 p40 p41 p42
    by_cases hq : 48 ≤ yTq g (g 90 17) ∧ yTq g (g 90 17) ≤ 57
    · have := hd hq
      omega
    · rw [hnd hq] at p41
      have e := p41 (by rw [yset_id]; exact hf)
      rw [yset_id] at e
      subst e
      refine hK _ _ ?_
      rw [yOn_x hq hn hc.2.2 hc.1 hc.2.1]
      exact yMo.bad hp ⟨by omega, by omega⟩ rfl
set_option maxRecDepth 8000 in
theorem yv_mOs {K : List yV → yM → Prop} {Y : yNx} {g : yM} {o : Int} {lv : Nat} (hY : yCl zpD183 (zpZ, zpRS, zpP12, zpMT, [yC_BA3, yC_TK3, yC_NMO, yC_WR, (183, (40, 4000), yP_mOg lv), (154, (40, 4000), yP_mEg lv)], (50, 5000), 1) K Y) (hp0 : yMq o g) (hp1 : o + (lv : Int) + 1 = 6 ∧ 0 ≤ o) (hK : ∀ (r : Int) (g' : yM), (yMo o g g' (yOn (yTq g) (lv + 1) (g 90 17)) r) → K [(1, r)] g') : Y 0 [(3, 90), (0, 0), (0, 0), (0, 0), (0, 0)] [] g := by
  have hp := hp0
  have ho := hp1
  obtain ⟨hT0, hf, hpl, hle, hbs, hop⟩ := id hp
  have tg := yTq_tg hle
  have kb := yKx_b (yTq g (g 90 17))
  have kn : 0 ≤ yKx (yTq g (g 90 17)) → 97 ≤ yTq g (g 90 17) ∧ yTq g (g 90 17) ≤ 119 := yKx_n
  have h60 : yTq g (g 90 17) ≠ 0 → g 90 17 < 60 := tg (g 90 17) hpl.1
  have k3 : yTq g (g 90 17) = 33 ∨ yTq g (g 90 17) = 45 ∨ yTq g (g 90 17) = 40 → ¬ 0 ≤ yKx (yTq g (g 90 17)) := fun e => by rcases e with e | e | e <;> rw [e] <;> decide
  refine yrun_ok (sp := fun pc => Nat.beq pc 176) hY 62 0 _ [] g ?_
  show (((g 90 19) < 0 → ([(3, 90)] = [(3, 90)] ∧ (0 ≤ g 90 17) ∧ (g 90 18 ≤ 60) ∧ (g 90 16 = -1 ∨ g 90 16 = 0) ∧ (∀ (r2 : Int), (r2 = yTq g (g 90 17)) → ((r2 = 33 → (((g 90 20) ≠ 6 → ((r2 ≠ 40 → (∃ (o7 : Int), [(3, 90)] = [(3, 90)] ∧ (yMq o7 (yset (yset g 90 20 (yw ((g 90 20) + 1))) 90 17 (yw ((g 90 17) + 1)))) ∧ (o7 + (lv : Int) = 6 ∧ 0 ≤ o7) ∧ (∀ (r8 : Int) (g9 : yM), (yMo o7 (yset (yset g 90 20 (yw ((g 90 20) + 1))) 90 17 (yw ((g 90 17) + 1))) g9 (yOn (yTq (yset (yset g 90 20 (yw ((g 90 20) + 1))) 90 17 (yw ((g 90 17) + 1)))) lv ((yset (yset g 90 20 (yw ((g 90 20) + 1))) 90 17 (yw ((g 90 17) + 1))) 90 17)) r8) → ((r2 ≠ 40 → ((r2 ≠ 40 → ((r2 ≠ 45 → ((r8 ≠ 0 → (K [(1, 0)] (yset g9 90 20 (yw ((g9 90 20) - 1))))) ∧ (¬ (r8 ≠ 0) → (K [(1, 1)] (yset g9 90 20 (yw ((g9 90 20) - 1))))))) ∧ (¬ (r2 ≠ 45) → (K [(1, (yw (-r8)))] (yset g9 90 20 (yw ((g9 90 20) - 1))))))) ∧ (¬ (r2 ≠ 40) → (K [(1, r8)] (yset g9 90 20 (yw ((g9 90 20) - 1))))))) ∧ (¬ (r2 ≠ 40) → (∃ (c15 : Int), [(3, 90), (1, 41)] = [(3, 90), (1, c15)] ∧ (0 ≤ g9 90 17) ∧ (g9 90 18 ≤ 60) ∧ (g9 90 16 = -1 ∨ g9 90 16 = 0) ∧ (g9 90 17 ≤ 60) ∧ (1 ≤ c15) ∧ (∀ (r16 : Int) (g17 : yM), ((r16 = 1 ∧ g9 90 19 < 0 ∧ yTq g9 (g9 90 17) = c15 ∧ g17 = yset g9 90 17 (g9 90 17 + 1)) ∨ (r16 = 0 ∧ (0 ≤ g9 90 19 ∨ yTq g9 (g9 90 17) ≠ c15) ∧ g17 = g9)) → ((r16 ≠ 0 → ((r2 ≠ 40 → ((r2 ≠ 45 → ((r8 ≠ 0 → (K [(1, 0)] (yset g17 90 20 (yw ((g17 90 20) - 1))))) ∧ (¬ (r8 ≠ 0) → (K [(1, 1)] (yset g17 90 20 (yw ((g17 90 20) - 1))))))) ∧ (¬ (r2 ≠ 45) → (K [(1, (yw (-r8)))] (yset g17 90 20 (yw ((g17 90 20) - 1))))))) ∧ (¬ (r2 ≠ 40) → (K [(1, r8)] (yset g17 90 20 (yw ((g17 90 20) - 1))))))) ∧ (¬ (r16 ≠ 0) → ([(3, 90)] = [(3, 90)] ∧ (0 ≤ g17 90 17 ∧ g17 90 17 ≤ 60) ∧ (-1 ≤ g17 90 19) ∧ (∀ (r23 : Int) (g24 : yM), (r23 = 0) → (g17 90 19 = -1 → g24 = yset g17 90 19 (g17 90 17)) → (g17 90 19 ≠ -1 → g24 = g17) → (K [(1, r23)] g24)))))))))))) ∧ (¬ (r2 ≠ 40) → (∃ (o26 : Int), [(3, 90)] = [(3, 90)] ∧ (yMq o26 (yset (yset g 90 20 (yw ((g 90 20) + 1))) 90 17 (yw ((g 90 17) + 1)))) ∧ (o26 + (lv : Int) = 6 ∧ 0 ≤ o26) ∧ (∀ (r27 : Int) (g28 : yM), (yMo o26 (yset (yset g 90 20 (yw ((g 90 20) + 1))) 90 17 (yw ((g 90 17) + 1))) g28 (yEit (yTq (yset (yset g 90 20 (yw ((g 90 20) + 1))) 90 17 (yw ((g 90 17) + 1)))) (yOn (yTq (yset (yset g 90 20 (yw ((g 90 20) + 1))) 90 17 (yw ((g 90 17) + 1)))) lv) ((yset (yset g 90 20 (yw ((g 90 20) + 1))) 90 17 (yw ((g 90 17) + 1))) 90 17)) r27) → ((r2 ≠ 40 → ((r2 ≠ 40 → ((r2 ≠ 45 → ((r27 ≠ 0 → (K [(1, 0)] (yset g28 90 20 (yw ((g28 90 20) - 1))))) ∧ (¬ (r27 ≠ 0) → (K [(1, 1)] (yset g28 90 20 (yw ((g28 90 20) - 1))))))) ∧ (¬ (r2 ≠ 45) → (K [(1, (yw (-r27)))] (yset g28 90 20 (yw ((g28 90 20) - 1))))))) ∧ (¬ (r2 ≠ 40) → (K [(1, r27)] (yset g28 90 20 (yw ((g28 90 20) - 1))))))) ∧ (¬ (r2 ≠ 40) → (∃ (c34 : Int), [(3, 90), (1, 41)] = [(3, 90), (1, c34)] ∧ (0 ≤ g28 90 17) ∧ (g28 90 18 ≤ 60) ∧ (g28 90 16 = -1 ∨ g28 90 16 = 0) ∧ (g28 90 17 ≤ 60) ∧ (1 ≤ c34) ∧ (∀ (r35 : Int) (g36 : yM), ((r35 = 1 ∧ g28 90 19 < 0 ∧ yTq g28 (g28 90 17) = c34 ∧ g36 = yset g28 90 17 (g28 90 17 + 1)) ∨ (r35 = 0 ∧ (0 ≤ g28 90 19 ∨ yTq g28 (g28 90 17) ≠ c34) ∧ g36 = g28)) → ((r35 ≠ 0 → ((r2 ≠ 40 → ((r2 ≠ 45 → ((r27 ≠ 0 → (K [(1, 0)] (yset g36 90 20 (yw ((g36 90 20) - 1))))) ∧ (¬ (r27 ≠ 0) → (K [(1, 1)] (yset g36 90 20 (yw ((g36 90 20) - 1))))))) ∧ (¬ (r2 ≠ 45) → (K [(1, (yw (-r27)))] (yset g36 90 20 (yw ((g36 90 20) - 1))))))) ∧ (¬ (r2 ≠ 40) → (K [(1, r27)] (yset g36 90 20 (yw ((g36 90 20) - 1))))))) ∧ (¬ (r35 ≠ 0) → ([(3, 90)] = [(3, 90)] ∧ (0 ≤ g36 90 17 ∧ g36 90 17 ≤ 60) ∧ (-1 ≤ g36 90 19) ∧ (∀ (r42 : Int) (g43 : yM), (r42 = 0) → (g36 90 19 = -1 → g43 = yset g36 90 19 (g36 90 17)) → (g36 90 19 ≠ -1 → g43 = g36) → (K [(1, r42)] g43)))))))))))))) ∧ (¬ ((g 90 20) ≠ 6) → ([(3, 90)] = [(3, 90)] ∧ (0 ≤ g 90 17 ∧ g 90 17 ≤ 60) ∧ (-1 ≤ g 90 19) ∧ (∀ (r45 : Int) (g46 : yM), (r45 = 0) → (g 90 19 = -1 → g46 = yset g 90 19 (g 90 17)) → (g 90 19 ≠ -1 → g46 = g) → (K [(1, r45)] g46)))))) ∧ (¬ (r2 = 33) → ((r2 = 45 → (((g 90 20) ≠ 6 → ((r2 ≠ 40 → (∃ (o51 : Int), [(3, 90)] = [(3, 90)] ∧ (yMq o51 (yset (yset g 90 20 (yw ((g 90 20) + 1))) 90 17 (yw ((g 90 17) + 1)))) ∧ (o51 + (lv : Int) = 6 ∧ 0 ≤ o51) ∧ (∀ (r52 : Int) (g53 : yM), (yMo o51 (yset (yset g 90 20 (yw ((g 90 20) + 1))) 90 17 (yw ((g 90 17) + 1))) g53 (yOn (yTq (yset (yset g 90 20 (yw ((g 90 20) + 1))) 90 17 (yw ((g 90 17) + 1)))) lv ((yset (yset g 90 20 (yw ((g 90 20) + 1))) 90 17 (yw ((g 90 17) + 1))) 90 17)) r52) → ((r2 ≠ 40 → ((r2 ≠ 40 → ((r2 ≠ 45 → ((r52 ≠ 0 → (K [(1, 0)] (yset g53 90 20 (yw ((g53 90 20) - 1))))) ∧ (¬ (r52 ≠ 0) → (K [(1, 1)] (yset g53 90 20 (yw ((g53 90 20) - 1))))))) ∧ (¬ (r2 ≠ 45) → (K [(1, (yw (-r52)))] (yset g53 90 20 (yw ((g53 90 20) - 1))))))) ∧ (¬ (r2 ≠ 40) → (K [(1, r52)] (yset g53 90 20 (yw ((g53 90 20) - 1))))))) ∧ (¬ (r2 ≠ 40) → (∃ (c59 : Int), [(3, 90), (1, 41)] = [(3, 90), (1, c59)] ∧ (0 ≤ g53 90 17) ∧ (g53 90 18 ≤ 60) ∧ (g53 90 16 = -1 ∨ g53 90 16 = 0) ∧ (g53 90 17 ≤ 60) ∧ (1 ≤ c59) ∧ (∀ (r60 : Int) (g61 : yM), ((r60 = 1 ∧ g53 90 19 < 0 ∧ yTq g53 (g53 90 17) = c59 ∧ g61 = yset g53 90 17 (g53 90 17 + 1)) ∨ (r60 = 0 ∧ (0 ≤ g53 90 19 ∨ yTq g53 (g53 90 17) ≠ c59) ∧ g61 = g53)) → ((r60 ≠ 0 → ((r2 ≠ 40 → ((r2 ≠ 45 → ((r52 ≠ 0 → (K [(1, 0)] (yset g61 90 20 (yw ((g61 90 20) - 1))))) ∧ (¬ (r52 ≠ 0) → (K [(1, 1)] (yset g61 90 20 (yw ((g61 90 20) - 1))))))) ∧ (¬ (r2 ≠ 45) → (K [(1, (yw (-r52)))] (yset g61 90 20 (yw ((g61 90 20) - 1))))))) ∧ (¬ (r2 ≠ 40) → (K [(1, r52)] (yset g61 90 20 (yw ((g61 90 20) - 1))))))) ∧ (¬ (r60 ≠ 0) → ([(3, 90)] = [(3, 90)] ∧ (0 ≤ g61 90 17 ∧ g61 90 17 ≤ 60) ∧ (-1 ≤ g61 90 19) ∧ (∀ (r67 : Int) (g68 : yM), (r67 = 0) → (g61 90 19 = -1 → g68 = yset g61 90 19 (g61 90 17)) → (g61 90 19 ≠ -1 → g68 = g61) → (K [(1, r67)] g68)))))))))))) ∧ (¬ (r2 ≠ 40) → (∃ (o70 : Int), [(3, 90)] = [(3, 90)] ∧ (yMq o70 (yset (yset g 90 20 (yw ((g 90 20) + 1))) 90 17 (yw ((g 90 17) + 1)))) ∧ (o70 + (lv : Int) = 6 ∧ 0 ≤ o70) ∧ (∀ (r71 : Int) (g72 : yM), (yMo o70 (yset (yset g 90 20 (yw ((g 90 20) + 1))) 90 17 (yw ((g 90 17) + 1))) g72 (yEit (yTq (yset (yset g 90 20 (yw ((g 90 20) + 1))) 90 17 (yw ((g 90 17) + 1)))) (yOn (yTq (yset (yset g 90 20 (yw ((g 90 20) + 1))) 90 17 (yw ((g 90 17) + 1)))) lv) ((yset (yset g 90 20 (yw ((g 90 20) + 1))) 90 17 (yw ((g 90 17) + 1))) 90 17)) r71) → ((r2 ≠ 40 → ((r2 ≠ 40 → ((r2 ≠ 45 → ((r71 ≠ 0 → (K [(1, 0)] (yset g72 90 20 (yw ((g72 90 20) - 1))))) ∧ (¬ (r71 ≠ 0) → (K [(1, 1)] (yset g72 90 20 (yw ((g72 90 20) - 1))))))) ∧ (¬ (r2 ≠ 45) → (K [(1, (yw (-r71)))] (yset g72 90 20 (yw ((g72 90 20) - 1))))))) ∧ (¬ (r2 ≠ 40) → (K [(1, r71)] (yset g72 90 20 (yw ((g72 90 20) - 1))))))) ∧ (¬ (r2 ≠ 40) → (∃ (c78 : Int), [(3, 90), (1, 41)] = [(3, 90), (1, c78)] ∧ (0 ≤ g72 90 17) ∧ (g72 90 18 ≤ 60) ∧ (g72 90 16 = -1 ∨ g72 90 16 = 0) ∧ (g72 90 17 ≤ 60) ∧ (1 ≤ c78) ∧ (∀ (r79 : Int) (g80 : yM), ((r79 = 1 ∧ g72 90 19 < 0 ∧ yTq g72 (g72 90 17) = c78 ∧ g80 = yset g72 90 17 (g72 90 17 + 1)) ∨ (r79 = 0 ∧ (0 ≤ g72 90 19 ∨ yTq g72 (g72 90 17) ≠ c78) ∧ g80 = g72)) → ((r79 ≠ 0 → ((r2 ≠ 40 → ((r2 ≠ 45 → ((r71 ≠ 0 → (K [(1, 0)] (yset g80 90 20 (yw ((g80 90 20) - 1))))) ∧ (¬ (r71 ≠ 0) → (K [(1, 1)] (yset g80 90 20 (yw ((g80 90 20) - 1))))))) ∧ (¬ (r2 ≠ 45) → (K [(1, (yw (-r71)))] (yset g80 90 20 (yw ((g80 90 20) - 1))))))) ∧ (¬ (r2 ≠ 40) → (K [(1, r71)] (yset g80 90 20 (yw ((g80 90 20) - 1))))))) ∧ (¬ (r79 ≠ 0) → ([(3, 90)] = [(3, 90)] ∧ (0 ≤ g80 90 17 ∧ g80 90 17 ≤ 60) ∧ (-1 ≤ g80 90 19) ∧ (∀ (r86 : Int) (g87 : yM), (r86 = 0) → (g80 90 19 = -1 → g87 = yset g80 90 19 (g80 90 17)) → (g80 90 19 ≠ -1 → g87 = g80) → (K [(1, r86)] g87)))))))))))))) ∧ (¬ ((g 90 20) ≠ 6) → ([(3, 90)] = [(3, 90)] ∧ (0 ≤ g 90 17 ∧ g 90 17 ≤ 60) ∧ (-1 ≤ g 90 19) ∧ (∀ (r89 : Int) (g90 : yM), (r89 = 0) → (g 90 19 = -1 → g90 = yset g 90 19 (g 90 17)) → (g 90 19 ≠ -1 → g90 = g) → (K [(1, r89)] g90)))))) ∧ (¬ (r2 = 45) → ((r2 ≠ 40 → (∃ (c93 : Int), [(1, r2)] = [(1, c93)] ∧ (∀ (r94 : Int), (r94 = yKx c93) → ((r94 < 0 → (Y 176 [(3, 90), (1, r2), (1, r94), (1, 0), (1, 0)] [] g)) ∧ (¬ (r94 < 0) → (((0 : Int) ≤ r94 ∧ r94 < ((8 : Nat) : Int)) ∧ (K [(1, (g 100 (Int.toNat r94)))] (yset g 90 17 (yw ((g 90 17) + 1)))))))))) ∧ (¬ (r2 ≠ 40) → (((g 90 20) ≠ 6 → ((r2 ≠ 40 → (∃ (o99 : Int), [(3, 90)] = [(3, 90)] ∧ (yMq o99 (yset (yset g 90 20 (yw ((g 90 20) + 1))) 90 17 (yw ((g 90 17) + 1)))) ∧ (o99 + (lv : Int) = 6 ∧ 0 ≤ o99) ∧ (∀ (r100 : Int) (g101 : yM), (yMo o99 (yset (yset g 90 20 (yw ((g 90 20) + 1))) 90 17 (yw ((g 90 17) + 1))) g101 (yOn (yTq (yset (yset g 90 20 (yw ((g 90 20) + 1))) 90 17 (yw ((g 90 17) + 1)))) lv ((yset (yset g 90 20 (yw ((g 90 20) + 1))) 90 17 (yw ((g 90 17) + 1))) 90 17)) r100) → ((r2 ≠ 40 → ((r2 ≠ 40 → ((r2 ≠ 45 → ((r100 ≠ 0 → (K [(1, 0)] (yset g101 90 20 (yw ((g101 90 20) - 1))))) ∧ (¬ (r100 ≠ 0) → (K [(1, 1)] (yset g101 90 20 (yw ((g101 90 20) - 1))))))) ∧ (¬ (r2 ≠ 45) → (K [(1, (yw (-r100)))] (yset g101 90 20 (yw ((g101 90 20) - 1))))))) ∧ (¬ (r2 ≠ 40) → (K [(1, r100)] (yset g101 90 20 (yw ((g101 90 20) - 1))))))) ∧ (¬ (r2 ≠ 40) → (∃ (c107 : Int), [(3, 90), (1, 41)] = [(3, 90), (1, c107)] ∧ (0 ≤ g101 90 17) ∧ (g101 90 18 ≤ 60) ∧ (g101 90 16 = -1 ∨ g101 90 16 = 0) ∧ (g101 90 17 ≤ 60) ∧ (1 ≤ c107) ∧ (∀ (r108 : Int) (g109 : yM), ((r108 = 1 ∧ g101 90 19 < 0 ∧ yTq g101 (g101 90 17) = c107 ∧ g109 = yset g101 90 17 (g101 90 17 + 1)) ∨ (r108 = 0 ∧ (0 ≤ g101 90 19 ∨ yTq g101 (g101 90 17) ≠ c107) ∧ g109 = g101)) → ((r108 ≠ 0 → ((r2 ≠ 40 → ((r2 ≠ 45 → ((r100 ≠ 0 → (K [(1, 0)] (yset g109 90 20 (yw ((g109 90 20) - 1))))) ∧ (¬ (r100 ≠ 0) → (K [(1, 1)] (yset g109 90 20 (yw ((g109 90 20) - 1))))))) ∧ (¬ (r2 ≠ 45) → (K [(1, (yw (-r100)))] (yset g109 90 20 (yw ((g109 90 20) - 1))))))) ∧ (¬ (r2 ≠ 40) → (K [(1, r100)] (yset g109 90 20 (yw ((g109 90 20) - 1))))))) ∧ (¬ (r108 ≠ 0) → ([(3, 90)] = [(3, 90)] ∧ (0 ≤ g109 90 17 ∧ g109 90 17 ≤ 60) ∧ (-1 ≤ g109 90 19) ∧ (∀ (r115 : Int) (g116 : yM), (r115 = 0) → (g109 90 19 = -1 → g116 = yset g109 90 19 (g109 90 17)) → (g109 90 19 ≠ -1 → g116 = g109) → (K [(1, r115)] g116)))))))))))) ∧ (¬ (r2 ≠ 40) → (∃ (o118 : Int), [(3, 90)] = [(3, 90)] ∧ (yMq o118 (yset (yset g 90 20 (yw ((g 90 20) + 1))) 90 17 (yw ((g 90 17) + 1)))) ∧ (o118 + (lv : Int) = 6 ∧ 0 ≤ o118) ∧ (∀ (r119 : Int) (g120 : yM), (yMo o118 (yset (yset g 90 20 (yw ((g 90 20) + 1))) 90 17 (yw ((g 90 17) + 1))) g120 (yEit (yTq (yset (yset g 90 20 (yw ((g 90 20) + 1))) 90 17 (yw ((g 90 17) + 1)))) (yOn (yTq (yset (yset g 90 20 (yw ((g 90 20) + 1))) 90 17 (yw ((g 90 17) + 1)))) lv) ((yset (yset g 90 20 (yw ((g 90 20) + 1))) 90 17 (yw ((g 90 17) + 1))) 90 17)) r119) → ((r2 ≠ 40 → ((r2 ≠ 40 → ((r2 ≠ 45 → ((r119 ≠ 0 → (K [(1, 0)] (yset g120 90 20 (yw ((g120 90 20) - 1))))) ∧ (¬ (r119 ≠ 0) → (K [(1, 1)] (yset g120 90 20 (yw ((g120 90 20) - 1))))))) ∧ (¬ (r2 ≠ 45) → (K [(1, (yw (-r119)))] (yset g120 90 20 (yw ((g120 90 20) - 1))))))) ∧ (¬ (r2 ≠ 40) → (K [(1, r119)] (yset g120 90 20 (yw ((g120 90 20) - 1))))))) ∧ (¬ (r2 ≠ 40) → (∃ (c126 : Int), [(3, 90), (1, 41)] = [(3, 90), (1, c126)] ∧ (0 ≤ g120 90 17) ∧ (g120 90 18 ≤ 60) ∧ (g120 90 16 = -1 ∨ g120 90 16 = 0) ∧ (g120 90 17 ≤ 60) ∧ (1 ≤ c126) ∧ (∀ (r127 : Int) (g128 : yM), ((r127 = 1 ∧ g120 90 19 < 0 ∧ yTq g120 (g120 90 17) = c126 ∧ g128 = yset g120 90 17 (g120 90 17 + 1)) ∨ (r127 = 0 ∧ (0 ≤ g120 90 19 ∨ yTq g120 (g120 90 17) ≠ c126) ∧ g128 = g120)) → ((r127 ≠ 0 → ((r2 ≠ 40 → ((r2 ≠ 45 → ((r119 ≠ 0 → (K [(1, 0)] (yset g128 90 20 (yw ((g128 90 20) - 1))))) ∧ (¬ (r119 ≠ 0) → (K [(1, 1)] (yset g128 90 20 (yw ((g128 90 20) - 1))))))) ∧ (¬ (r2 ≠ 45) → (K [(1, (yw (-r119)))] (yset g128 90 20 (yw ((g128 90 20) - 1))))))) ∧ (¬ (r2 ≠ 40) → (K [(1, r119)] (yset g128 90 20 (yw ((g128 90 20) - 1))))))) ∧ (¬ (r127 ≠ 0) → ([(3, 90)] = [(3, 90)] ∧ (0 ≤ g128 90 17 ∧ g128 90 17 ≤ 60) ∧ (-1 ≤ g128 90 19) ∧ (∀ (r134 : Int) (g135 : yM), (r134 = 0) → (g128 90 19 = -1 → g135 = yset g128 90 19 (g128 90 17)) → (g128 90 19 ≠ -1 → g135 = g128) → (K [(1, r134)] g135)))))))))))))) ∧ (¬ ((g 90 20) ≠ 6) → ([(3, 90)] = [(3, 90)] ∧ (0 ≤ g 90 17 ∧ g 90 17 ≤ 60) ∧ (-1 ≤ g 90 19) ∧ (∀ (r137 : Int) (g138 : yM), (r137 = 0) → (g 90 19 = -1 → g138 = yset g 90 19 (g 90 17)) → (g 90 19 ≠ -1 → g138 = g) → (K [(1, r137)] g138)))))))))))))) ∧ (¬ ((g 90 19) < 0) → (K [(1, 0)] g)))
  refine ⟨fun h1 => ?_, fun h1 => ?_⟩
  · refine ⟨rfl, (by omega), (by omega), (by omega), ?_⟩
    intro r2 p30
    refine ⟨fun h4 => ?_, fun h4 => ?_⟩
    · refine ⟨fun h5 => ?_, fun h5 => ?_⟩
      · refine ⟨fun h6 => ?_, fun h6 => ?_⟩
        · refine ⟨(o + 1), rfl, (by
      have h61 := h60 (by omega)
      rw [hop, show yw (o + 1) = o + 1 from yw_s _ (by omega) (by omega), yw_s (g 90 17 + 1) (by omega) (by omega)]
      exact hp.dn ⟨by omega, by omega⟩ h61), (by omega), ?_⟩
          intro r8 g9 p100
          rw [hop, show yw (o + 1) = o + 1 from yw_s _ (by omega) (by omega), yw_s (g 90 17 + 1) (by omega) (by omega)] at p100
          rw [show yTq (yset (yset g 90 20 (o + 1)) 90 17 (g 90 17 + 1)) = yTq g from (yXm.st (yXm.st (fun _ _ _ => rfl) (Or.inr (Or.inr rfl))) (Or.inl rfl)).tq, yset_eq] at p100
          obtain ⟨x1_p100, x2_p100, x3_p100, x4_p100, x5_p100, x6_p100⟩ := id p100
          refine ⟨fun h11 => ?_, fun h11 => ?_⟩
          · refine ⟨fun h12 => ?_, fun h12 => ?_⟩
            · refine ⟨fun h13 => ?_, fun h13 => ?_⟩
              · refine ⟨fun h14 => ?_, fun h14 => ?_⟩
                · have h61 := h60 (by omega)
                  obtain ⟨u1, u2, u3, u4, u5⟩ := yMo.up hp ⟨by omega, by omega⟩ p100
                  have hxr := yOn_gd tg lv (g 90 17 + 1) (by omega) (by omega)
                  have hb : yTq g (g 90 17) = 33 := by omega
                  have es : (if yTq g (g 90 17) = 45 then (77 : Int) else yTq g (g 90 17)) = 33 := by rw [hb]; rfl
                  refine hK _ _ ?_
                  rw [yOn_u (by omega), es]
                  by_cases e1 : (yOn (yTq g) lv (g 90 17 + 1)).1 = -1
                  · rw [if_pos e1]
                    obtain ⟨v1, v2, v3⟩ := u2 e1
                    have e20 : yw (g9 90 20 - 1) = o := by rw [v2]; have := yw_s (o + 1 - 1) (by omega) (by omega); omega
                    rw [e20]
                    have v4 := v3.no
                    rw [if_neg (by omega)] at v4
                    exact yMo.end x1_p100 u1 (x3_p100.trans e1) x4_p100 ⟨by omega, by omega⟩ rfl v1 v4
                  · rw [if_neg e1, yw_s (g9 90 20 - 1) (by omega) (by omega)]
                    exact ⟨x1_p100.sO (List.mem_of_getElem? (i := 42) rfl) rfl (by decide +kernel) ⟨by omega, by omega⟩, u1.st (Or.inr (Or.inr rfl)), by rw [yset_nj (by decide)]; exact x3_p100, by rw [yset_nj (by decide)]; exact x4_p100, by rw [yset_eq]; omega, fun z => absurd z e1⟩
                · have h61 := h60 (by omega)
                  obtain ⟨u1, u2, u3, u4, u5⟩ := yMo.up hp ⟨by omega, by omega⟩ p100
                  have hxr := yOn_gd tg lv (g 90 17 + 1) (by omega) (by omega)
                  have hb : yTq g (g 90 17) = 33 := by omega
                  have es : (if yTq g (g 90 17) = 45 then (77 : Int) else yTq g (g 90 17)) = 33 := by rw [hb]; rfl
                  refine hK _ _ ?_
                  rw [yOn_u (by omega), es]
                  by_cases e1 : (yOn (yTq g) lv (g 90 17 + 1)).1 = -1
                  · rw [if_pos e1]
                    obtain ⟨v1, v2, v3⟩ := u2 e1
                    have e20 : yw (g9 90 20 - 1) = o := by rw [v2]; have := yw_s (o + 1 - 1) (by omega) (by omega); omega
                    rw [e20]
                    have v4 := v3.no
                    rw [if_pos (by omega)] at v4
                    exact yMo.end x1_p100 u1 (x3_p100.trans e1) x4_p100 ⟨by omega, by omega⟩ rfl v1 v4
                  · rw [if_neg e1, yw_s (g9 90 20 - 1) (by omega) (by omega)]
                    exact ⟨x1_p100.sO (List.mem_of_getElem? (i := 42) rfl) rfl (by decide +kernel) ⟨by omega, by omega⟩, u1.st (Or.inr (Or.inr rfl)), by rw [yset_nj (by decide)]; exact x3_p100, by rw [yset_nj (by decide)]; exact x4_p100, by rw [yset_eq]; omega, fun z => absurd z e1⟩
              · have h61 := h60 (by omega)
                obtain ⟨u1, u2, u3, u4, u5⟩ := yMo.up hp ⟨by omega, by omega⟩ p100
                have hxr := yOn_gd tg lv (g 90 17 + 1) (by omega) (by omega)
                have hb : yTq g (g 90 17) = 45 := by omega
                have es : (if yTq g (g 90 17) = 45 then (77 : Int) else yTq g (g 90 17)) = 77 := by rw [hb]; rfl
                refine hK _ _ ?_
                rw [yOn_u (by omega), es]
                by_cases e1 : (yOn (yTq g) lv (g 90 17 + 1)).1 = -1
                · rw [if_pos e1]
                  obtain ⟨v1, v2, v3⟩ := u2 e1
                  have e20 : yw (g9 90 20 - 1) = o := by rw [v2]; have := yw_s (o + 1 - 1) (by omega) (by omega); omega
                  rw [e20]
                  exact yMo.end x1_p100 u1 (x3_p100.trans e1) x4_p100 ⟨by omega, by omega⟩ rfl v1 v3.neg
                · rw [if_neg e1, yw_s (g9 90 20 - 1) (by omega) (by omega)]
                  exact ⟨x1_p100.sO (List.mem_of_getElem? (i := 42) rfl) rfl (by decide +kernel) ⟨by omega, by omega⟩, u1.st (Or.inr (Or.inr rfl)), by rw [yset_nj (by decide)]; exact x3_p100, by rw [yset_nj (by decide)]; exact x4_p100, by rw [yset_eq]; omega, fun z => absurd z e1⟩
            · omega
          · refine ⟨_, rfl, (by
      have h61 := h60 (by omega)
      have up := yMo.up hp ⟨by omega, by omega⟩ p100
      obtain ⟨u1, u2, u3, u4, u5⟩ := up
      have hxr := (yOn_gd tg lv (g 90 17 + 1) (by omega) (by omega)).2
      omega), (by
      have h61 := h60 (by omega)
      have up := yMo.up hp ⟨by omega, by omega⟩ p100
      obtain ⟨u1, u2, u3, u4, u5⟩ := up
      have hxr := (yOn_gd tg lv (g 90 17 + 1) (by omega) (by omega)).2
      omega), (by
      have h61 := h60 (by omega)
      have up := yMo.up hp ⟨by omega, by omega⟩ p100
      obtain ⟨u1, u2, u3, u4, u5⟩ := up
      have hxr := (yOn_gd tg lv (g 90 17 + 1) (by omega) (by omega)).2
      omega), (by
      have h61 := h60 (by omega)
      have up := yMo.up hp ⟨by omega, by omega⟩ p100
      obtain ⟨u1, u2, u3, u4, u5⟩ := up
      have hxr := (yOn_gd tg lv (g 90 17 + 1) (by omega) (by omega)).2
      omega), (by
      have h61 := h60 (by omega)
      have up := yMo.up hp ⟨by omega, by omega⟩ p100
      obtain ⟨u1, u2, u3, u4, u5⟩ := up
      have hxr := (yOn_gd tg lv (g 90 17 + 1) (by omega) (by omega)).2
      omega), ?_⟩
            intro r16 g17 p180
            refine ⟨fun h19 => ?_, fun h19 => ?_⟩
            · obtain ⟨ap180, bp180, ep180⟩ : g9 90 19 < 0 ∧ yTq g9 (g9 90 17) = 41 ∧ g17 = (yset g9 90 17 (g9 90 17 + 1)) := by
                rcases p180 with ⟨-, z⟩ | ⟨z, -⟩
                · exact z
                · omega
              subst ep180
              refine ⟨fun h20 => ?_, fun h20 => ?_⟩
              · refine ⟨fun h21 => ?_, fun h21 => ?_⟩
                · refine ⟨fun h22 => ?_, fun h22 => ?_⟩
                  · omega
                  · omega
                · omega
              · omega
            · obtain ⟨bp180, ep180⟩ : (0 ≤ g9 90 19 ∨ yTq g9 (g9 90 17) ≠ 41) ∧ g9 = g17 := by
                rcases p180 with ⟨z, -⟩ | ⟨-, z1, z2⟩
                · omega
                · exact ⟨z1, z2.symm⟩
              subst ep180
              refine ⟨rfl, (by
      have h61 := h60 (by omega)
      have up := yMo.up hp ⟨by omega, by omega⟩ p100
      obtain ⟨u1, u2, u3, u4, u5⟩ := up
      have hxr := (yOn_gd tg lv (g 90 17 + 1) (by omega) (by omega)).2
      omega), (by
      have h61 := h60 (by omega)
      have up := yMo.up hp ⟨by omega, by omega⟩ p100
      obtain ⟨u1, u2, u3, u4, u5⟩ := up
      have hxr := (yOn_gd tg lv (g 90 17 + 1) (by omega) (by omega)).2
      omega), ?_⟩
              intro r23 g24 p250 p251 p252
              omega
        · refine ⟨(o + 1), rfl, (by
      have h61 := h60 (by omega)
      rw [hop, show yw (o + 1) = o + 1 from yw_s _ (by omega) (by omega), yw_s (g 90 17 + 1) (by omega) (by omega)]
      exact hp.dn ⟨by omega, by omega⟩ h61), (by omega), ?_⟩
          intro r27 g28 p290
          rw [hop, show yw (o + 1) = o + 1 from yw_s _ (by omega) (by omega), yw_s (g 90 17 + 1) (by omega) (by omega)] at p290
          rw [show yTq (yset (yset g 90 20 (o + 1)) 90 17 (g 90 17 + 1)) = yTq g from (yXm.st (yXm.st (fun _ _ _ => rfl) (Or.inr (Or.inr rfl))) (Or.inl rfl)).tq, yset_eq] at p290
          obtain ⟨x1_p290, x2_p290, x3_p290, x4_p290, x5_p290, x6_p290⟩ := id p290
          refine ⟨fun h30 => ?_, fun h30 => ?_⟩
          · refine ⟨fun h31 => ?_, fun h31 => ?_⟩
            · refine ⟨fun h32 => ?_, fun h32 => ?_⟩
              · refine ⟨fun h33 => ?_, fun h33 => ?_⟩
                · omega
                · omega
              · omega
            · omega
          · refine ⟨_, rfl, (by
      have h61 := h60 (by omega)
      have up := yMo.up hp ⟨by omega, by omega⟩ p290
      obtain ⟨u1, u2, u3, u4, u5⟩ := up
      have hxr := (yEit_gd tg (yOn_gd tg lv) (g 90 17 + 1) (by omega) (by omega)).2
      omega), (by
      have h61 := h60 (by omega)
      have up := yMo.up hp ⟨by omega, by omega⟩ p290
      obtain ⟨u1, u2, u3, u4, u5⟩ := up
      have hxr := (yEit_gd tg (yOn_gd tg lv) (g 90 17 + 1) (by omega) (by omega)).2
      omega), (by
      have h61 := h60 (by omega)
      have up := yMo.up hp ⟨by omega, by omega⟩ p290
      obtain ⟨u1, u2, u3, u4, u5⟩ := up
      have hxr := (yEit_gd tg (yOn_gd tg lv) (g 90 17 + 1) (by omega) (by omega)).2
      omega), (by
      have h61 := h60 (by omega)
      have up := yMo.up hp ⟨by omega, by omega⟩ p290
      obtain ⟨u1, u2, u3, u4, u5⟩ := up
      have hxr := (yEit_gd tg (yOn_gd tg lv) (g 90 17 + 1) (by omega) (by omega)).2
      omega), (by
      have h61 := h60 (by omega)
      have up := yMo.up hp ⟨by omega, by omega⟩ p290
      obtain ⟨u1, u2, u3, u4, u5⟩ := up
      have hxr := (yEit_gd tg (yOn_gd tg lv) (g 90 17 + 1) (by omega) (by omega)).2
      omega), ?_⟩
            intro r35 g36 p370
            refine ⟨fun h38 => ?_, fun h38 => ?_⟩
            · obtain ⟨ap370, bp370, ep370⟩ : g28 90 19 < 0 ∧ yTq g28 (g28 90 17) = 41 ∧ g36 = (yset g28 90 17 (g28 90 17 + 1)) := by
                rcases p370 with ⟨-, z⟩ | ⟨z, -⟩
                · exact z
                · omega
              subst ep370
              refine ⟨fun h39 => ?_, fun h39 => ?_⟩
              · refine ⟨fun h40 => ?_, fun h40 => ?_⟩
                · refine ⟨fun h41 => ?_, fun h41 => ?_⟩
                  · omega
                  · omega
                · omega
              · have h61 := h60 (by omega)
                obtain ⟨u1, u2, u3, u4, u5⟩ := yMo.up hp ⟨by omega, by omega⟩ p290
                have hb : yTq g (g 90 17) = 40 := by omega
                have hxr := yEit_gd tg (yOn_gd tg lv) (g 90 17 + 1) (by omega) (by omega)
                rw [u3] at bp370
                have e1 : (yEit (yTq g) (yOn (yTq g) lv) (g 90 17 + 1)).1 = -1 := by have := hxr.2; have := x3_p290; have := ap370; omega
                obtain ⟨v1, v2, v3⟩ := u2 e1
                rw [v1] at bp370
                have e3 := hxr.1 e1
                have h62 := tg (yEit (yTq g) (yOn (yTq g) lv) (g 90 17 + 1)).2.1 (by omega) (by omega)
                refine hK _ _ ?_
                rw [yOn_b hb, if_pos e1, if_pos bp370]
                rw [show (yset g28 90 17 (g28 90 17 + 1)) 90 20 = o + 1 from (yset_nj (by decide)).trans v2, show yw (o + 1 - 1) = o from by have := yw_s (o + 1 - 1) (by omega) (by omega); omega]
                refine yMo.end (x1_p290.sO (List.mem_of_getElem? (i := 42) rfl) rfl (by decide +kernel) ⟨by omega, by omega⟩) (u1.st (Or.inl rfl)) ?_ ?_ ⟨by omega, by omega⟩ rfl ?_ v3
                · rw [yset_nj (by decide), x3_p290]
                  exact e1
                · rw [yset_eq]
                  omega
                · rw [yset_eq, v1]
            · obtain ⟨bp370, ep370⟩ : (0 ≤ g28 90 19 ∨ yTq g28 (g28 90 17) ≠ 41) ∧ g28 = g36 := by
                rcases p370 with ⟨z, -⟩ | ⟨-, z1, z2⟩
                · omega
                · exact ⟨z1, z2.symm⟩
              subst ep370
              refine ⟨rfl, (by
      have h61 := h60 (by omega)
      have up := yMo.up hp ⟨by omega, by omega⟩ p290
      obtain ⟨u1, u2, u3, u4, u5⟩ := up
      have hxr := (yEit_gd tg (yOn_gd tg lv) (g 90 17 + 1) (by omega) (by omega)).2
      omega), (by
      have h61 := h60 (by omega)
      have up := yMo.up hp ⟨by omega, by omega⟩ p290
      obtain ⟨u1, u2, u3, u4, u5⟩ := up
      have hxr := (yEit_gd tg (yOn_gd tg lv) (g 90 17 + 1) (by omega) (by omega)).2
      omega), ?_⟩
              intro r42 g43 p440 p441 p442
              have h61 := h60 (by omega)
              obtain ⟨u1, u2, u3, u4, u5⟩ := yMo.up hp ⟨by omega, by omega⟩ p290
              have hb : yTq g (g 90 17) = 40 := by omega
              have hxr := yEit_gd tg (yOn_gd tg lv) (g 90 17 + 1) (by omega) (by omega)
              rw [u3] at bp370
              by_cases e1 : (yEit (yTq g) (yOn (yTq g) lv) (g 90 17 + 1)).1 = -1
              · have e := p441 (x3_p290.trans e1)
                subst e
                obtain ⟨v1, v2, v3⟩ := u2 e1
                have e3 := hxr.1 e1
                have e4 : yTq g (yEit (yTq g) (yOn (yTq g) lv) (g 90 17 + 1)).2.1 ≠ 41 := by
                  rw [← v1]
                  have := x3_p290.trans e1
                  omega
                refine hK _ _ ?_
                rw [yOn_b hb, if_pos e1, if_neg e4]
                refine ⟨x1_p290.sO (List.mem_of_getElem? (i := 42) rfl) rfl (by decide +kernel) ⟨by omega, by omega⟩, u1.st (Or.inr (Or.inl rfl)), ?_, ?_, ?_, fun z => ?_⟩
                · rw [yset_eq]
                  exact v1
                · rw [yset_nj (by decide)]
                  exact x4_p290
                · rw [yset_nj (by decide)]
                  omega
                · have z : (yEit (yTq g) (yOn (yTq g) lv) (g 90 17 + 1)).2.1 = -1 := z
                  omega
              · have e := (p442 (fun z1 => e1 (x3_p290.symm.trans z1))).symm
                subst e
                refine hK _ _ ?_
                rw [yOn_b hb, if_neg e1]
                exact ⟨x1_p290, u1, x3_p290, x4_p290, ⟨by omega, by omega⟩, fun z => absurd z e1⟩
      · refine ⟨rfl, (by omega), (by omega), ?_⟩
        intro r45 g46 p470 p471 p472
        omega
    · refine ⟨fun h48 => ?_, fun h48 => ?_⟩
      · refine ⟨fun h49 => ?_, fun h49 => ?_⟩
        · refine ⟨fun h50 => ?_, fun h50 => ?_⟩
          · refine ⟨(o + 1), rfl, (by
      have h61 := h60 (by omega)
      rw [hop, show yw (o + 1) = o + 1 from yw_s _ (by omega) (by omega), yw_s (g 90 17 + 1) (by omega) (by omega)]
      exact hp.dn ⟨by omega, by omega⟩ h61), (by omega), ?_⟩
            intro r52 g53 p540
            rw [hop, show yw (o + 1) = o + 1 from yw_s _ (by omega) (by omega), yw_s (g 90 17 + 1) (by omega) (by omega)] at p540
            rw [show yTq (yset (yset g 90 20 (o + 1)) 90 17 (g 90 17 + 1)) = yTq g from (yXm.st (yXm.st (fun _ _ _ => rfl) (Or.inr (Or.inr rfl))) (Or.inl rfl)).tq, yset_eq] at p540
            obtain ⟨x1_p540, x2_p540, x3_p540, x4_p540, x5_p540, x6_p540⟩ := id p540
            refine ⟨fun h55 => ?_, fun h55 => ?_⟩
            · refine ⟨fun h56 => ?_, fun h56 => ?_⟩
              · refine ⟨fun h57 => ?_, fun h57 => ?_⟩
                · refine ⟨fun h58 => ?_, fun h58 => ?_⟩
                  · have h61 := h60 (by omega)
                    obtain ⟨u1, u2, u3, u4, u5⟩ := yMo.up hp ⟨by omega, by omega⟩ p540
                    have hxr := yOn_gd tg lv (g 90 17 + 1) (by omega) (by omega)
                    have hb : yTq g (g 90 17) = 33 := by omega
                    have es : (if yTq g (g 90 17) = 45 then (77 : Int) else yTq g (g 90 17)) = 33 := by rw [hb]; rfl
                    refine hK _ _ ?_
                    rw [yOn_u (by omega), es]
                    by_cases e1 : (yOn (yTq g) lv (g 90 17 + 1)).1 = -1
                    · rw [if_pos e1]
                      obtain ⟨v1, v2, v3⟩ := u2 e1
                      have e20 : yw (g53 90 20 - 1) = o := by rw [v2]; have := yw_s (o + 1 - 1) (by omega) (by omega); omega
                      rw [e20]
                      have v4 := v3.no
                      rw [if_neg (by omega)] at v4
                      exact yMo.end x1_p540 u1 (x3_p540.trans e1) x4_p540 ⟨by omega, by omega⟩ rfl v1 v4
                    · rw [if_neg e1, yw_s (g53 90 20 - 1) (by omega) (by omega)]
                      exact ⟨x1_p540.sO (List.mem_of_getElem? (i := 42) rfl) rfl (by decide +kernel) ⟨by omega, by omega⟩, u1.st (Or.inr (Or.inr rfl)), by rw [yset_nj (by decide)]; exact x3_p540, by rw [yset_nj (by decide)]; exact x4_p540, by rw [yset_eq]; omega, fun z => absurd z e1⟩
                  · have h61 := h60 (by omega)
                    obtain ⟨u1, u2, u3, u4, u5⟩ := yMo.up hp ⟨by omega, by omega⟩ p540
                    have hxr := yOn_gd tg lv (g 90 17 + 1) (by omega) (by omega)
                    have hb : yTq g (g 90 17) = 33 := by omega
                    have es : (if yTq g (g 90 17) = 45 then (77 : Int) else yTq g (g 90 17)) = 33 := by rw [hb]; rfl
                    refine hK _ _ ?_
                    rw [yOn_u (by omega), es]
                    by_cases e1 : (yOn (yTq g) lv (g 90 17 + 1)).1 = -1
                    · rw [if_pos e1]
                      obtain ⟨v1, v2, v3⟩ := u2 e1
                      have e20 : yw (g53 90 20 - 1) = o := by rw [v2]; have := yw_s (o + 1 - 1) (by omega) (by omega); omega
                      rw [e20]
                      have v4 := v3.no
                      rw [if_pos (by omega)] at v4
                      exact yMo.end x1_p540 u1 (x3_p540.trans e1) x4_p540 ⟨by omega, by omega⟩ rfl v1 v4
                    · rw [if_neg e1, yw_s (g53 90 20 - 1) (by omega) (by omega)]
                      exact ⟨x1_p540.sO (List.mem_of_getElem? (i := 42) rfl) rfl (by decide +kernel) ⟨by omega, by omega⟩, u1.st (Or.inr (Or.inr rfl)), by rw [yset_nj (by decide)]; exact x3_p540, by rw [yset_nj (by decide)]; exact x4_p540, by rw [yset_eq]; omega, fun z => absurd z e1⟩
                · have h61 := h60 (by omega)
                  obtain ⟨u1, u2, u3, u4, u5⟩ := yMo.up hp ⟨by omega, by omega⟩ p540
                  have hxr := yOn_gd tg lv (g 90 17 + 1) (by omega) (by omega)
                  have hb : yTq g (g 90 17) = 45 := by omega
                  have es : (if yTq g (g 90 17) = 45 then (77 : Int) else yTq g (g 90 17)) = 77 := by rw [hb]; rfl
                  refine hK _ _ ?_
                  rw [yOn_u (by omega), es]
                  by_cases e1 : (yOn (yTq g) lv (g 90 17 + 1)).1 = -1
                  · rw [if_pos e1]
                    obtain ⟨v1, v2, v3⟩ := u2 e1
                    have e20 : yw (g53 90 20 - 1) = o := by rw [v2]; have := yw_s (o + 1 - 1) (by omega) (by omega); omega
                    rw [e20]
                    exact yMo.end x1_p540 u1 (x3_p540.trans e1) x4_p540 ⟨by omega, by omega⟩ rfl v1 v3.neg
                  · rw [if_neg e1, yw_s (g53 90 20 - 1) (by omega) (by omega)]
                    exact ⟨x1_p540.sO (List.mem_of_getElem? (i := 42) rfl) rfl (by decide +kernel) ⟨by omega, by omega⟩, u1.st (Or.inr (Or.inr rfl)), by rw [yset_nj (by decide)]; exact x3_p540, by rw [yset_nj (by decide)]; exact x4_p540, by rw [yset_eq]; omega, fun z => absurd z e1⟩
              · omega
            · refine ⟨_, rfl, (by
      have h61 := h60 (by omega)
      have up := yMo.up hp ⟨by omega, by omega⟩ p540
      obtain ⟨u1, u2, u3, u4, u5⟩ := up
      have hxr := (yOn_gd tg lv (g 90 17 + 1) (by omega) (by omega)).2
      omega), (by
      have h61 := h60 (by omega)
      have up := yMo.up hp ⟨by omega, by omega⟩ p540
      obtain ⟨u1, u2, u3, u4, u5⟩ := up
      have hxr := (yOn_gd tg lv (g 90 17 + 1) (by omega) (by omega)).2
      omega), (by
      have h61 := h60 (by omega)
      have up := yMo.up hp ⟨by omega, by omega⟩ p540
      obtain ⟨u1, u2, u3, u4, u5⟩ := up
      have hxr := (yOn_gd tg lv (g 90 17 + 1) (by omega) (by omega)).2
      omega), (by
      have h61 := h60 (by omega)
      have up := yMo.up hp ⟨by omega, by omega⟩ p540
      obtain ⟨u1, u2, u3, u4, u5⟩ := up
      have hxr := (yOn_gd tg lv (g 90 17 + 1) (by omega) (by omega)).2
      omega), (by
      have h61 := h60 (by omega)
      have up := yMo.up hp ⟨by omega, by omega⟩ p540
      obtain ⟨u1, u2, u3, u4, u5⟩ := up
      have hxr := (yOn_gd tg lv (g 90 17 + 1) (by omega) (by omega)).2
      omega), ?_⟩
              intro r60 g61 p620
              refine ⟨fun h63 => ?_, fun h63 => ?_⟩
              · obtain ⟨ap620, bp620, ep620⟩ : g53 90 19 < 0 ∧ yTq g53 (g53 90 17) = 41 ∧ g61 = (yset g53 90 17 (g53 90 17 + 1)) := by
                  rcases p620 with ⟨-, z⟩ | ⟨z, -⟩
                  · exact z
                  · omega
                subst ep620
                refine ⟨fun h64 => ?_, fun h64 => ?_⟩
                · refine ⟨fun h65 => ?_, fun h65 => ?_⟩
                  · refine ⟨fun h66 => ?_, fun h66 => ?_⟩
                    · omega
                    · omega
                  · omega
                · omega
              · obtain ⟨bp620, ep620⟩ : (0 ≤ g53 90 19 ∨ yTq g53 (g53 90 17) ≠ 41) ∧ g53 = g61 := by
                  rcases p620 with ⟨z, -⟩ | ⟨-, z1, z2⟩
                  · omega
                  · exact ⟨z1, z2.symm⟩
                subst ep620
                refine ⟨rfl, (by
      have h61 := h60 (by omega)
      have up := yMo.up hp ⟨by omega, by omega⟩ p540
      obtain ⟨u1, u2, u3, u4, u5⟩ := up
      have hxr := (yOn_gd tg lv (g 90 17 + 1) (by omega) (by omega)).2
      omega), (by
      have h61 := h60 (by omega)
      have up := yMo.up hp ⟨by omega, by omega⟩ p540
      obtain ⟨u1, u2, u3, u4, u5⟩ := up
      have hxr := (yOn_gd tg lv (g 90 17 + 1) (by omega) (by omega)).2
      omega), ?_⟩
                intro r67 g68 p690 p691 p692
                omega
          · refine ⟨(o + 1), rfl, (by
      have h61 := h60 (by omega)
      rw [hop, show yw (o + 1) = o + 1 from yw_s _ (by omega) (by omega), yw_s (g 90 17 + 1) (by omega) (by omega)]
      exact hp.dn ⟨by omega, by omega⟩ h61), (by omega), ?_⟩
            intro r71 g72 p730
            rw [hop, show yw (o + 1) = o + 1 from yw_s _ (by omega) (by omega), yw_s (g 90 17 + 1) (by omega) (by omega)] at p730
            rw [show yTq (yset (yset g 90 20 (o + 1)) 90 17 (g 90 17 + 1)) = yTq g from (yXm.st (yXm.st (fun _ _ _ => rfl) (Or.inr (Or.inr rfl))) (Or.inl rfl)).tq, yset_eq] at p730
            obtain ⟨x1_p730, x2_p730, x3_p730, x4_p730, x5_p730, x6_p730⟩ := id p730
            refine ⟨fun h74 => ?_, fun h74 => ?_⟩
            · refine ⟨fun h75 => ?_, fun h75 => ?_⟩
              · refine ⟨fun h76 => ?_, fun h76 => ?_⟩
                · refine ⟨fun h77 => ?_, fun h77 => ?_⟩
                  · omega
                  · omega
                · omega
              · omega
            · refine ⟨_, rfl, (by
      have h61 := h60 (by omega)
      have up := yMo.up hp ⟨by omega, by omega⟩ p730
      obtain ⟨u1, u2, u3, u4, u5⟩ := up
      have hxr := (yEit_gd tg (yOn_gd tg lv) (g 90 17 + 1) (by omega) (by omega)).2
      omega), (by
      have h61 := h60 (by omega)
      have up := yMo.up hp ⟨by omega, by omega⟩ p730
      obtain ⟨u1, u2, u3, u4, u5⟩ := up
      have hxr := (yEit_gd tg (yOn_gd tg lv) (g 90 17 + 1) (by omega) (by omega)).2
      omega), (by
      have h61 := h60 (by omega)
      have up := yMo.up hp ⟨by omega, by omega⟩ p730
      obtain ⟨u1, u2, u3, u4, u5⟩ := up
      have hxr := (yEit_gd tg (yOn_gd tg lv) (g 90 17 + 1) (by omega) (by omega)).2
      omega), (by
      have h61 := h60 (by omega)
      have up := yMo.up hp ⟨by omega, by omega⟩ p730
      obtain ⟨u1, u2, u3, u4, u5⟩ := up
      have hxr := (yEit_gd tg (yOn_gd tg lv) (g 90 17 + 1) (by omega) (by omega)).2
      omega), (by
      have h61 := h60 (by omega)
      have up := yMo.up hp ⟨by omega, by omega⟩ p730
      obtain ⟨u1, u2, u3, u4, u5⟩ := up
      have hxr := (yEit_gd tg (yOn_gd tg lv) (g 90 17 + 1) (by omega) (by omega)).2
      omega), ?_⟩
              intro r79 g80 p810
              refine ⟨fun h82 => ?_, fun h82 => ?_⟩
              · obtain ⟨ap810, bp810, ep810⟩ : g72 90 19 < 0 ∧ yTq g72 (g72 90 17) = 41 ∧ g80 = (yset g72 90 17 (g72 90 17 + 1)) := by
                  rcases p810 with ⟨-, z⟩ | ⟨z, -⟩
                  · exact z
                  · omega
                subst ep810
                refine ⟨fun h83 => ?_, fun h83 => ?_⟩
                · refine ⟨fun h84 => ?_, fun h84 => ?_⟩
                  · refine ⟨fun h85 => ?_, fun h85 => ?_⟩
                    · omega
                    · omega
                  · omega
                · have h61 := h60 (by omega)
                  obtain ⟨u1, u2, u3, u4, u5⟩ := yMo.up hp ⟨by omega, by omega⟩ p730
                  have hb : yTq g (g 90 17) = 40 := by omega
                  have hxr := yEit_gd tg (yOn_gd tg lv) (g 90 17 + 1) (by omega) (by omega)
                  rw [u3] at bp810
                  have e1 : (yEit (yTq g) (yOn (yTq g) lv) (g 90 17 + 1)).1 = -1 := by have := hxr.2; have := x3_p730; have := ap810; omega
                  obtain ⟨v1, v2, v3⟩ := u2 e1
                  rw [v1] at bp810
                  have e3 := hxr.1 e1
                  have h62 := tg (yEit (yTq g) (yOn (yTq g) lv) (g 90 17 + 1)).2.1 (by omega) (by omega)
                  refine hK _ _ ?_
                  rw [yOn_b hb, if_pos e1, if_pos bp810]
                  rw [show (yset g72 90 17 (g72 90 17 + 1)) 90 20 = o + 1 from (yset_nj (by decide)).trans v2, show yw (o + 1 - 1) = o from by have := yw_s (o + 1 - 1) (by omega) (by omega); omega]
                  refine yMo.end (x1_p730.sO (List.mem_of_getElem? (i := 42) rfl) rfl (by decide +kernel) ⟨by omega, by omega⟩) (u1.st (Or.inl rfl)) ?_ ?_ ⟨by omega, by omega⟩ rfl ?_ v3
                  · rw [yset_nj (by decide), x3_p730]
                    exact e1
                  · rw [yset_eq]
                    omega
                  · rw [yset_eq, v1]
              · obtain ⟨bp810, ep810⟩ : (0 ≤ g72 90 19 ∨ yTq g72 (g72 90 17) ≠ 41) ∧ g72 = g80 := by
                  rcases p810 with ⟨z, -⟩ | ⟨-, z1, z2⟩
                  · omega
                  · exact ⟨z1, z2.symm⟩
                subst ep810
                refine ⟨rfl, (by
      have h61 := h60 (by omega)
      have up := yMo.up hp ⟨by omega, by omega⟩ p730
      obtain ⟨u1, u2, u3, u4, u5⟩ := up
      have hxr := (yEit_gd tg (yOn_gd tg lv) (g 90 17 + 1) (by omega) (by omega)).2
      omega), (by
      have h61 := h60 (by omega)
      have up := yMo.up hp ⟨by omega, by omega⟩ p730
      obtain ⟨u1, u2, u3, u4, u5⟩ := up
      have hxr := (yEit_gd tg (yOn_gd tg lv) (g 90 17 + 1) (by omega) (by omega)).2
      omega), ?_⟩
                intro r86 g87 p880 p881 p882
                have h61 := h60 (by omega)
                obtain ⟨u1, u2, u3, u4, u5⟩ := yMo.up hp ⟨by omega, by omega⟩ p730
                have hb : yTq g (g 90 17) = 40 := by omega
                have hxr := yEit_gd tg (yOn_gd tg lv) (g 90 17 + 1) (by omega) (by omega)
                rw [u3] at bp810
                by_cases e1 : (yEit (yTq g) (yOn (yTq g) lv) (g 90 17 + 1)).1 = -1
                · have e := p881 (x3_p730.trans e1)
                  subst e
                  obtain ⟨v1, v2, v3⟩ := u2 e1
                  have e3 := hxr.1 e1
                  have e4 : yTq g (yEit (yTq g) (yOn (yTq g) lv) (g 90 17 + 1)).2.1 ≠ 41 := by
                    rw [← v1]
                    have := x3_p730.trans e1
                    omega
                  refine hK _ _ ?_
                  rw [yOn_b hb, if_pos e1, if_neg e4]
                  refine ⟨x1_p730.sO (List.mem_of_getElem? (i := 42) rfl) rfl (by decide +kernel) ⟨by omega, by omega⟩, u1.st (Or.inr (Or.inl rfl)), ?_, ?_, ?_, fun z => ?_⟩
                  · rw [yset_eq]
                    exact v1
                  · rw [yset_nj (by decide)]
                    exact x4_p730
                  · rw [yset_nj (by decide)]
                    omega
                  · have z : (yEit (yTq g) (yOn (yTq g) lv) (g 90 17 + 1)).2.1 = -1 := z
                    omega
                · have e := (p882 (fun z1 => e1 (x3_p730.symm.trans z1))).symm
                  subst e
                  refine hK _ _ ?_
                  rw [yOn_b hb, if_neg e1]
                  exact ⟨x1_p730, u1, x3_p730, x4_p730, ⟨by omega, by omega⟩, fun z => absurd z e1⟩
        · refine ⟨rfl, (by omega), (by omega), ?_⟩
          intro r89 g90 p910 p911 p912
          omega
      · refine ⟨fun h92 => ?_, fun h92 => ?_⟩
        · refine ⟨_, rfl, ?_⟩
          intro r94 p950
          refine ⟨fun h96 => ?_, fun h96 => ?_⟩
          · rw [p30] at p950
            have h9 := yl_mOsd (c := r2) (k := r94) ho hY hp 4 0 (g 90 17) 0 (by omega) hpl (Or.inl ⟨rfl, rfl⟩) (fun i2 h2 => ?_)
            · rw [yset_id] at h9
              exact h9
            · exact yt_mOs ho hY hp (by omega) (by have := p950; omega) h2 hK
          · refine ⟨(by
      rw [p30] at p950
      omega), ?_⟩
            rw [p30] at p950
            have hk : 0 ≤ yKx (yTq g (g 90 17)) := by omega
            have h61 := h60 (by omega)
            rw [yw_s (g 90 17 + 1) (by omega) (by omega)]
            refine hK _ _ ?_
            rw [yOn_k hk, p950]
            exact yMo.one hp ⟨by omega, by omega⟩ ⟨by omega, by omega⟩ (yVl.nam ⟨by omega, by omega⟩)
        · refine ⟨fun h97 => ?_, fun h97 => ?_⟩
          · refine ⟨fun h98 => ?_, fun h98 => ?_⟩
            · refine ⟨(o + 1), rfl, (by
      have h61 := h60 (by omega)
      rw [hop, show yw (o + 1) = o + 1 from yw_s _ (by omega) (by omega), yw_s (g 90 17 + 1) (by omega) (by omega)]
      exact hp.dn ⟨by omega, by omega⟩ h61), (by omega), ?_⟩
              intro r100 g101 p1020
              rw [hop, show yw (o + 1) = o + 1 from yw_s _ (by omega) (by omega), yw_s (g 90 17 + 1) (by omega) (by omega)] at p1020
              rw [show yTq (yset (yset g 90 20 (o + 1)) 90 17 (g 90 17 + 1)) = yTq g from (yXm.st (yXm.st (fun _ _ _ => rfl) (Or.inr (Or.inr rfl))) (Or.inl rfl)).tq, yset_eq] at p1020
              obtain ⟨x1_p1020, x2_p1020, x3_p1020, x4_p1020, x5_p1020, x6_p1020⟩ := id p1020
              refine ⟨fun h103 => ?_, fun h103 => ?_⟩
              · refine ⟨fun h104 => ?_, fun h104 => ?_⟩
                · refine ⟨fun h105 => ?_, fun h105 => ?_⟩
                  · refine ⟨fun h106 => ?_, fun h106 => ?_⟩
                    · have h61 := h60 (by omega)
                      obtain ⟨u1, u2, u3, u4, u5⟩ := yMo.up hp ⟨by omega, by omega⟩ p1020
                      have hxr := yOn_gd tg lv (g 90 17 + 1) (by omega) (by omega)
                      have hb : yTq g (g 90 17) = 33 := by omega
                      have es : (if yTq g (g 90 17) = 45 then (77 : Int) else yTq g (g 90 17)) = 33 := by rw [hb]; rfl
                      refine hK _ _ ?_
                      rw [yOn_u (by omega), es]
                      by_cases e1 : (yOn (yTq g) lv (g 90 17 + 1)).1 = -1
                      · rw [if_pos e1]
                        obtain ⟨v1, v2, v3⟩ := u2 e1
                        have e20 : yw (g101 90 20 - 1) = o := by rw [v2]; have := yw_s (o + 1 - 1) (by omega) (by omega); omega
                        rw [e20]
                        have v4 := v3.no
                        rw [if_neg (by omega)] at v4
                        exact yMo.end x1_p1020 u1 (x3_p1020.trans e1) x4_p1020 ⟨by omega, by omega⟩ rfl v1 v4
                      · rw [if_neg e1, yw_s (g101 90 20 - 1) (by omega) (by omega)]
                        exact ⟨x1_p1020.sO (List.mem_of_getElem? (i := 42) rfl) rfl (by decide +kernel) ⟨by omega, by omega⟩, u1.st (Or.inr (Or.inr rfl)), by rw [yset_nj (by decide)]; exact x3_p1020, by rw [yset_nj (by decide)]; exact x4_p1020, by rw [yset_eq]; omega, fun z => absurd z e1⟩
                    · have h61 := h60 (by omega)
                      obtain ⟨u1, u2, u3, u4, u5⟩ := yMo.up hp ⟨by omega, by omega⟩ p1020
                      have hxr := yOn_gd tg lv (g 90 17 + 1) (by omega) (by omega)
                      have hb : yTq g (g 90 17) = 33 := by omega
                      have es : (if yTq g (g 90 17) = 45 then (77 : Int) else yTq g (g 90 17)) = 33 := by rw [hb]; rfl
                      refine hK _ _ ?_
                      rw [yOn_u (by omega), es]
                      by_cases e1 : (yOn (yTq g) lv (g 90 17 + 1)).1 = -1
                      · rw [if_pos e1]
                        obtain ⟨v1, v2, v3⟩ := u2 e1
                        have e20 : yw (g101 90 20 - 1) = o := by rw [v2]; have := yw_s (o + 1 - 1) (by omega) (by omega); omega
                        rw [e20]
                        have v4 := v3.no
                        rw [if_pos (by omega)] at v4
                        exact yMo.end x1_p1020 u1 (x3_p1020.trans e1) x4_p1020 ⟨by omega, by omega⟩ rfl v1 v4
                      · rw [if_neg e1, yw_s (g101 90 20 - 1) (by omega) (by omega)]
                        exact ⟨x1_p1020.sO (List.mem_of_getElem? (i := 42) rfl) rfl (by decide +kernel) ⟨by omega, by omega⟩, u1.st (Or.inr (Or.inr rfl)), by rw [yset_nj (by decide)]; exact x3_p1020, by rw [yset_nj (by decide)]; exact x4_p1020, by rw [yset_eq]; omega, fun z => absurd z e1⟩
                  · have h61 := h60 (by omega)
                    obtain ⟨u1, u2, u3, u4, u5⟩ := yMo.up hp ⟨by omega, by omega⟩ p1020
                    have hxr := yOn_gd tg lv (g 90 17 + 1) (by omega) (by omega)
                    have hb : yTq g (g 90 17) = 45 := by omega
                    have es : (if yTq g (g 90 17) = 45 then (77 : Int) else yTq g (g 90 17)) = 77 := by rw [hb]; rfl
                    refine hK _ _ ?_
                    rw [yOn_u (by omega), es]
                    by_cases e1 : (yOn (yTq g) lv (g 90 17 + 1)).1 = -1
                    · rw [if_pos e1]
                      obtain ⟨v1, v2, v3⟩ := u2 e1
                      have e20 : yw (g101 90 20 - 1) = o := by rw [v2]; have := yw_s (o + 1 - 1) (by omega) (by omega); omega
                      rw [e20]
                      exact yMo.end x1_p1020 u1 (x3_p1020.trans e1) x4_p1020 ⟨by omega, by omega⟩ rfl v1 v3.neg
                    · rw [if_neg e1, yw_s (g101 90 20 - 1) (by omega) (by omega)]
                      exact ⟨x1_p1020.sO (List.mem_of_getElem? (i := 42) rfl) rfl (by decide +kernel) ⟨by omega, by omega⟩, u1.st (Or.inr (Or.inr rfl)), by rw [yset_nj (by decide)]; exact x3_p1020, by rw [yset_nj (by decide)]; exact x4_p1020, by rw [yset_eq]; omega, fun z => absurd z e1⟩
                · omega
              · refine ⟨_, rfl, (by
      have h61 := h60 (by omega)
      have up := yMo.up hp ⟨by omega, by omega⟩ p1020
      obtain ⟨u1, u2, u3, u4, u5⟩ := up
      have hxr := (yOn_gd tg lv (g 90 17 + 1) (by omega) (by omega)).2
      omega), (by
      have h61 := h60 (by omega)
      have up := yMo.up hp ⟨by omega, by omega⟩ p1020
      obtain ⟨u1, u2, u3, u4, u5⟩ := up
      have hxr := (yOn_gd tg lv (g 90 17 + 1) (by omega) (by omega)).2
      omega), (by
      have h61 := h60 (by omega)
      have up := yMo.up hp ⟨by omega, by omega⟩ p1020
      obtain ⟨u1, u2, u3, u4, u5⟩ := up
      have hxr := (yOn_gd tg lv (g 90 17 + 1) (by omega) (by omega)).2
      omega), (by
      have h61 := h60 (by omega)
      have up := yMo.up hp ⟨by omega, by omega⟩ p1020
      obtain ⟨u1, u2, u3, u4, u5⟩ := up
      have hxr := (yOn_gd tg lv (g 90 17 + 1) (by omega) (by omega)).2
      omega), (by
      have h61 := h60 (by omega)
      have up := yMo.up hp ⟨by omega, by omega⟩ p1020
      obtain ⟨u1, u2, u3, u4, u5⟩ := up
      have hxr := (yOn_gd tg lv (g 90 17 + 1) (by omega) (by omega)).2
      omega), ?_⟩
                intro r108 g109 p1100
                refine ⟨fun h111 => ?_, fun h111 => ?_⟩
                · obtain ⟨ap1100, bp1100, ep1100⟩ : g101 90 19 < 0 ∧ yTq g101 (g101 90 17) = 41 ∧ g109 = (yset g101 90 17 (g101 90 17 + 1)) := by
                    rcases p1100 with ⟨-, z⟩ | ⟨z, -⟩
                    · exact z
                    · omega
                  subst ep1100
                  refine ⟨fun h112 => ?_, fun h112 => ?_⟩
                  · refine ⟨fun h113 => ?_, fun h113 => ?_⟩
                    · refine ⟨fun h114 => ?_, fun h114 => ?_⟩
                      · omega
                      · omega
                    · omega
                  · omega
                · obtain ⟨bp1100, ep1100⟩ : (0 ≤ g101 90 19 ∨ yTq g101 (g101 90 17) ≠ 41) ∧ g101 = g109 := by
                    rcases p1100 with ⟨z, -⟩ | ⟨-, z1, z2⟩
                    · omega
                    · exact ⟨z1, z2.symm⟩
                  subst ep1100
                  refine ⟨rfl, (by
      have h61 := h60 (by omega)
      have up := yMo.up hp ⟨by omega, by omega⟩ p1020
      obtain ⟨u1, u2, u3, u4, u5⟩ := up
      have hxr := (yOn_gd tg lv (g 90 17 + 1) (by omega) (by omega)).2
      omega), (by
      have h61 := h60 (by omega)
      have up := yMo.up hp ⟨by omega, by omega⟩ p1020
      obtain ⟨u1, u2, u3, u4, u5⟩ := up
      have hxr := (yOn_gd tg lv (g 90 17 + 1) (by omega) (by omega)).2
      omega), ?_⟩
                  intro r115 g116 p1170 p1171 p1172
                  omega
            · refine ⟨(o + 1), rfl, (by
      have h61 := h60 (by omega)
      rw [hop, show yw (o + 1) = o + 1 from yw_s _ (by omega) (by omega), yw_s (g 90 17 + 1) (by omega) (by omega)]
      exact hp.dn ⟨by omega, by omega⟩ h61), (by omega), ?_⟩
              intro r119 g120 p1210
              rw [hop, show yw (o + 1) = o + 1 from yw_s _ (by omega) (by omega), yw_s (g 90 17 + 1) (by omega) (by omega)] at p1210
              rw [show yTq (yset (yset g 90 20 (o + 1)) 90 17 (g 90 17 + 1)) = yTq g from (yXm.st (yXm.st (fun _ _ _ => rfl) (Or.inr (Or.inr rfl))) (Or.inl rfl)).tq, yset_eq] at p1210
              obtain ⟨x1_p1210, x2_p1210, x3_p1210, x4_p1210, x5_p1210, x6_p1210⟩ := id p1210
              refine ⟨fun h122 => ?_, fun h122 => ?_⟩
              · refine ⟨fun h123 => ?_, fun h123 => ?_⟩
                · refine ⟨fun h124 => ?_, fun h124 => ?_⟩
                  · refine ⟨fun h125 => ?_, fun h125 => ?_⟩
                    · omega
                    · omega
                  · omega
                · omega
              · refine ⟨_, rfl, (by
      have h61 := h60 (by omega)
      have up := yMo.up hp ⟨by omega, by omega⟩ p1210
      obtain ⟨u1, u2, u3, u4, u5⟩ := up
      have hxr := (yEit_gd tg (yOn_gd tg lv) (g 90 17 + 1) (by omega) (by omega)).2
      omega), (by
      have h61 := h60 (by omega)
      have up := yMo.up hp ⟨by omega, by omega⟩ p1210
      obtain ⟨u1, u2, u3, u4, u5⟩ := up
      have hxr := (yEit_gd tg (yOn_gd tg lv) (g 90 17 + 1) (by omega) (by omega)).2
      omega), (by
      have h61 := h60 (by omega)
      have up := yMo.up hp ⟨by omega, by omega⟩ p1210
      obtain ⟨u1, u2, u3, u4, u5⟩ := up
      have hxr := (yEit_gd tg (yOn_gd tg lv) (g 90 17 + 1) (by omega) (by omega)).2
      omega), (by
      have h61 := h60 (by omega)
      have up := yMo.up hp ⟨by omega, by omega⟩ p1210
      obtain ⟨u1, u2, u3, u4, u5⟩ := up
      have hxr := (yEit_gd tg (yOn_gd tg lv) (g 90 17 + 1) (by omega) (by omega)).2
      omega), (by
      have h61 := h60 (by omega)
      have up := yMo.up hp ⟨by omega, by omega⟩ p1210
      obtain ⟨u1, u2, u3, u4, u5⟩ := up
      have hxr := (yEit_gd tg (yOn_gd tg lv) (g 90 17 + 1) (by omega) (by omega)).2
      omega), ?_⟩
                intro r127 g128 p1290
                refine ⟨fun h130 => ?_, fun h130 => ?_⟩
                · obtain ⟨ap1290, bp1290, ep1290⟩ : g120 90 19 < 0 ∧ yTq g120 (g120 90 17) = 41 ∧ g128 = (yset g120 90 17 (g120 90 17 + 1)) := by
                    rcases p1290 with ⟨-, z⟩ | ⟨z, -⟩
                    · exact z
                    · omega
                  subst ep1290
                  refine ⟨fun h131 => ?_, fun h131 => ?_⟩
                  · refine ⟨fun h132 => ?_, fun h132 => ?_⟩
                    · refine ⟨fun h133 => ?_, fun h133 => ?_⟩
                      · omega
                      · omega
                    · omega
                  · have h61 := h60 (by omega)
                    obtain ⟨u1, u2, u3, u4, u5⟩ := yMo.up hp ⟨by omega, by omega⟩ p1210
                    have hb : yTq g (g 90 17) = 40 := by omega
                    have hxr := yEit_gd tg (yOn_gd tg lv) (g 90 17 + 1) (by omega) (by omega)
                    rw [u3] at bp1290
                    have e1 : (yEit (yTq g) (yOn (yTq g) lv) (g 90 17 + 1)).1 = -1 := by have := hxr.2; have := x3_p1210; have := ap1290; omega
                    obtain ⟨v1, v2, v3⟩ := u2 e1
                    rw [v1] at bp1290
                    have e3 := hxr.1 e1
                    have h62 := tg (yEit (yTq g) (yOn (yTq g) lv) (g 90 17 + 1)).2.1 (by omega) (by omega)
                    refine hK _ _ ?_
                    rw [yOn_b hb, if_pos e1, if_pos bp1290]
                    rw [show (yset g120 90 17 (g120 90 17 + 1)) 90 20 = o + 1 from (yset_nj (by decide)).trans v2, show yw (o + 1 - 1) = o from by have := yw_s (o + 1 - 1) (by omega) (by omega); omega]
                    refine yMo.end (x1_p1210.sO (List.mem_of_getElem? (i := 42) rfl) rfl (by decide +kernel) ⟨by omega, by omega⟩) (u1.st (Or.inl rfl)) ?_ ?_ ⟨by omega, by omega⟩ rfl ?_ v3
                    · rw [yset_nj (by decide), x3_p1210]
                      exact e1
                    · rw [yset_eq]
                      omega
                    · rw [yset_eq, v1]
                · obtain ⟨bp1290, ep1290⟩ : (0 ≤ g120 90 19 ∨ yTq g120 (g120 90 17) ≠ 41) ∧ g120 = g128 := by
                    rcases p1290 with ⟨z, -⟩ | ⟨-, z1, z2⟩
                    · omega
                    · exact ⟨z1, z2.symm⟩
                  subst ep1290
                  refine ⟨rfl, (by
      have h61 := h60 (by omega)
      have up := yMo.up hp ⟨by omega, by omega⟩ p1210
      obtain ⟨u1, u2, u3, u4, u5⟩ := up
      have hxr := (yEit_gd tg (yOn_gd tg lv) (g 90 17 + 1) (by omega) (by omega)).2
      omega), (by
      have h61 := h60 (by omega)
      have up := yMo.up hp ⟨by omega, by omega⟩ p1210
      obtain ⟨u1, u2, u3, u4, u5⟩ := up
      have hxr := (yEit_gd tg (yOn_gd tg lv) (g 90 17 + 1) (by omega) (by omega)).2
      omega), ?_⟩
                  intro r134 g135 p1360 p1361 p1362
                  have h61 := h60 (by omega)
                  obtain ⟨u1, u2, u3, u4, u5⟩ := yMo.up hp ⟨by omega, by omega⟩ p1210
                  have hb : yTq g (g 90 17) = 40 := by omega
                  have hxr := yEit_gd tg (yOn_gd tg lv) (g 90 17 + 1) (by omega) (by omega)
                  rw [u3] at bp1290
                  by_cases e1 : (yEit (yTq g) (yOn (yTq g) lv) (g 90 17 + 1)).1 = -1
                  · have e := p1361 (x3_p1210.trans e1)
                    subst e
                    obtain ⟨v1, v2, v3⟩ := u2 e1
                    have e3 := hxr.1 e1
                    have e4 : yTq g (yEit (yTq g) (yOn (yTq g) lv) (g 90 17 + 1)).2.1 ≠ 41 := by
                      rw [← v1]
                      have := x3_p1210.trans e1
                      omega
                    refine hK _ _ ?_
                    rw [yOn_b hb, if_pos e1, if_neg e4]
                    refine ⟨x1_p1210.sO (List.mem_of_getElem? (i := 42) rfl) rfl (by decide +kernel) ⟨by omega, by omega⟩, u1.st (Or.inr (Or.inl rfl)), ?_, ?_, ?_, fun z => ?_⟩
                    · rw [yset_eq]
                      exact v1
                    · rw [yset_nj (by decide)]
                      exact x4_p1210
                    · rw [yset_nj (by decide)]
                      omega
                    · have z : (yEit (yTq g) (yOn (yTq g) lv) (g 90 17 + 1)).2.1 = -1 := z
                      omega
                  · have e := (p1362 (fun z1 => e1 (x3_p1210.symm.trans z1))).symm
                    subst e
                    refine hK _ _ ?_
                    rw [yOn_b hb, if_neg e1]
                    exact ⟨x1_p1210, u1, x3_p1210, x4_p1210, ⟨by omega, by omega⟩, fun z => absurd z e1⟩
          · refine ⟨rfl, (by omega), (by omega), ?_⟩
            intro r137 g138 p1390 p1391 p1392
            omega
  · omega
theorem yR_mOs {lv lw : Nat} (hl : lw = lv + 1) : yRl zpMT (26 + 6 * lw, 1210 + 150 * lw) [yC_BA3, yC_TK3, yC_NMO, yC_WR, (183, (40, 4000), yP_mOg lv), (154, (40, 4000), yP_mEg lv)] [yC_BA3, yC_TK3, yC_NMO, yC_WR, yC_mOg lv, yC_mEg lv] := (yRl_cons rfl rfl (by show 1 + 1 ≤ 26 + 6 * lw; omega) (by show 8 + (1 + 11) + (40) ≤ 1210 + 150 * lw; omega) (yRl_cons rfl rfl (by show 2 + 1 ≤ 26 + 6 * lw; omega) (by show 8 + (2 + 11) + (60) ≤ 1210 + 150 * lw; omega) (yRl_cons rfl rfl (by show 1 + 1 ≤ 26 + 6 * lw; omega) (by show 8 + (1 + 11) + (40) ≤ 1210 + 150 * lw; omega) (yRl_cons rfl rfl (by show 1 + 1 ≤ 26 + 6 * lw; omega) (by show 8 + (1 + 11) + (40) ≤ 1210 + 150 * lw; omega) (yRl_cons rfl rfl (by show 26 + 6 * lv + 1 ≤ 26 + 6 * lw; omega) (by show 8 + (5 + 11) + (1210 + 150 * lv) ≤ 1210 + 150 * lw; omega) (yRl_cons rfl rfl (by show 31 + 6 * lv + 1 ≤ 26 + 6 * lw; omega) (by show 8 + (3 + 11) + (1335 + 150 * lv) ≤ 1210 + 150 * lw; omega) yRl_nil))))))
theorem yM_mOs {l : Launch} {Ts : List Cond} {cl : List vw_C} {RO : zRO} {lv lw : Nat} (hl : lw = lv + 1) (H : zHyp Ts cl RO) (hO : yMet l Ts cl zpZ RO zpMT (yC_mOg lv)) (hE : yMet l Ts cl zpZ RO zpMT (yC_mEg lv)) : yMet l Ts cl zpZ RO zpMT (yC_mOg lw) := ymet_of2 H.1 H.2.1 zpDj H.2.2.1 yRb H.p12 (ymets_cons (yM_BA3 H) (ymets_cons (yM_TK3 H) (ymets_cons (yM_NMO H) (ymets_cons (yM_WR H) (ymets_cons hO (ymets_cons hE ymets_nil)))))) (zrc1 rfl) (plainFor_of_name zpy12) zpDk183 (fun as g K Y h hA hY => by
  obtain ⟨o, rfl, hp0, hp1, hK⟩ := h
  have hp1 : o + (lv : Int) + 1 = 6 ∧ 0 ≤ o := by omega
  rw [hl] at hK
  exact yv_mOs (yCl.rl (rm := (50, 5000)) (yR_mOs hl) (by show 1 ≤ 26 + 6 * lw; omega) (by show 1000 ≤ 1210 + 150 * lw; omega) hY) hp0 hp1 hK)
