/-! TEXTS: THE REFERENCE -/
set_option maxRecDepth 8000 in
theorem yl_mPg {K : List yV → yM → Prop} {Y : yNx} {g : yM} {lv : Nat} {o : Int} (ho : o + (lv : Int) = 6 ∧ 0 ≤ o) (hY : yCl zpD189 (zpZ, zpRS, zpP12, zpMT, [yC_BA3, (183, (40, 4000), yP_mOg lv)], (50, 5000), 1) K Y) (hp : yMq o g) : ∀ (n : Nat) (v c : Int) (m : yM) (r : yR) (w3 : yV) (hb : r.1 = -1 → 60 - r.2.1 ≤ n) (hm : yMo o g m r v) (hr : yGr (g 90 17) r) (hs : c = yTq m (m 90 17)) (hK : ∀ (z : Int) (g' : yM), yMo o g g' (yLp (yTq g) yMu (yOn (yTq g) lv) n r) z → K [(1, z)] g'), Y 10 [(3, 90), (1, v), (1, c), w3] [] m := by
  intro n
  induction n using Nat.strongRecOn with
  | ind n ih =>
    intro v c m r w3 hb hm hr hs hK
    obtain ⟨hT0, hf, hpl, hle, hbs, hop⟩ := id hp
    have tg := yTq_tg hle
    obtain ⟨m1, m2, m3, m4, m5, m6⟩ := id hm
    have tm := m2.tq
    have f18 := m2 90 18 (by omega)
    have f16 := m2 90 16 (by omega)
    refine yrun_ok (sp := fun pc => Nat.beq pc 10) hY 39 10 _ [] m ?_
    show ((0 ≤ (m 90 19) → (K [(1, v)] m)) ∧ (¬ (0 ≤ (m 90 19)) → ((c = 42 → (∃ (o3 : Int), [(3, 90)] = [(3, 90)] ∧ (yMq o3 (yset m 90 17 (yw ((m 90 17) + 1)))) ∧ (o3 + (lv : Int) = 6 ∧ 0 ≤ o3) ∧ (∀ (r4 : Int) (g5 : yM), (yMo o3 (yset m 90 17 (yw ((m 90 17) + 1))) g5 (yOn (yTq (yset m 90 17 (yw ((m 90 17) + 1)))) lv ((yset m 90 17 (yw ((m 90 17) + 1))) 90 17)) r4) → ((c ≠ 42 → ((r4 ≠ 0 → ((c ≠ 47 → ((r4 : Int) ≠ 0 ∧ ([(3, 90)] = [(3, 90)] ∧ (0 ≤ g5 90 17) ∧ (g5 90 18 ≤ 60) ∧ (g5 90 16 = -1 ∨ g5 90 16 = 0) ∧ (∀ (r10 : Int), (r10 = yTq g5 (g5 90 17)) → (Y 10 [(3, 90), (1, (yb (fun x y => x - x / y * y) v r4)), (1, r10), (1, r4)] [] g5))))) ∧ (¬ (c ≠ 47) → ((r4 : Int) ≠ 0 ∧ ([(3, 90)] = [(3, 90)] ∧ (0 ≤ g5 90 17) ∧ (g5 90 18 ≤ 60) ∧ (g5 90 16 = -1 ∨ g5 90 16 = 0) ∧ (∀ (r12 : Int), (r12 = yTq g5 (g5 90 17)) → (Y 10 [(3, 90), (1, (yb (fun x y => x / y) v r4)), (1, r12), (1, r4)] [] g5))))))) ∧ (¬ (r4 ≠ 0) → ([(3, 90)] = [(3, 90)] ∧ (0 ≤ g5 90 17) ∧ (g5 90 18 ≤ 60) ∧ (g5 90 16 = -1 ∨ g5 90 16 = 0) ∧ (∀ (r14 : Int), (r14 = yTq g5 (g5 90 17)) → (Y 10 [(3, 90), (1, 0), (1, r14), (1, r4)] [] g5)))))) ∧ (¬ (c ≠ 42) → ([(3, 90)] = [(3, 90)] ∧ (0 ≤ g5 90 17) ∧ (g5 90 18 ≤ 60) ∧ (g5 90 16 = -1 ∨ g5 90 16 = 0) ∧ (∀ (r16 : Int), (r16 = yTq g5 (g5 90 17)) → (Y 10 [(3, 90), (1, (yw (v * r4))), (1, r16), (1, r4)] [] g5)))))))) ∧ (¬ (c = 42) → ((c = 47 → (∃ (o19 : Int), [(3, 90)] = [(3, 90)] ∧ (yMq o19 (yset m 90 17 (yw ((m 90 17) + 1)))) ∧ (o19 + (lv : Int) = 6 ∧ 0 ≤ o19) ∧ (∀ (r20 : Int) (g21 : yM), (yMo o19 (yset m 90 17 (yw ((m 90 17) + 1))) g21 (yOn (yTq (yset m 90 17 (yw ((m 90 17) + 1)))) lv ((yset m 90 17 (yw ((m 90 17) + 1))) 90 17)) r20) → ((c ≠ 42 → ((r20 ≠ 0 → ((c ≠ 47 → ((r20 : Int) ≠ 0 ∧ ([(3, 90)] = [(3, 90)] ∧ (0 ≤ g21 90 17) ∧ (g21 90 18 ≤ 60) ∧ (g21 90 16 = -1 ∨ g21 90 16 = 0) ∧ (∀ (r26 : Int), (r26 = yTq g21 (g21 90 17)) → (Y 10 [(3, 90), (1, (yb (fun x y => x - x / y * y) v r20)), (1, r26), (1, r20)] [] g21))))) ∧ (¬ (c ≠ 47) → ((r20 : Int) ≠ 0 ∧ ([(3, 90)] = [(3, 90)] ∧ (0 ≤ g21 90 17) ∧ (g21 90 18 ≤ 60) ∧ (g21 90 16 = -1 ∨ g21 90 16 = 0) ∧ (∀ (r28 : Int), (r28 = yTq g21 (g21 90 17)) → (Y 10 [(3, 90), (1, (yb (fun x y => x / y) v r20)), (1, r28), (1, r20)] [] g21))))))) ∧ (¬ (r20 ≠ 0) → ([(3, 90)] = [(3, 90)] ∧ (0 ≤ g21 90 17) ∧ (g21 90 18 ≤ 60) ∧ (g21 90 16 = -1 ∨ g21 90 16 = 0) ∧ (∀ (r30 : Int), (r30 = yTq g21 (g21 90 17)) → (Y 10 [(3, 90), (1, 0), (1, r30), (1, r20)] [] g21)))))) ∧ (¬ (c ≠ 42) → ([(3, 90)] = [(3, 90)] ∧ (0 ≤ g21 90 17) ∧ (g21 90 18 ≤ 60) ∧ (g21 90 16 = -1 ∨ g21 90 16 = 0) ∧ (∀ (r32 : Int), (r32 = yTq g21 (g21 90 17)) → (Y 10 [(3, 90), (1, (yw (v * r20))), (1, r32), (1, r20)] [] g21)))))))) ∧ (¬ (c = 47) → ((c ≠ 37 → (K [(1, v)] m)) ∧ (¬ (c ≠ 37) → (∃ (o35 : Int), [(3, 90)] = [(3, 90)] ∧ (yMq o35 (yset m 90 17 (yw ((m 90 17) + 1)))) ∧ (o35 + (lv : Int) = 6 ∧ 0 ≤ o35) ∧ (∀ (r36 : Int) (g37 : yM), (yMo o35 (yset m 90 17 (yw ((m 90 17) + 1))) g37 (yOn (yTq (yset m 90 17 (yw ((m 90 17) + 1)))) lv ((yset m 90 17 (yw ((m 90 17) + 1))) 90 17)) r36) → ((c ≠ 42 → ((r36 ≠ 0 → ((c ≠ 47 → ((r36 : Int) ≠ 0 ∧ ([(3, 90)] = [(3, 90)] ∧ (0 ≤ g37 90 17) ∧ (g37 90 18 ≤ 60) ∧ (g37 90 16 = -1 ∨ g37 90 16 = 0) ∧ (∀ (r42 : Int), (r42 = yTq g37 (g37 90 17)) → (Y 10 [(3, 90), (1, (yb (fun x y => x - x / y * y) v r36)), (1, r42), (1, r36)] [] g37))))) ∧ (¬ (c ≠ 47) → ((r36 : Int) ≠ 0 ∧ ([(3, 90)] = [(3, 90)] ∧ (0 ≤ g37 90 17) ∧ (g37 90 18 ≤ 60) ∧ (g37 90 16 = -1 ∨ g37 90 16 = 0) ∧ (∀ (r44 : Int), (r44 = yTq g37 (g37 90 17)) → (Y 10 [(3, 90), (1, (yb (fun x y => x / y) v r36)), (1, r44), (1, r36)] [] g37))))))) ∧ (¬ (r36 ≠ 0) → ([(3, 90)] = [(3, 90)] ∧ (0 ≤ g37 90 17) ∧ (g37 90 18 ≤ 60) ∧ (g37 90 16 = -1 ∨ g37 90 16 = 0) ∧ (∀ (r46 : Int), (r46 = yTq g37 (g37 90 17)) → (Y 10 [(3, 90), (1, 0), (1, r46), (1, r36)] [] g37)))))) ∧ (¬ (c ≠ 42) → ([(3, 90)] = [(3, 90)] ∧ (0 ≤ g37 90 17) ∧ (g37 90 18 ≤ 60) ∧ (g37 90 16 = -1 ∨ g37 90 16 = 0) ∧ (∀ (r48 : Int), (r48 = yTq g37 (g37 90 17)) → (Y 10 [(3, 90), (1, (yw (v * r36))), (1, r48), (1, r36)] [] g37)))))))))))))))
    refine ⟨fun h1 => ?_, fun h1 => ?_⟩
    · have cn : ¬ (r.1 = -1 ∧ yMu (yTq g r.2.1) = true) := fun ⟨z1, z2⟩ => by
        have e2 := (m6 z1).1
        have e3 := m3.trans z1
        have z3 := of_decide_eq_true z2
        rw [tm, e2] at hs
        omega
      refine hK _ _ ?_
      rw [yLp_0 cn]
      exact hm
    · refine ⟨fun h2 => ?_, fun h2 => ?_⟩
      · refine ⟨(o), rfl, (by
      have e1 : r.1 = -1 := by have := hr.2; omega
      have e2 := (m6 e1).1
      rw [tm, e2] at hs
      have e3 := hr.1 e1
      have h60 := tg r.2.1 (by omega) (by omega)
      rw [yw_s (m 90 17 + 1) (by omega) (by omega)]
      exact yMo.pe hp hm e1 h60), (ho), ?_⟩
        intro r4 g5 p60
        rw [show yTq (yset m 90 17 (yw ((m 90 17) + 1))) = yTq m from (yXm.st (fun _ _ _ => rfl) (Or.inl rfl)).tq, yset_eq] at p60
        obtain ⟨x1_p60, x2_p60, x3_p60, x4_p60, x5_p60, x6_p60⟩ := id p60
        refine ⟨fun h7 => ?_, fun h7 => ?_⟩
        · refine ⟨fun h8 => ?_, fun h8 => ?_⟩
          · refine ⟨fun h9 => ?_, fun h9 => ?_⟩
            · refine ⟨(by omega), ?_⟩
              refine ⟨rfl, (by omega), (by omega), (by omega), ?_⟩
              intro r10 p110
              omega
            · refine ⟨(by omega), ?_⟩
              refine ⟨rfl, (by omega), (by omega), (by omega), ?_⟩
              intro r12 p130
              omega
          · refine ⟨rfl, (by omega), (by omega), (by omega), ?_⟩
            intro r14 p150
            omega
        · refine ⟨rfl, (by
      have f28 := (x2_p60 90 18 (by omega)).trans (yset_nj (by decide))
      have f26 := (x2_p60 90 16 (by omega)).trans (yset_nj (by decide))
      have x24 := x4_p60
      omega), (by
      have f28 := (x2_p60 90 18 (by omega)).trans (yset_nj (by decide))
      have f26 := (x2_p60 90 16 (by omega)).trans (yset_nj (by decide))
      have x24 := x4_p60
      omega), (by
      have f28 := (x2_p60 90 18 (by omega)).trans (yset_nj (by decide))
      have f26 := (x2_p60 90 16 (by omega)).trans (yset_nj (by decide))
      have x24 := x4_p60
      omega), ?_⟩
          intro r16 p170
          have e1 : r.1 = -1 := by have := hr.2; omega
          have e2 := (m6 e1).1
          rw [tm, e2] at hs
          have e3 := hr.1 e1
          have h60 := tg r.2.1 (by omega) (by omega)
          rw [yw_s (m 90 17 + 1) (by omega) (by omega)] at p60
          rw [tm] at p60
          have ep : yMo o (yset m 90 17 (m 90 17 + 1)) g5 (yOn (yTq g) lv (r.2.1 + 1)) r4 := by
            rw [← e2]
            exact p60
          have st := yMo.step (c := yTq g r.2.1) hm e1 ep (by omega) (by omega) (by omega) (by omega)
          have cd : r.1 = -1 ∧ yMu (yTq g r.2.1) = true := ⟨e1, decide_eq_true (by omega)⟩
          have ej : yJn (yTq g r.2.1) v r4 = (yw (v * r4)) := yJn_m (by omega)
          rw [ej] at st
          have hxr := yOn_gd tg lv (r.2.1 + 1) (by omega) (by omega)
          have gn := yGr.nx tg yMu_0 (yOn_gd tg lv) hpl.1 hr cd
          have h8 := hb e1
          obtain ⟨k, rfl⟩ : ∃ k : Nat, n = k + 1 := ⟨n - 1, by omega⟩
          refine ih k (Nat.lt_succ_self k) _ r16 _ _ (1, r4) ?_ st gn p170 (fun z g' h => hK z g' (by rw [yLp_1 cd]; exact h))
          exact (fun z => by
            have e9 : (yOn (yTq g) lv (r.2.1 + 1)).1 = -1 := by
              by_cases e9 : (yOn (yTq g) lv (r.2.1 + 1)).1 = -1
              · exact e9
              · rw [if_neg e9] at z
                exact absurd z e9
            rw [if_pos e9]
            have e10 := hxr.1 e9
            have e11 : ((k + 1 : Nat) : Int) = (k : Int) + 1 := rfl
            show 60 - (yOn (yTq g) lv (r.2.1 + 1)).2.1 ≤ (k : Int)
            omega)
      · refine ⟨fun h18 => ?_, fun h18 => ?_⟩
        · refine ⟨(o), rfl, (by
      have e1 : r.1 = -1 := by have := hr.2; omega
      have e2 := (m6 e1).1
      rw [tm, e2] at hs
      have e3 := hr.1 e1
      have h60 := tg r.2.1 (by omega) (by omega)
      rw [yw_s (m 90 17 + 1) (by omega) (by omega)]
      exact yMo.pe hp hm e1 h60), (ho), ?_⟩
          intro r20 g21 p220
          rw [show yTq (yset m 90 17 (yw ((m 90 17) + 1))) = yTq m from (yXm.st (fun _ _ _ => rfl) (Or.inl rfl)).tq, yset_eq] at p220
          obtain ⟨x1_p220, x2_p220, x3_p220, x4_p220, x5_p220, x6_p220⟩ := id p220
          refine ⟨fun h23 => ?_, fun h23 => ?_⟩
          · refine ⟨fun h24 => ?_, fun h24 => ?_⟩
            · refine ⟨fun h25 => ?_, fun h25 => ?_⟩
              · refine ⟨(by omega), ?_⟩
                refine ⟨rfl, (by omega), (by omega), (by omega), ?_⟩
                intro r26 p270
                omega
              · refine ⟨(by
      have f28 := (x2_p220 90 18 (by omega)).trans (yset_nj (by decide))
      have f26 := (x2_p220 90 16 (by omega)).trans (yset_nj (by decide))
      have x24 := x4_p220
      omega), ?_⟩
                refine ⟨rfl, (by
      have f28 := (x2_p220 90 18 (by omega)).trans (yset_nj (by decide))
      have f26 := (x2_p220 90 16 (by omega)).trans (yset_nj (by decide))
      have x24 := x4_p220
      omega), (by
      have f28 := (x2_p220 90 18 (by omega)).trans (yset_nj (by decide))
      have f26 := (x2_p220 90 16 (by omega)).trans (yset_nj (by decide))
      have x24 := x4_p220
      omega), (by
      have f28 := (x2_p220 90 18 (by omega)).trans (yset_nj (by decide))
      have f26 := (x2_p220 90 16 (by omega)).trans (yset_nj (by decide))
      have x24 := x4_p220
      omega), ?_⟩
                intro r28 p290
                have e1 : r.1 = -1 := by have := hr.2; omega
                have e2 := (m6 e1).1
                rw [tm, e2] at hs
                have e3 := hr.1 e1
                have h60 := tg r.2.1 (by omega) (by omega)
                rw [yw_s (m 90 17 + 1) (by omega) (by omega)] at p220
                rw [tm] at p220
                have ep : yMo o (yset m 90 17 (m 90 17 + 1)) g21 (yOn (yTq g) lv (r.2.1 + 1)) r20 := by
                  rw [← e2]
                  exact p220
                have st := yMo.step (c := yTq g r.2.1) hm e1 ep (by omega) (by omega) (by omega) (by omega)
                have cd : r.1 = -1 ∧ yMu (yTq g r.2.1) = true := ⟨e1, decide_eq_true (by omega)⟩
                have ej : yJn (yTq g r.2.1) v r20 = (yb (fun x y => x / y) v r20) := yJn_d (by omega) (by omega)
                rw [ej] at st
                have hxr := yOn_gd tg lv (r.2.1 + 1) (by omega) (by omega)
                have gn := yGr.nx tg yMu_0 (yOn_gd tg lv) hpl.1 hr cd
                have h8 := hb e1
                obtain ⟨k, rfl⟩ : ∃ k : Nat, n = k + 1 := ⟨n - 1, by omega⟩
                refine ih k (Nat.lt_succ_self k) _ r28 _ _ (1, r20) ?_ st gn p290 (fun z g' h => hK z g' (by rw [yLp_1 cd]; exact h))
                exact (fun z => by
                  have e9 : (yOn (yTq g) lv (r.2.1 + 1)).1 = -1 := by
                    by_cases e9 : (yOn (yTq g) lv (r.2.1 + 1)).1 = -1
                    · exact e9
                    · rw [if_neg e9] at z
                      exact absurd z e9
                  rw [if_pos e9]
                  have e10 := hxr.1 e9
                  have e11 : ((k + 1 : Nat) : Int) = (k : Int) + 1 := rfl
                  show 60 - (yOn (yTq g) lv (r.2.1 + 1)).2.1 ≤ (k : Int)
                  omega)
            · refine ⟨rfl, (by
      have f28 := (x2_p220 90 18 (by omega)).trans (yset_nj (by decide))
      have f26 := (x2_p220 90 16 (by omega)).trans (yset_nj (by decide))
      have x24 := x4_p220
      omega), (by
      have f28 := (x2_p220 90 18 (by omega)).trans (yset_nj (by decide))
      have f26 := (x2_p220 90 16 (by omega)).trans (yset_nj (by decide))
      have x24 := x4_p220
      omega), (by
      have f28 := (x2_p220 90 18 (by omega)).trans (yset_nj (by decide))
      have f26 := (x2_p220 90 16 (by omega)).trans (yset_nj (by decide))
      have x24 := x4_p220
      omega), ?_⟩
              intro r30 p310
              have e1 : r.1 = -1 := by have := hr.2; omega
              have e2 := (m6 e1).1
              rw [tm, e2] at hs
              have e3 := hr.1 e1
              have h60 := tg r.2.1 (by omega) (by omega)
              rw [yw_s (m 90 17 + 1) (by omega) (by omega)] at p220
              rw [tm] at p220
              have ep : yMo o (yset m 90 17 (m 90 17 + 1)) g21 (yOn (yTq g) lv (r.2.1 + 1)) r20 := by
                rw [← e2]
                exact p220
              have st := yMo.step (c := yTq g r.2.1) hm e1 ep (by omega) (by omega) (by omega) (by omega)
              have cd : r.1 = -1 ∧ yMu (yTq g r.2.1) = true := ⟨e1, decide_eq_true (by omega)⟩
              have ej : yJn (yTq g r.2.1) v r20 = 0 := yJn_z (by omega) (by omega)
              rw [ej] at st
              have hxr := yOn_gd tg lv (r.2.1 + 1) (by omega) (by omega)
              have gn := yGr.nx tg yMu_0 (yOn_gd tg lv) hpl.1 hr cd
              have h8 := hb e1
              obtain ⟨k, rfl⟩ : ∃ k : Nat, n = k + 1 := ⟨n - 1, by omega⟩
              refine ih k (Nat.lt_succ_self k) _ r30 _ _ (1, r20) ?_ st gn p310 (fun z g' h => hK z g' (by rw [yLp_1 cd]; exact h))
              exact (fun z => by
                have e9 : (yOn (yTq g) lv (r.2.1 + 1)).1 = -1 := by
                  by_cases e9 : (yOn (yTq g) lv (r.2.1 + 1)).1 = -1
                  · exact e9
                  · rw [if_neg e9] at z
                    exact absurd z e9
                rw [if_pos e9]
                have e10 := hxr.1 e9
                have e11 : ((k + 1 : Nat) : Int) = (k : Int) + 1 := rfl
                show 60 - (yOn (yTq g) lv (r.2.1 + 1)).2.1 ≤ (k : Int)
                omega)
          · refine ⟨rfl, (by omega), (by omega), (by omega), ?_⟩
            intro r32 p330
            omega
        · refine ⟨fun h34 => ?_, fun h34 => ?_⟩
          · have cn : ¬ (r.1 = -1 ∧ yMu (yTq g r.2.1) = true) := fun ⟨z1, z2⟩ => by
              have e2 := (m6 z1).1
              have e3 := m3.trans z1
              have z3 := of_decide_eq_true z2
              rw [tm, e2] at hs
              omega
            refine hK _ _ ?_
            rw [yLp_0 cn]
            exact hm
          · refine ⟨(o), rfl, (by
      have e1 : r.1 = -1 := by have := hr.2; omega
      have e2 := (m6 e1).1
      rw [tm, e2] at hs
      have e3 := hr.1 e1
      have h60 := tg r.2.1 (by omega) (by omega)
      rw [yw_s (m 90 17 + 1) (by omega) (by omega)]
      exact yMo.pe hp hm e1 h60), (ho), ?_⟩
            intro r36 g37 p380
            rw [show yTq (yset m 90 17 (yw ((m 90 17) + 1))) = yTq m from (yXm.st (fun _ _ _ => rfl) (Or.inl rfl)).tq, yset_eq] at p380
            obtain ⟨x1_p380, x2_p380, x3_p380, x4_p380, x5_p380, x6_p380⟩ := id p380
            refine ⟨fun h39 => ?_, fun h39 => ?_⟩
            · refine ⟨fun h40 => ?_, fun h40 => ?_⟩
              · refine ⟨fun h41 => ?_, fun h41 => ?_⟩
                · refine ⟨(by
      have f28 := (x2_p380 90 18 (by omega)).trans (yset_nj (by decide))
      have f26 := (x2_p380 90 16 (by omega)).trans (yset_nj (by decide))
      have x24 := x4_p380
      omega), ?_⟩
                  refine ⟨rfl, (by
      have f28 := (x2_p380 90 18 (by omega)).trans (yset_nj (by decide))
      have f26 := (x2_p380 90 16 (by omega)).trans (yset_nj (by decide))
      have x24 := x4_p380
      omega), (by
      have f28 := (x2_p380 90 18 (by omega)).trans (yset_nj (by decide))
      have f26 := (x2_p380 90 16 (by omega)).trans (yset_nj (by decide))
      have x24 := x4_p380
      omega), (by
      have f28 := (x2_p380 90 18 (by omega)).trans (yset_nj (by decide))
      have f26 := (x2_p380 90 16 (by omega)).trans (yset_nj (by decide))
      have x24 := x4_p380
      omega), ?_⟩
                  intro r42 p430
                  have e1 : r.1 = -1 := by have := hr.2; omega
                  have e2 := (m6 e1).1
                  rw [tm, e2] at hs
                  have e3 := hr.1 e1
                  have h60 := tg r.2.1 (by omega) (by omega)
                  rw [yw_s (m 90 17 + 1) (by omega) (by omega)] at p380
                  rw [tm] at p380
                  have ep : yMo o (yset m 90 17 (m 90 17 + 1)) g37 (yOn (yTq g) lv (r.2.1 + 1)) r36 := by
                    rw [← e2]
                    exact p380
                  have st := yMo.step (c := yTq g r.2.1) hm e1 ep (by omega) (by omega) (by omega) (by omega)
                  have cd : r.1 = -1 ∧ yMu (yTq g r.2.1) = true := ⟨e1, decide_eq_true (by omega)⟩
                  have ej : yJn (yTq g r.2.1) v r36 = (yb (fun x y => x - x / y * y) v r36) := yJn_r (by omega) (by omega)
                  rw [ej] at st
                  have hxr := yOn_gd tg lv (r.2.1 + 1) (by omega) (by omega)
                  have gn := yGr.nx tg yMu_0 (yOn_gd tg lv) hpl.1 hr cd
                  have h8 := hb e1
                  obtain ⟨k, rfl⟩ : ∃ k : Nat, n = k + 1 := ⟨n - 1, by omega⟩
                  refine ih k (Nat.lt_succ_self k) _ r42 _ _ (1, r36) ?_ st gn p430 (fun z g' h => hK z g' (by rw [yLp_1 cd]; exact h))
                  exact (fun z => by
                    have e9 : (yOn (yTq g) lv (r.2.1 + 1)).1 = -1 := by
                      by_cases e9 : (yOn (yTq g) lv (r.2.1 + 1)).1 = -1
                      · exact e9
                      · rw [if_neg e9] at z
                        exact absurd z e9
                    rw [if_pos e9]
                    have e10 := hxr.1 e9
                    have e11 : ((k + 1 : Nat) : Int) = (k : Int) + 1 := rfl
                    show 60 - (yOn (yTq g) lv (r.2.1 + 1)).2.1 ≤ (k : Int)
                    omega)
                · refine ⟨(by omega), ?_⟩
                  refine ⟨rfl, (by omega), (by omega), (by omega), ?_⟩
                  intro r44 p450
                  omega
              · refine ⟨rfl, (by
      have f28 := (x2_p380 90 18 (by omega)).trans (yset_nj (by decide))
      have f26 := (x2_p380 90 16 (by omega)).trans (yset_nj (by decide))
      have x24 := x4_p380
      omega), (by
      have f28 := (x2_p380 90 18 (by omega)).trans (yset_nj (by decide))
      have f26 := (x2_p380 90 16 (by omega)).trans (yset_nj (by decide))
      have x24 := x4_p380
      omega), (by
      have f28 := (x2_p380 90 18 (by omega)).trans (yset_nj (by decide))
      have f26 := (x2_p380 90 16 (by omega)).trans (yset_nj (by decide))
      have x24 := x4_p380
      omega), ?_⟩
                intro r46 p470
                have e1 : r.1 = -1 := by have := hr.2; omega
                have e2 := (m6 e1).1
                rw [tm, e2] at hs
                have e3 := hr.1 e1
                have h60 := tg r.2.1 (by omega) (by omega)
                rw [yw_s (m 90 17 + 1) (by omega) (by omega)] at p380
                rw [tm] at p380
                have ep : yMo o (yset m 90 17 (m 90 17 + 1)) g37 (yOn (yTq g) lv (r.2.1 + 1)) r36 := by
                  rw [← e2]
                  exact p380
                have st := yMo.step (c := yTq g r.2.1) hm e1 ep (by omega) (by omega) (by omega) (by omega)
                have cd : r.1 = -1 ∧ yMu (yTq g r.2.1) = true := ⟨e1, decide_eq_true (by omega)⟩
                have ej : yJn (yTq g r.2.1) v r36 = 0 := yJn_z (by omega) (by omega)
                rw [ej] at st
                have hxr := yOn_gd tg lv (r.2.1 + 1) (by omega) (by omega)
                have gn := yGr.nx tg yMu_0 (yOn_gd tg lv) hpl.1 hr cd
                have h8 := hb e1
                obtain ⟨k, rfl⟩ : ∃ k : Nat, n = k + 1 := ⟨n - 1, by omega⟩
                refine ih k (Nat.lt_succ_self k) _ r46 _ _ (1, r36) ?_ st gn p470 (fun z g' h => hK z g' (by rw [yLp_1 cd]; exact h))
                exact (fun z => by
                  have e9 : (yOn (yTq g) lv (r.2.1 + 1)).1 = -1 := by
                    by_cases e9 : (yOn (yTq g) lv (r.2.1 + 1)).1 = -1
                    · exact e9
                    · rw [if_neg e9] at z
                      exact absurd z e9
                  rw [if_pos e9]
                  have e10 := hxr.1 e9
                  have e11 : ((k + 1 : Nat) : Int) = (k : Int) + 1 := rfl
                  show 60 - (yOn (yTq g) lv (r.2.1 + 1)).2.1 ≤ (k : Int)
                  omega)
            · refine ⟨rfl, (by omega), (by omega), (by omega), ?_⟩
              intro r48 p490
              omega
set_option maxRecDepth 8000 in
theorem yv_mPg {K : List yV → yM → Prop} {Y : yNx} {g : yM} {o : Int} {lv : Nat} (hY : yCl zpD189 (zpZ, zpRS, zpP12, zpMT, [yC_BA3, (183, (40, 4000), yP_mOg lv)], (50, 5000), 1) K Y) (hp0 : yMq o g) (hp1 : o + (lv : Int) = 6 ∧ 0 ≤ o) (hK : ∀ (r : Int) (g' : yM), (yMo o g g' (yPro (yTq g) (yOn (yTq g) lv) (g 90 17)) r) → K [(1, r)] g') : Y 0 [(3, 90), (0, 0), (0, 0), (0, 0)] [] g := by
  have hp := hp0
  have ho := hp1
  obtain ⟨hT0, hf, hpl, hle, hbs, hop⟩ := id hp
  have tg := yTq_tg hle
  have hg := yOn_gd tg lv (g 90 17) hpl.1 hpl.2
  refine yrun_ok (sp := fun pc => Nat.beq pc 10) hY 7 0 _ [] g ?_
  show (∃ (o1 : Int), [(3, 90)] = [(3, 90)] ∧ (yMq o1 g) ∧ (o1 + (lv : Int) = 6 ∧ 0 ≤ o1) ∧ (∀ (r2 : Int) (g3 : yM), (yMo o1 g g3 (yOn (yTq g) lv (g 90 17)) r2) → ([(3, 90)] = [(3, 90)] ∧ (0 ≤ g3 90 17) ∧ (g3 90 18 ≤ 60) ∧ (g3 90 16 = -1 ∨ g3 90 16 = 0) ∧ (∀ (r5 : Int), (r5 = yTq g3 (g3 90 17)) → (Y 10 [(3, 90), (1, r2), (1, r5), (0, 0)] [] g3)))))
  refine ⟨(o), rfl, (hp0), (ho), ?_⟩
  intro r2 g3 p40
  obtain ⟨x1_p40, x2_p40, x3_p40, x4_p40, x5_p40, x6_p40⟩ := id p40
  refine ⟨rfl, (by have f18 := x2_p40 90 18 (by omega); have f16 := x2_p40 90 16 (by omega); omega), (by have f18 := x2_p40 90 18 (by omega); have f16 := x2_p40 90 16 (by omega); omega), (by have f18 := x2_p40 90 18 (by omega); have f16 := x2_p40 90 16 (by omega); omega), ?_⟩
  intro r5 p60
  exact yl_mPg ho hY hp 60 _ _ _ _ _ (fun z => by have z1 := hg.1 z; omega) p40 hg p60 (fun z g' h => hK z g' h)
theorem yR_mPg {lv : Nat} : yRl zpMT (27 + 6 * lv, 1235 + 150 * lv) [yC_BA3, (183, (40, 4000), yP_mOg lv)] [yC_BA3, yC_mOg lv] := (yRl_cons rfl rfl (by show 1 + 1 ≤ 27 + 6 * lv; omega) (by show 8 + (1 + 11) + (40) ≤ 1235 + 150 * lv; omega) (yRl_cons rfl rfl (by show 26 + 6 * lv + 1 ≤ 27 + 6 * lv; omega) (by show 8 + (5 + 11) + (1210 + 150 * lv) ≤ 1235 + 150 * lv; omega) yRl_nil))
theorem yM_mPg {l : Launch} {Ts : List Cond} {cl : List vw_C} {RO : zRO} {lv : Nat} (H : zHyp Ts cl RO) (hO : yMet l Ts cl zpZ RO zpMT (yC_mOg lv)) : yMet l Ts cl zpZ RO zpMT (yC_mPg lv) := ymet_of2 H.1 H.2.1 zpDj H.2.2.1 yRb H.p12 (ymets_cons (yM_BA3 H) (ymets_cons hO ymets_nil)) (zrc1 rfl) (plainFor_of_name zpy12) zpDk189 (fun as g K Y h hA hY => by
  obtain ⟨o, rfl, hp0, hp1, hK⟩ := h
  exact yv_mPg (yCl.rl (rm := (50, 5000)) (yR_mPg) (by show 1 ≤ 27 + 6 * lv; omega) (by show 1000 ≤ 1235 + 150 * lv; omega) hY) hp0 hp1 hK)
set_option maxRecDepth 8000 in
theorem yl_mSg {K : List yV → yM → Prop} {Y : yNx} {g : yM} {lv : Nat} {o : Int} (ho : o + (lv : Int) = 6 ∧ 0 ≤ o) (hY : yCl zpD200 (zpZ, zpRS, zpP12, zpMT, [yC_BA3, (189, (40, 4000), yP_mPg lv)], (50, 5000), 1) K Y) (hp : yMq o g) : ∀ (n : Nat) (v : Int) (m : yM) (r : yR) (w2 w3 : yV) (hb : r.1 = -1 → 60 - r.2.1 ≤ n) (hm : yMo o g m r v) (hr : yGr (g 90 17) r) (hK : ∀ (z : Int) (g' : yM), yMo o g g' (yLp (yTq g) yPl (yPro (yTq g) (yOn (yTq g) lv)) n r) z → K [(1, z)] g'), Y 5 [(3, 90), (1, v), w2, w3] [] m := by
  intro n
  induction n using Nat.strongRecOn with
  | ind n ih =>
    intro v m r w2 w3 hb hm hr hK
    obtain ⟨hT0, hf, hpl, hle, hbs, hop⟩ := id hp
    have tg := yTq_tg hle
    obtain ⟨m1, m2, m3, m4, m5, m6⟩ := id hm
    have tm := m2.tq
    have f18 := m2 90 18 (by omega)
    have f16 := m2 90 16 (by omega)
    refine yrun_ok (sp := fun pc => Nat.beq pc 5) hY 36 5 _ [] m ?_
    show ((0 ≤ (m 90 19) → (K [(1, v)] m)) ∧ (¬ (0 ≤ (m 90 19)) → ([(3, 90)] = [(3, 90)] ∧ (0 ≤ m 90 17) ∧ (m 90 18 ≤ 60) ∧ (m 90 16 = -1 ∨ m 90 16 = 0) ∧ (∀ (r2 : Int), (r2 = yTq m (m 90 17)) → ((r2 = 43 → ([(3, 90)] = [(3, 90)] ∧ (0 ≤ m 90 17) ∧ (m 90 18 ≤ 60) ∧ (m 90 16 = -1 ∨ m 90 16 = 0) ∧ (∀ (r5 : Int), (r5 = yTq m (m 90 17)) → ((r5 ≠ 43 → (∃ (o8 : Int), [(3, 90)] = [(3, 90)] ∧ (yMq o8 (yset m 90 17 (yw ((m 90 17) + 1)))) ∧ (o8 + (lv : Int) = 6 ∧ 0 ≤ o8) ∧ (∀ (r9 : Int) (g10 : yM), (yMo o8 (yset m 90 17 (yw ((m 90 17) + 1))) g10 (yPro (yTq (yset m 90 17 (yw ((m 90 17) + 1)))) (yOn (yTq (yset m 90 17 (yw ((m 90 17) + 1)))) lv) ((yset m 90 17 (yw ((m 90 17) + 1))) 90 17)) r9) → (((0 : Int) = 0 → (Y 5 [(3, 90), (1, (yw (v - r9))), (1, 0), (1, r9)] [] g10)) ∧ (¬ (0 : Int) = 0 → _))))) ∧ (¬ (r5 ≠ 43) → (∃ (o13 : Int), [(3, 90)] = [(3, 90)] ∧ (yMq o13 (yset m 90 17 (yw ((m 90 17) + 1)))) ∧ (o13 + (lv : Int) = 6 ∧ 0 ≤ o13) ∧ (∀ (r14 : Int) (g15 : yM), (yMo o13 (yset m 90 17 (yw ((m 90 17) + 1))) g15 (yPro (yTq (yset m 90 17 (yw ((m 90 17) + 1)))) (yOn (yTq (yset m 90 17 (yw ((m 90 17) + 1)))) lv) ((yset m 90 17 (yw ((m 90 17) + 1))) 90 17)) r14) → (((1 : Int) = 0 → _) ∧ (¬ (1 : Int) = 0 → (Y 5 [(3, 90), (1, (yw (v + r14))), (1, 1), (1, r14)] [] g15)))))))))) ∧ (¬ (r2 = 43) → ([(3, 90)] = [(3, 90)] ∧ (0 ≤ m 90 17) ∧ (m 90 18 ≤ 60) ∧ (m 90 16 = -1 ∨ m 90 16 = 0) ∧ (∀ (r18 : Int), (r18 = yTq m (m 90 17)) → ((r18 ≠ 45 → (K [(1, v)] m)) ∧ (¬ (r18 ≠ 45) → ([(3, 90)] = [(3, 90)] ∧ (0 ≤ m 90 17) ∧ (m 90 18 ≤ 60) ∧ (m 90 16 = -1 ∨ m 90 16 = 0) ∧ (∀ (r21 : Int), (r21 = yTq m (m 90 17)) → ((r21 ≠ 43 → (∃ (o24 : Int), [(3, 90)] = [(3, 90)] ∧ (yMq o24 (yset m 90 17 (yw ((m 90 17) + 1)))) ∧ (o24 + (lv : Int) = 6 ∧ 0 ≤ o24) ∧ (∀ (r25 : Int) (g26 : yM), (yMo o24 (yset m 90 17 (yw ((m 90 17) + 1))) g26 (yPro (yTq (yset m 90 17 (yw ((m 90 17) + 1)))) (yOn (yTq (yset m 90 17 (yw ((m 90 17) + 1)))) lv) ((yset m 90 17 (yw ((m 90 17) + 1))) 90 17)) r25) → (((0 : Int) = 0 → (Y 5 [(3, 90), (1, (yw (v - r25))), (1, 0), (1, r25)] [] g26)) ∧ (¬ (0 : Int) = 0 → _))))) ∧ (¬ (r21 ≠ 43) → (∃ (o29 : Int), [(3, 90)] = [(3, 90)] ∧ (yMq o29 (yset m 90 17 (yw ((m 90 17) + 1)))) ∧ (o29 + (lv : Int) = 6 ∧ 0 ≤ o29) ∧ (∀ (r30 : Int) (g31 : yM), (yMo o29 (yset m 90 17 (yw ((m 90 17) + 1))) g31 (yPro (yTq (yset m 90 17 (yw ((m 90 17) + 1)))) (yOn (yTq (yset m 90 17 (yw ((m 90 17) + 1)))) lv) ((yset m 90 17 (yw ((m 90 17) + 1))) 90 17)) r30) → (((1 : Int) = 0 → _) ∧ (¬ (1 : Int) = 0 → (Y 5 [(3, 90), (1, (yw (v + r30))), (1, 1), (1, r30)] [] g31)))))))))))))))))))
    refine ⟨fun h1 => ?_, fun h1 => ?_⟩
    · have cn : ¬ (r.1 = -1 ∧ yPl (yTq g r.2.1) = true) := fun ⟨z1, z2⟩ => by
        have e2 := (m6 z1).1
        have e3 := m3.trans z1
        have z3 := of_decide_eq_true z2
        omega
      refine hK _ _ ?_
      rw [yLp_0 cn]
      exact hm
    · refine ⟨rfl, (by omega), (by omega), (by omega), ?_⟩
      intro r2 p30
      refine ⟨fun h4 => ?_, fun h4 => ?_⟩
      · refine ⟨rfl, (by omega), (by omega), (by omega), ?_⟩
        intro r5 p60
        refine ⟨fun h7 => ?_, fun h7 => ?_⟩
        · refine ⟨(o), rfl, (by
      have e1 : r.1 = -1 := by have := hr.2; omega
      have e2 := (m6 e1).1
      rw [tm, e2] at p30
      rw [tm, e2] at p60
      have e3 := hr.1 e1
      have h60 := tg r.2.1 (by omega) (by omega)
      rw [yw_s (m 90 17 + 1) (by omega) (by omega)]
      exact yMo.pe hp hm e1 h60), (ho), ?_⟩
          intro r9 g10 p110
          rw [show yTq (yset m 90 17 (yw ((m 90 17) + 1))) = yTq m from (yXm.st (fun _ _ _ => rfl) (Or.inl rfl)).tq, yset_eq] at p110
          obtain ⟨x1_p110, x2_p110, x3_p110, x4_p110, x5_p110, x6_p110⟩ := id p110
          refine ⟨fun _ => ?_, fun h12 => absurd (by decide) h12⟩
          have e1 : r.1 = -1 := by have := hr.2; omega
          have e2 := (m6 e1).1
          rw [tm, e2] at p30
          rw [tm, e2] at p60
          have e3 := hr.1 e1
          have h60 := tg r.2.1 (by omega) (by omega)
          rw [yw_s (m 90 17 + 1) (by omega) (by omega)] at p110
          rw [tm] at p110
          have ep : yMo o (yset m 90 17 (m 90 17 + 1)) g10 (yPro (yTq g) (yOn (yTq g) lv) (r.2.1 + 1)) r9 := by
            rw [← e2]
            exact p110
          have st := yMo.step (c := yTq g r.2.1) hm e1 ep (by omega) (by omega) (by omega) (by omega)
          have cd : r.1 = -1 ∧ yPl (yTq g r.2.1) = true := ⟨e1, decide_eq_true (by omega)⟩
          have ej : yJn (yTq g r.2.1) v r9 = (yw (v - r9)) := yJn_s (by omega)
          rw [ej] at st
          have hxr := yPro_gd tg (yOn_gd tg lv) (r.2.1 + 1) (by omega) (by omega)
          have gn := yGr.nx tg yPl_0 (yPro_gd tg (yOn_gd tg lv)) hpl.1 hr cd
          have h8 := hb e1
          obtain ⟨k, rfl⟩ : ∃ k : Nat, n = k + 1 := ⟨n - 1, by omega⟩
          refine ih k (Nat.lt_succ_self k) _ _ _ (1, 0) (1, r9) ?_ st gn (fun z g' h => hK z g' (by rw [yLp_1 cd]; exact h))
          exact (fun z => by
            have e9 : (yPro (yTq g) (yOn (yTq g) lv) (r.2.1 + 1)).1 = -1 := by
              by_cases e9 : (yPro (yTq g) (yOn (yTq g) lv) (r.2.1 + 1)).1 = -1
              · exact e9
              · rw [if_neg e9] at z
                exact absurd z e9
            rw [if_pos e9]
            have e10 := hxr.1 e9
            have e11 : ((k + 1 : Nat) : Int) = (k : Int) + 1 := rfl
            show 60 - (yPro (yTq g) (yOn (yTq g) lv) (r.2.1 + 1)).2.1 ≤ (k : Int)
            omega)
        · refine ⟨(o), rfl, (by
      have e1 : r.1 = -1 := by have := hr.2; omega
      have e2 := (m6 e1).1
      rw [tm, e2] at p30
      rw [tm, e2] at p60
      have e3 := hr.1 e1
      have h60 := tg r.2.1 (by omega) (by omega)
      rw [yw_s (m 90 17 + 1) (by omega) (by omega)]
      exact yMo.pe hp hm e1 h60), (ho), ?_⟩
          intro r14 g15 p160
          rw [show yTq (yset m 90 17 (yw ((m 90 17) + 1))) = yTq m from (yXm.st (fun _ _ _ => rfl) (Or.inl rfl)).tq, yset_eq] at p160
          obtain ⟨x1_p160, x2_p160, x3_p160, x4_p160, x5_p160, x6_p160⟩ := id p160
          refine ⟨fun h17 => absurd h17 (by decide), fun _ => ?_⟩
          have e1 : r.1 = -1 := by have := hr.2; omega
          have e2 := (m6 e1).1
          rw [tm, e2] at p30
          rw [tm, e2] at p60
          have e3 := hr.1 e1
          have h60 := tg r.2.1 (by omega) (by omega)
          rw [yw_s (m 90 17 + 1) (by omega) (by omega)] at p160
          rw [tm] at p160
          have ep : yMo o (yset m 90 17 (m 90 17 + 1)) g15 (yPro (yTq g) (yOn (yTq g) lv) (r.2.1 + 1)) r14 := by
            rw [← e2]
            exact p160
          have st := yMo.step (c := yTq g r.2.1) hm e1 ep (by omega) (by omega) (by omega) (by omega)
          have cd : r.1 = -1 ∧ yPl (yTq g r.2.1) = true := ⟨e1, decide_eq_true (by omega)⟩
          have ej : yJn (yTq g r.2.1) v r14 = (yw (v + r14)) := yJn_p (by omega)
          rw [ej] at st
          have hxr := yPro_gd tg (yOn_gd tg lv) (r.2.1 + 1) (by omega) (by omega)
          have gn := yGr.nx tg yPl_0 (yPro_gd tg (yOn_gd tg lv)) hpl.1 hr cd
          have h8 := hb e1
          obtain ⟨k, rfl⟩ : ∃ k : Nat, n = k + 1 := ⟨n - 1, by omega⟩
          refine ih k (Nat.lt_succ_self k) _ _ _ (1, 1) (1, r14) ?_ st gn (fun z g' h => hK z g' (by rw [yLp_1 cd]; exact h))
          exact (fun z => by
            have e9 : (yPro (yTq g) (yOn (yTq g) lv) (r.2.1 + 1)).1 = -1 := by
              by_cases e9 : (yPro (yTq g) (yOn (yTq g) lv) (r.2.1 + 1)).1 = -1
              · exact e9
              · rw [if_neg e9] at z
                exact absurd z e9
            rw [if_pos e9]
            have e10 := hxr.1 e9
            have e11 : ((k + 1 : Nat) : Int) = (k : Int) + 1 := rfl
            show 60 - (yPro (yTq g) (yOn (yTq g) lv) (r.2.1 + 1)).2.1 ≤ (k : Int)
            omega)
      · refine ⟨rfl, (by omega), (by omega), (by omega), ?_⟩
        intro r18 p190
        refine ⟨fun h20 => ?_, fun h20 => ?_⟩
        · have cn : ¬ (r.1 = -1 ∧ yPl (yTq g r.2.1) = true) := fun ⟨z1, z2⟩ => by
            have e2 := (m6 z1).1
            have e3 := m3.trans z1
            have z3 := of_decide_eq_true z2
            rw [tm, e2] at p30
            rw [tm, e2] at p190
            omega
          refine hK _ _ ?_
          rw [yLp_0 cn]
          exact hm
        · refine ⟨rfl, (by omega), (by omega), (by omega), ?_⟩
          intro r21 p220
          refine ⟨fun h23 => ?_, fun h23 => ?_⟩
          · refine ⟨(o), rfl, (by
      have e1 : r.1 = -1 := by have := hr.2; omega
      have e2 := (m6 e1).1
      rw [tm, e2] at p30
      rw [tm, e2] at p190
      rw [tm, e2] at p220
      have e3 := hr.1 e1
      have h60 := tg r.2.1 (by omega) (by omega)
      rw [yw_s (m 90 17 + 1) (by omega) (by omega)]
      exact yMo.pe hp hm e1 h60), (ho), ?_⟩
            intro r25 g26 p270
            rw [show yTq (yset m 90 17 (yw ((m 90 17) + 1))) = yTq m from (yXm.st (fun _ _ _ => rfl) (Or.inl rfl)).tq, yset_eq] at p270
            obtain ⟨x1_p270, x2_p270, x3_p270, x4_p270, x5_p270, x6_p270⟩ := id p270
            refine ⟨fun _ => ?_, fun h28 => absurd (by decide) h28⟩
            have e1 : r.1 = -1 := by have := hr.2; omega
            have e2 := (m6 e1).1
            rw [tm, e2] at p30
            rw [tm, e2] at p190
            rw [tm, e2] at p220
            have e3 := hr.1 e1
            have h60 := tg r.2.1 (by omega) (by omega)
            rw [yw_s (m 90 17 + 1) (by omega) (by omega)] at p270
            rw [tm] at p270
            have ep : yMo o (yset m 90 17 (m 90 17 + 1)) g26 (yPro (yTq g) (yOn (yTq g) lv) (r.2.1 + 1)) r25 := by
              rw [← e2]
              exact p270
            have st := yMo.step (c := yTq g r.2.1) hm e1 ep (by omega) (by omega) (by omega) (by omega)
            have cd : r.1 = -1 ∧ yPl (yTq g r.2.1) = true := ⟨e1, decide_eq_true (by omega)⟩
            have ej : yJn (yTq g r.2.1) v r25 = (yw (v - r25)) := yJn_s (by omega)
            rw [ej] at st
            have hxr := yPro_gd tg (yOn_gd tg lv) (r.2.1 + 1) (by omega) (by omega)
            have gn := yGr.nx tg yPl_0 (yPro_gd tg (yOn_gd tg lv)) hpl.1 hr cd
            have h8 := hb e1
            obtain ⟨k, rfl⟩ : ∃ k : Nat, n = k + 1 := ⟨n - 1, by omega⟩
            refine ih k (Nat.lt_succ_self k) _ _ _ (1, 0) (1, r25) ?_ st gn (fun z g' h => hK z g' (by rw [yLp_1 cd]; exact h))
            exact (fun z => by
              have e9 : (yPro (yTq g) (yOn (yTq g) lv) (r.2.1 + 1)).1 = -1 := by
                by_cases e9 : (yPro (yTq g) (yOn (yTq g) lv) (r.2.1 + 1)).1 = -1
                · exact e9
                · rw [if_neg e9] at z
                  exact absurd z e9
              rw [if_pos e9]
              have e10 := hxr.1 e9
              have e11 : ((k + 1 : Nat) : Int) = (k : Int) + 1 := rfl
              show 60 - (yPro (yTq g) (yOn (yTq g) lv) (r.2.1 + 1)).2.1 ≤ (k : Int)
              omega)
          · refine ⟨(o), rfl, (by
      have e1 : r.1 = -1 := by have := hr.2; omega
      have e2 := (m6 e1).1
      rw [tm, e2] at p30
      rw [tm, e2] at p190
      rw [tm, e2] at p220
      have e3 := hr.1 e1
      have h60 := tg r.2.1 (by omega) (by omega)
      rw [yw_s (m 90 17 + 1) (by omega) (by omega)]
      exact yMo.pe hp hm e1 h60), (ho), ?_⟩
            intro r30 g31 p320
            rw [show yTq (yset m 90 17 (yw ((m 90 17) + 1))) = yTq m from (yXm.st (fun _ _ _ => rfl) (Or.inl rfl)).tq, yset_eq] at p320
            obtain ⟨x1_p320, x2_p320, x3_p320, x4_p320, x5_p320, x6_p320⟩ := id p320
            refine ⟨fun h33 => absurd h33 (by decide), fun _ => ?_⟩
            have e1 : r.1 = -1 := by have := hr.2; omega
            have e2 := (m6 e1).1
            rw [tm, e2] at p30
            rw [tm, e2] at p190
            rw [tm, e2] at p220
            have e3 := hr.1 e1
            have h60 := tg r.2.1 (by omega) (by omega)
            rw [yw_s (m 90 17 + 1) (by omega) (by omega)] at p320
            rw [tm] at p320
            have ep : yMo o (yset m 90 17 (m 90 17 + 1)) g31 (yPro (yTq g) (yOn (yTq g) lv) (r.2.1 + 1)) r30 := by
              rw [← e2]
              exact p320
            have st := yMo.step (c := yTq g r.2.1) hm e1 ep (by omega) (by omega) (by omega) (by omega)
            have cd : r.1 = -1 ∧ yPl (yTq g r.2.1) = true := ⟨e1, decide_eq_true (by omega)⟩
            have ej : yJn (yTq g r.2.1) v r30 = (yw (v + r30)) := yJn_p (by omega)
            rw [ej] at st
            have hxr := yPro_gd tg (yOn_gd tg lv) (r.2.1 + 1) (by omega) (by omega)
            have gn := yGr.nx tg yPl_0 (yPro_gd tg (yOn_gd tg lv)) hpl.1 hr cd
            have h8 := hb e1
            obtain ⟨k, rfl⟩ : ∃ k : Nat, n = k + 1 := ⟨n - 1, by omega⟩
            refine ih k (Nat.lt_succ_self k) _ _ _ (1, 1) (1, r30) ?_ st gn (fun z g' h => hK z g' (by rw [yLp_1 cd]; exact h))
            exact (fun z => by
              have e9 : (yPro (yTq g) (yOn (yTq g) lv) (r.2.1 + 1)).1 = -1 := by
                by_cases e9 : (yPro (yTq g) (yOn (yTq g) lv) (r.2.1 + 1)).1 = -1
                · exact e9
                · rw [if_neg e9] at z
                  exact absurd z e9
              rw [if_pos e9]
              have e10 := hxr.1 e9
              have e11 : ((k + 1 : Nat) : Int) = (k : Int) + 1 := rfl
              show 60 - (yPro (yTq g) (yOn (yTq g) lv) (r.2.1 + 1)).2.1 ≤ (k : Int)
              omega)
set_option maxRecDepth 8000 in
theorem yv_mSg {K : List yV → yM → Prop} {Y : yNx} {g : yM} {o : Int} {lv : Nat} (hY : yCl zpD200 (zpZ, zpRS, zpP12, zpMT, [yC_BA3, (189, (40, 4000), yP_mPg lv)], (50, 5000), 1) K Y) (hp0 : yMq o g) (hp1 : o + (lv : Int) = 6 ∧ 0 ≤ o) (hK : ∀ (r : Int) (g' : yM), (yMo o g g' (ySum (yTq g) (yOn (yTq g) lv) (g 90 17)) r) → K [(1, r)] g') : Y 0 [(3, 90), (0, 0), (0, 0), (0, 0)] [] g := by
  have hp := hp0
  have ho := hp1
  obtain ⟨hT0, hf, hpl, hle, hbs, hop⟩ := id hp
  have tg := yTq_tg hle
  have hg := yPro_gd tg (yOn_gd tg lv) (g 90 17) hpl.1 hpl.2
  refine yrun_ok (sp := fun pc => Nat.beq pc 5) hY 4 0 _ [] g ?_
  show (∃ (o1 : Int), [(3, 90)] = [(3, 90)] ∧ (yMq o1 g) ∧ (o1 + (lv : Int) = 6 ∧ 0 ≤ o1) ∧ (∀ (r2 : Int) (g3 : yM), (yMo o1 g g3 (yPro (yTq g) (yOn (yTq g) lv) (g 90 17)) r2) → (Y 5 [(3, 90), (1, r2), (0, 0), (0, 0)] [] g3)))
  refine ⟨(o), rfl, (hp0), (ho), ?_⟩
  intro r2 g3 p40
  obtain ⟨x1_p40, x2_p40, x3_p40, x4_p40, x5_p40, x6_p40⟩ := id p40
  exact yl_mSg ho hY hp 60 _ _ _ _ _ (fun z => by have z1 := hg.1 z; omega) p40 hg (fun z g' h => hK z g' h)
theorem yR_mSg {lv : Nat} : yRl zpMT (28 + 6 * lv, 1260 + 150 * lv) [yC_BA3, (189, (40, 4000), yP_mPg lv)] [yC_BA3, yC_mPg lv] := (yRl_cons rfl rfl (by show 1 + 1 ≤ 28 + 6 * lv; omega) (by show 8 + (1 + 11) + (40) ≤ 1260 + 150 * lv; omega) (yRl_cons rfl rfl (by show 27 + 6 * lv + 1 ≤ 28 + 6 * lv; omega) (by show 8 + (4 + 11) + (1235 + 150 * lv) ≤ 1260 + 150 * lv; omega) yRl_nil))
theorem yM_mSg {l : Launch} {Ts : List Cond} {cl : List vw_C} {RO : zRO} {lv : Nat} (H : zHyp Ts cl RO) (hP : yMet l Ts cl zpZ RO zpMT (yC_mPg lv)) : yMet l Ts cl zpZ RO zpMT (yC_mSg lv) := ymet_of2 H.1 H.2.1 zpDj H.2.2.1 yRb H.p12 (ymets_cons (yM_BA3 H) (ymets_cons hP ymets_nil)) (zrc1 rfl) (plainFor_of_name zpy12) zpDk200 (fun as g K Y h hA hY => by
  obtain ⟨o, rfl, hp0, hp1, hK⟩ := h
  exact yv_mSg (yCl.rl (rm := (50, 5000)) (yR_mSg) (by show 1 ≤ 28 + 6 * lv; omega) (by show 1000 ≤ 1260 + 150 * lv; omega) hY) hp0 hp1 hK)
set_option maxRecDepth 8000 in
theorem yl_mCg {K : List yV → yM → Prop} {Y : yNx} {g m : yM} {r : yR} {v : Int} {w2 w3 : yV} {lv : Nat} {o : Int} (ho : o + (lv : Int) = 6 ∧ 0 ≤ o) (hY : yCl zpD149 (zpZ, zpRS, zpP12, zpMT, [yC_BA3, (200, (40, 4000), yP_mSg lv)], (50, 5000), 1) K Y) (hp : yMq o g) (hm : yMo o g m r v) (hr : yGr (g 90 17) r) (hK : ∀ (z : Int) (g' : yM), yMo o g g' (yLp (yTq g) yCq (ySum (yTq g) (yOn (yTq g) lv)) 1 r) z → K [(1, z)] g') : Y 5 [(3, 90), (1, v), w2, w3] [] m := by
  obtain ⟨hT0, hf, hpl, hle, hbs, hop⟩ := id hp
  have tg := yTq_tg hle
  obtain ⟨m1, m2, m3, m4, m5, m6⟩ := id hm
  have tm := m2.tq
  have f18 := m2 90 18 (by omega)
  have f16 := m2 90 16 (by omega)
  refine yrun_ok (sp := fun pc => false) hY 37 5 _ [] m ?_
  show ([(3, 90)] = [(3, 90)] ∧ (0 ≤ m 90 17) ∧ (m 90 18 ≤ 60) ∧ (m 90 16 = -1 ∨ m 90 16 = 0) ∧ (∀ (r1 : Int), (r1 = yTq m (m 90 17)) → ((0 ≤ (m 90 19) → (K [(1, v)] m)) ∧ (¬ (0 ≤ (m 90 19)) → ((r1 = 60 → (∃ (o5 : Int), [(3, 90)] = [(3, 90)] ∧ (yMq o5 (yset m 90 17 (yw ((m 90 17) + 1)))) ∧ (o5 + (lv : Int) = 6 ∧ 0 ≤ o5) ∧ (∀ (r6 : Int) (g7 : yM), (yMo o5 (yset m 90 17 (yw ((m 90 17) + 1))) g7 (ySum (yTq (yset m 90 17 (yw ((m 90 17) + 1)))) (yOn (yTq (yset m 90 17 (yw ((m 90 17) + 1)))) lv) ((yset m 90 17 (yw ((m 90 17) + 1))) 90 17)) r6) → ((r1 ≠ 60 → ((r1 ≠ 61 → ((v ≤ r6 → (K [(1, 0)] g7)) ∧ (¬ (v ≤ r6) → (K [(1, 1)] g7)))) ∧ (¬ (r1 ≠ 61) → ((v ≠ r6 → (K [(1, 0)] g7)) ∧ (¬ (v ≠ r6) → (K [(1, 1)] g7)))))) ∧ (¬ (r1 ≠ 60) → ((r6 ≤ v → (K [(1, 0)] g7)) ∧ (¬ (r6 ≤ v) → (K [(1, 1)] g7)))))))) ∧ (¬ (r1 = 60) → ((r1 = 61 → (∃ (o15 : Int), [(3, 90)] = [(3, 90)] ∧ (yMq o15 (yset m 90 17 (yw ((m 90 17) + 1)))) ∧ (o15 + (lv : Int) = 6 ∧ 0 ≤ o15) ∧ (∀ (r16 : Int) (g17 : yM), (yMo o15 (yset m 90 17 (yw ((m 90 17) + 1))) g17 (ySum (yTq (yset m 90 17 (yw ((m 90 17) + 1)))) (yOn (yTq (yset m 90 17 (yw ((m 90 17) + 1)))) lv) ((yset m 90 17 (yw ((m 90 17) + 1))) 90 17)) r16) → ((r1 ≠ 60 → ((r1 ≠ 61 → ((v ≤ r16 → (K [(1, 0)] g17)) ∧ (¬ (v ≤ r16) → (K [(1, 1)] g17)))) ∧ (¬ (r1 ≠ 61) → ((v ≠ r16 → (K [(1, 0)] g17)) ∧ (¬ (v ≠ r16) → (K [(1, 1)] g17)))))) ∧ (¬ (r1 ≠ 60) → ((r16 ≤ v → (K [(1, 0)] g17)) ∧ (¬ (r16 ≤ v) → (K [(1, 1)] g17)))))))) ∧ (¬ (r1 = 61) → ((r1 = 62 → (∃ (o25 : Int), [(3, 90)] = [(3, 90)] ∧ (yMq o25 (yset m 90 17 (yw ((m 90 17) + 1)))) ∧ (o25 + (lv : Int) = 6 ∧ 0 ≤ o25) ∧ (∀ (r26 : Int) (g27 : yM), (yMo o25 (yset m 90 17 (yw ((m 90 17) + 1))) g27 (ySum (yTq (yset m 90 17 (yw ((m 90 17) + 1)))) (yOn (yTq (yset m 90 17 (yw ((m 90 17) + 1)))) lv) ((yset m 90 17 (yw ((m 90 17) + 1))) 90 17)) r26) → ((r1 ≠ 60 → ((r1 ≠ 61 → ((v ≤ r26 → (K [(1, 0)] g27)) ∧ (¬ (v ≤ r26) → (K [(1, 1)] g27)))) ∧ (¬ (r1 ≠ 61) → ((v ≠ r26 → (K [(1, 0)] g27)) ∧ (¬ (v ≠ r26) → (K [(1, 1)] g27)))))) ∧ (¬ (r1 ≠ 60) → ((r26 ≤ v → (K [(1, 0)] g27)) ∧ (¬ (r26 ≤ v) → (K [(1, 1)] g27)))))))) ∧ (¬ (r1 = 62) → (K [(1, v)] m)))))))))))
  refine ⟨rfl, (by omega), (by omega), (by omega), ?_⟩
  intro r1 p20
  refine ⟨fun h3 => ?_, fun h3 => ?_⟩
  · have cn : ¬ (r.1 = -1 ∧ yCq (yTq g r.2.1) = true) := fun ⟨z1, z2⟩ => by
      have e2 := (m6 z1).1
      have e3 := m3.trans z1
      have z3 := of_decide_eq_true z2
      rw [tm, e2] at p20
      omega
    refine hK _ _ ?_
    rw [yLp_0 cn]
    exact hm
  · refine ⟨fun h4 => ?_, fun h4 => ?_⟩
    · refine ⟨(o), rfl, (by
      have e1 : r.1 = -1 := by have := hr.2; omega
      have e2 := (m6 e1).1
      rw [tm, e2] at p20
      have e3 := hr.1 e1
      have h60 := tg r.2.1 (by omega) (by omega)
      rw [yw_s (m 90 17 + 1) (by omega) (by omega)]
      exact yMo.pe hp hm e1 h60), (ho), ?_⟩
      intro r6 g7 p80
      rw [show yTq (yset m 90 17 (yw ((m 90 17) + 1))) = yTq m from (yXm.st (fun _ _ _ => rfl) (Or.inl rfl)).tq, yset_eq] at p80
      obtain ⟨x1_p80, x2_p80, x3_p80, x4_p80, x5_p80, x6_p80⟩ := id p80
      refine ⟨fun h9 => ?_, fun h9 => ?_⟩
      · refine ⟨fun h10 => ?_, fun h10 => ?_⟩
        · refine ⟨fun h11 => ?_, fun h11 => ?_⟩
          · omega
          · omega
        · refine ⟨fun h12 => ?_, fun h12 => ?_⟩
          · omega
          · omega
      · refine ⟨fun h13 => ?_, fun h13 => ?_⟩
        · have e1 : r.1 = -1 := by have := hr.2; omega
          have e2 := (m6 e1).1
          rw [tm, e2] at p20
          have e3 := hr.1 e1
          have h60 := tg r.2.1 (by omega) (by omega)
          rw [yw_s (m 90 17 + 1) (by omega) (by omega)] at p80
          rw [tm] at p80
          have ep : yMo o (yset m 90 17 (m 90 17 + 1)) g7 (ySum (yTq g) (yOn (yTq g) lv) (r.2.1 + 1)) r6 := by
            rw [← e2]
            exact p80
          have st := yMo.step (c := yTq g r.2.1) hm e1 ep (by omega) (by omega) (by omega) (by omega)
          have cd : r.1 = -1 ∧ yCq (yTq g r.2.1) = true := ⟨e1, decide_eq_true (by omega)⟩
          have ej : yJn (yTq g r.2.1) v r6 = 0 := yJn_c0 (by omega)
          rw [ej] at st
          refine hK _ _ ?_
          rw [yLp_1 cd]
          exact st
        · have e1 : r.1 = -1 := by have := hr.2; omega
          have e2 := (m6 e1).1
          rw [tm, e2] at p20
          have e3 := hr.1 e1
          have h60 := tg r.2.1 (by omega) (by omega)
          rw [yw_s (m 90 17 + 1) (by omega) (by omega)] at p80
          rw [tm] at p80
          have ep : yMo o (yset m 90 17 (m 90 17 + 1)) g7 (ySum (yTq g) (yOn (yTq g) lv) (r.2.1 + 1)) r6 := by
            rw [← e2]
            exact p80
          have st := yMo.step (c := yTq g r.2.1) hm e1 ep (by omega) (by omega) (by omega) (by omega)
          have cd : r.1 = -1 ∧ yCq (yTq g r.2.1) = true := ⟨e1, decide_eq_true (by omega)⟩
          have ej : yJn (yTq g r.2.1) v r6 = 1 := yJn_c1 (by omega)
          rw [ej] at st
          refine hK _ _ ?_
          rw [yLp_1 cd]
          exact st
    · refine ⟨fun h14 => ?_, fun h14 => ?_⟩
      · refine ⟨(o), rfl, (by
      have e1 : r.1 = -1 := by have := hr.2; omega
      have e2 := (m6 e1).1
      rw [tm, e2] at p20
      have e3 := hr.1 e1
      have h60 := tg r.2.1 (by omega) (by omega)
      rw [yw_s (m 90 17 + 1) (by omega) (by omega)]
      exact yMo.pe hp hm e1 h60), (ho), ?_⟩
        intro r16 g17 p180
        rw [show yTq (yset m 90 17 (yw ((m 90 17) + 1))) = yTq m from (yXm.st (fun _ _ _ => rfl) (Or.inl rfl)).tq, yset_eq] at p180
        obtain ⟨x1_p180, x2_p180, x3_p180, x4_p180, x5_p180, x6_p180⟩ := id p180
        refine ⟨fun h19 => ?_, fun h19 => ?_⟩
        · refine ⟨fun h20 => ?_, fun h20 => ?_⟩
          · refine ⟨fun h21 => ?_, fun h21 => ?_⟩
            · omega
            · omega
          · refine ⟨fun h22 => ?_, fun h22 => ?_⟩
            · have e1 : r.1 = -1 := by have := hr.2; omega
              have e2 := (m6 e1).1
              rw [tm, e2] at p20
              have e3 := hr.1 e1
              have h60 := tg r.2.1 (by omega) (by omega)
              rw [yw_s (m 90 17 + 1) (by omega) (by omega)] at p180
              rw [tm] at p180
              have ep : yMo o (yset m 90 17 (m 90 17 + 1)) g17 (ySum (yTq g) (yOn (yTq g) lv) (r.2.1 + 1)) r16 := by
                rw [← e2]
                exact p180
              have st := yMo.step (c := yTq g r.2.1) hm e1 ep (by omega) (by omega) (by omega) (by omega)
              have cd : r.1 = -1 ∧ yCq (yTq g r.2.1) = true := ⟨e1, decide_eq_true (by omega)⟩
              have ej : yJn (yTq g r.2.1) v r16 = 0 := yJn_c0 (by omega)
              rw [ej] at st
              refine hK _ _ ?_
              rw [yLp_1 cd]
              exact st
            · have e1 : r.1 = -1 := by have := hr.2; omega
              have e2 := (m6 e1).1
              rw [tm, e2] at p20
              have e3 := hr.1 e1
              have h60 := tg r.2.1 (by omega) (by omega)
              rw [yw_s (m 90 17 + 1) (by omega) (by omega)] at p180
              rw [tm] at p180
              have ep : yMo o (yset m 90 17 (m 90 17 + 1)) g17 (ySum (yTq g) (yOn (yTq g) lv) (r.2.1 + 1)) r16 := by
                rw [← e2]
                exact p180
              have st := yMo.step (c := yTq g r.2.1) hm e1 ep (by omega) (by omega) (by omega) (by omega)
              have cd : r.1 = -1 ∧ yCq (yTq g r.2.1) = true := ⟨e1, decide_eq_true (by omega)⟩
              have ej : yJn (yTq g r.2.1) v r16 = 1 := yJn_c1 (by omega)
              rw [ej] at st
              refine hK _ _ ?_
              rw [yLp_1 cd]
              exact st
        · refine ⟨fun h23 => ?_, fun h23 => ?_⟩
          · omega
          · omega
      · refine ⟨fun h24 => ?_, fun h24 => ?_⟩
        · refine ⟨(o), rfl, (by
      have e1 : r.1 = -1 := by have := hr.2; omega
      have e2 := (m6 e1).1
      rw [tm, e2] at p20
      have e3 := hr.1 e1
      have h60 := tg r.2.1 (by omega) (by omega)
      rw [yw_s (m 90 17 + 1) (by omega) (by omega)]
      exact yMo.pe hp hm e1 h60), (ho), ?_⟩
          intro r26 g27 p280
          rw [show yTq (yset m 90 17 (yw ((m 90 17) + 1))) = yTq m from (yXm.st (fun _ _ _ => rfl) (Or.inl rfl)).tq, yset_eq] at p280
          obtain ⟨x1_p280, x2_p280, x3_p280, x4_p280, x5_p280, x6_p280⟩ := id p280
          refine ⟨fun h29 => ?_, fun h29 => ?_⟩
          · refine ⟨fun h30 => ?_, fun h30 => ?_⟩
            · refine ⟨fun h31 => ?_, fun h31 => ?_⟩
              · have e1 : r.1 = -1 := by have := hr.2; omega
                have e2 := (m6 e1).1
                rw [tm, e2] at p20
                have e3 := hr.1 e1
                have h60 := tg r.2.1 (by omega) (by omega)
                rw [yw_s (m 90 17 + 1) (by omega) (by omega)] at p280
                rw [tm] at p280
                have ep : yMo o (yset m 90 17 (m 90 17 + 1)) g27 (ySum (yTq g) (yOn (yTq g) lv) (r.2.1 + 1)) r26 := by
                  rw [← e2]
                  exact p280
                have st := yMo.step (c := yTq g r.2.1) hm e1 ep (by omega) (by omega) (by omega) (by omega)
                have cd : r.1 = -1 ∧ yCq (yTq g r.2.1) = true := ⟨e1, decide_eq_true (by omega)⟩
                have ej : yJn (yTq g r.2.1) v r26 = 0 := yJn_c0 (by omega)
                rw [ej] at st
                refine hK _ _ ?_
                rw [yLp_1 cd]
                exact st
              · have e1 : r.1 = -1 := by have := hr.2; omega
                have e2 := (m6 e1).1
                rw [tm, e2] at p20
                have e3 := hr.1 e1
                have h60 := tg r.2.1 (by omega) (by omega)
                rw [yw_s (m 90 17 + 1) (by omega) (by omega)] at p280
                rw [tm] at p280
                have ep : yMo o (yset m 90 17 (m 90 17 + 1)) g27 (ySum (yTq g) (yOn (yTq g) lv) (r.2.1 + 1)) r26 := by
                  rw [← e2]
                  exact p280
                have st := yMo.step (c := yTq g r.2.1) hm e1 ep (by omega) (by omega) (by omega) (by omega)
                have cd : r.1 = -1 ∧ yCq (yTq g r.2.1) = true := ⟨e1, decide_eq_true (by omega)⟩
                have ej : yJn (yTq g r.2.1) v r26 = 1 := yJn_c1 (by omega)
                rw [ej] at st
                refine hK _ _ ?_
                rw [yLp_1 cd]
                exact st
            · refine ⟨fun h32 => ?_, fun h32 => ?_⟩
              · omega
              · omega
          · refine ⟨fun h33 => ?_, fun h33 => ?_⟩
            · omega
            · omega
        · have cn : ¬ (r.1 = -1 ∧ yCq (yTq g r.2.1) = true) := fun ⟨z1, z2⟩ => by
            have e2 := (m6 z1).1
            have e3 := m3.trans z1
            have z3 := of_decide_eq_true z2
            rw [tm, e2] at p20
            omega
          refine hK _ _ ?_
          rw [yLp_0 cn]
          exact hm
set_option maxRecDepth 8000 in
theorem yv_mCg {K : List yV → yM → Prop} {Y : yNx} {g : yM} {o : Int} {lv : Nat} (hY : yCl zpD149 (zpZ, zpRS, zpP12, zpMT, [yC_BA3, (200, (40, 4000), yP_mSg lv)], (50, 5000), 1) K Y) (hp0 : yMq o g) (hp1 : o + (lv : Int) = 6 ∧ 0 ≤ o) (hK : ∀ (r : Int) (g' : yM), (yMo o g g' (yCmp (yTq g) (yOn (yTq g) lv) (g 90 17)) r) → K [(1, r)] g') : Y 0 [(3, 90), (0, 0), (0, 0), (0, 0)] [] g := by
  have hp := hp0
  have ho := hp1
  obtain ⟨hT0, hf, hpl, hle, hbs, hop⟩ := id hp
  have tg := yTq_tg hle
  have hg := ySum_gd tg (yOn_gd tg lv) (g 90 17) hpl.1 hpl.2
  refine yrun_ok (sp := fun pc => Nat.beq pc 5) hY 4 0 _ [] g ?_
  show (∃ (o1 : Int), [(3, 90)] = [(3, 90)] ∧ (yMq o1 g) ∧ (o1 + (lv : Int) = 6 ∧ 0 ≤ o1) ∧ (∀ (r2 : Int) (g3 : yM), (yMo o1 g g3 (ySum (yTq g) (yOn (yTq g) lv) (g 90 17)) r2) → (Y 5 [(3, 90), (1, r2), (0, 0), (0, 0)] [] g3)))
  refine ⟨(o), rfl, (hp0), (ho), ?_⟩
  intro r2 g3 p40
  obtain ⟨x1_p40, x2_p40, x3_p40, x4_p40, x5_p40, x6_p40⟩ := id p40
  exact yl_mCg ho hY hp p40 hg (fun z g' h => hK z g' h)
theorem yR_mCg {lv : Nat} : yRl zpMT (29 + 6 * lv, 1285 + 150 * lv) [yC_BA3, (200, (40, 4000), yP_mSg lv)] [yC_BA3, yC_mSg lv] := (yRl_cons rfl rfl (by show 1 + 1 ≤ 29 + 6 * lv; omega) (by show 8 + (1 + 11) + (40) ≤ 1285 + 150 * lv; omega) (yRl_cons rfl rfl (by show 28 + 6 * lv + 1 ≤ 29 + 6 * lv; omega) (by show 8 + (4 + 11) + (1260 + 150 * lv) ≤ 1285 + 150 * lv; omega) yRl_nil))
theorem yM_mCg {l : Launch} {Ts : List Cond} {cl : List vw_C} {RO : zRO} {lv : Nat} (H : zHyp Ts cl RO) (hS : yMet l Ts cl zpZ RO zpMT (yC_mSg lv)) : yMet l Ts cl zpZ RO zpMT (yC_mCg lv) := ymet_of2 H.1 H.2.1 zpDj H.2.2.1 yRb H.p12 (ymets_cons (yM_BA3 H) (ymets_cons hS ymets_nil)) (zrc1 rfl) (plainFor_of_name zpy12) zpDk149 (fun as g K Y h hA hY => by
  obtain ⟨o, rfl, hp0, hp1, hK⟩ := h
  exact yv_mCg (yCl.rl (rm := (50, 5000)) (yR_mCg) (by show 1 ≤ 29 + 6 * lv; omega) (by show 1000 ≤ 1285 + 150 * lv; omega) hY) hp0 hp1 hK)
set_option maxRecDepth 8000 in
theorem yl_mBg {K : List yV → yM → Prop} {Y : yNx} {g : yM} {lv : Nat} {o : Int} (ho : o + (lv : Int) = 6 ∧ 0 ≤ o) (hY : yCl zpD140 (zpZ, zpRS, zpP12, zpMT, [yC_BA3, yC_TK3, (149, (40, 4000), yP_mCg lv)], (50, 5000), 1) K Y) (hp : yMq o g) : ∀ (n : Nat) (v : Int) (m : yM) (r : yR) (w2 : yV) (hb : r.1 = -1 → 60 - r.2.1 ≤ n) (hm : yMo o g m r v) (hr : yGr (g 90 17) r) (hK : ∀ (z : Int) (g' : yM), yMo o g g' (yLp (yTq g) yAn (yCmp (yTq g) (yOn (yTq g) lv)) n r) z → K [(1, z)] g'), Y 5 [(3, 90), (1, v), w2] [] m := by
  intro n
  induction n using Nat.strongRecOn with
  | ind n ih =>
    intro v m r w2 hb hm hr hK
    obtain ⟨hT0, hf, hpl, hle, hbs, hop⟩ := id hp
    have tg := yTq_tg hle
    obtain ⟨m1, m2, m3, m4, m5, m6⟩ := id hm
    have tm := m2.tq
    have f18 := m2 90 18 (by omega)
    have f16 := m2 90 16 (by omega)
    refine yrun_ok (sp := fun pc => Nat.beq pc 5) hY 16 5 _ [] m ?_
    show (∃ (c1 : Int), [(3, 90), (1, 38)] = [(3, 90), (1, c1)] ∧ (0 ≤ m 90 17) ∧ (m 90 18 ≤ 60) ∧ (m 90 16 = -1 ∨ m 90 16 = 0) ∧ (m 90 17 ≤ 60) ∧ (1 ≤ c1) ∧ (∀ (r2 : Int) (g3 : yM), ((r2 = 1 ∧ m 90 19 < 0 ∧ yTq m (m 90 17) = c1 ∧ g3 = yset m 90 17 (m 90 17 + 1)) ∨ (r2 = 0 ∧ (0 ≤ m 90 19 ∨ yTq m (m 90 17) ≠ c1) ∧ g3 = m)) → ((r2 = 0 → (K [(1, v)] g3)) ∧ (¬ (r2 = 0) → (∃ (o6 : Int), [(3, 90)] = [(3, 90)] ∧ (yMq o6 g3) ∧ (o6 + (lv : Int) = 6 ∧ 0 ≤ o6) ∧ (∀ (r7 : Int) (g8 : yM), (yMo o6 g3 g8 (yCmp (yTq g3) (yOn (yTq g3) lv) (g3 90 17)) r7) → ((v = 0 → (Y 5 [(3, 90), (1, 0), (1, r7)] [] g8)) ∧ (¬ (v = 0) → ((r7 = 0 → (Y 5 [(3, 90), (1, 0), (1, r7)] [] g8)) ∧ (¬ (r7 = 0) → (Y 5 [(3, 90), (1, 1), (1, r7)] [] g8)))))))))))
    refine ⟨_, rfl, (by omega), (by omega), (by omega), (by omega), (by omega), ?_⟩
    intro r2 g3 p40
    refine ⟨fun h5 => ?_, fun h5 => ?_⟩
    · obtain ⟨bp40, ep40⟩ : (0 ≤ m 90 19 ∨ yTq m (m 90 17) ≠ 38) ∧ m = g3 := by
        rcases p40 with ⟨z, -⟩ | ⟨-, z1, z2⟩
        · omega
        · exact ⟨z1, z2.symm⟩
      subst ep40
      have cn : ¬ (r.1 = -1 ∧ yAn (yTq g r.2.1) = true) := fun ⟨z1, z2⟩ => by
        have e2 := (m6 z1).1
        have e3 := m3.trans z1
        have z3 := of_decide_eq_true z2
        rw [tm, e2] at bp40
        omega
      refine hK _ _ ?_
      rw [yLp_0 cn]
      exact hm
    · obtain ⟨ap40, bp40, ep40⟩ : m 90 19 < 0 ∧ yTq m (m 90 17) = 38 ∧ g3 = (yset m 90 17 (m 90 17 + 1)) := by
        rcases p40 with ⟨-, z⟩ | ⟨z, -⟩
        · exact z
        · omega
      subst ep40
      refine ⟨(o), rfl, (by
      have e1 : r.1 = -1 := by have := hr.2; omega
      have e2 := (m6 e1).1
      rw [tm, e2] at bp40
      have e3 := hr.1 e1
      have h60 := tg r.2.1 (by omega) (by omega)
      exact yMo.pe hp hm e1 h60), (ho), ?_⟩
      intro r7 g8 p90
      rw [show yTq (yset m 90 17 (m 90 17 + 1)) = yTq m from (yXm.st (fun _ _ _ => rfl) (Or.inl rfl)).tq, yset_eq] at p90
      obtain ⟨x1_p90, x2_p90, x3_p90, x4_p90, x5_p90, x6_p90⟩ := id p90
      refine ⟨fun h10 => ?_, fun h10 => ?_⟩
      · have e1 : r.1 = -1 := by have := hr.2; omega
        have e2 := (m6 e1).1
        rw [tm, e2] at bp40
        have e3 := hr.1 e1
        have h60 := tg r.2.1 (by omega) (by omega)
        rw [tm] at p90
        have ep : yMo o (yset m 90 17 (m 90 17 + 1)) g8 (yCmp (yTq g) (yOn (yTq g) lv) (r.2.1 + 1)) r7 := by
          rw [← e2]
          exact p90
        have st := yMo.step (c := yTq g r.2.1) hm e1 ep (by omega) (by omega) (by omega) (by omega)
        have cd : r.1 = -1 ∧ yAn (yTq g r.2.1) = true := ⟨e1, decide_eq_true (by omega)⟩
        have ej : yJn (yTq g r.2.1) v r7 = 0 := yJn_a0 (by omega) (by omega)
        rw [ej] at st
        have hxr := yCmp_gd tg (yOn_gd tg lv) (r.2.1 + 1) (by omega) (by omega)
        have gn := yGr.nx tg yAn_0 (yCmp_gd tg (yOn_gd tg lv)) hpl.1 hr cd
        have h8 := hb e1
        obtain ⟨k, rfl⟩ : ∃ k : Nat, n = k + 1 := ⟨n - 1, by omega⟩
        refine ih k (Nat.lt_succ_self k) _ _ _ (1, r7) ?_ st gn (fun z g' h => hK z g' (by rw [yLp_1 cd]; exact h))
        exact (fun z => by
          have e9 : (yCmp (yTq g) (yOn (yTq g) lv) (r.2.1 + 1)).1 = -1 := by
            by_cases e9 : (yCmp (yTq g) (yOn (yTq g) lv) (r.2.1 + 1)).1 = -1
            · exact e9
            · rw [if_neg e9] at z
              exact absurd z e9
          rw [if_pos e9]
          have e10 := hxr.1 e9
          have e11 : ((k + 1 : Nat) : Int) = (k : Int) + 1 := rfl
          show 60 - (yCmp (yTq g) (yOn (yTq g) lv) (r.2.1 + 1)).2.1 ≤ (k : Int)
          omega)
      · refine ⟨fun h11 => ?_, fun h11 => ?_⟩
        · have e1 : r.1 = -1 := by have := hr.2; omega
          have e2 := (m6 e1).1
          rw [tm, e2] at bp40
          have e3 := hr.1 e1
          have h60 := tg r.2.1 (by omega) (by omega)
          rw [tm] at p90
          have ep : yMo o (yset m 90 17 (m 90 17 + 1)) g8 (yCmp (yTq g) (yOn (yTq g) lv) (r.2.1 + 1)) r7 := by
            rw [← e2]
            exact p90
          have st := yMo.step (c := yTq g r.2.1) hm e1 ep (by omega) (by omega) (by omega) (by omega)
          have cd : r.1 = -1 ∧ yAn (yTq g r.2.1) = true := ⟨e1, decide_eq_true (by omega)⟩
          have ej : yJn (yTq g r.2.1) v r7 = 0 := yJn_a0 (by omega) (by omega)
          rw [ej] at st
          have hxr := yCmp_gd tg (yOn_gd tg lv) (r.2.1 + 1) (by omega) (by omega)
          have gn := yGr.nx tg yAn_0 (yCmp_gd tg (yOn_gd tg lv)) hpl.1 hr cd
          have h8 := hb e1
          obtain ⟨k, rfl⟩ : ∃ k : Nat, n = k + 1 := ⟨n - 1, by omega⟩
          refine ih k (Nat.lt_succ_self k) _ _ _ (1, r7) ?_ st gn (fun z g' h => hK z g' (by rw [yLp_1 cd]; exact h))
          exact (fun z => by
            have e9 : (yCmp (yTq g) (yOn (yTq g) lv) (r.2.1 + 1)).1 = -1 := by
              by_cases e9 : (yCmp (yTq g) (yOn (yTq g) lv) (r.2.1 + 1)).1 = -1
              · exact e9
              · rw [if_neg e9] at z
                exact absurd z e9
            rw [if_pos e9]
            have e10 := hxr.1 e9
            have e11 : ((k + 1 : Nat) : Int) = (k : Int) + 1 := rfl
            show 60 - (yCmp (yTq g) (yOn (yTq g) lv) (r.2.1 + 1)).2.1 ≤ (k : Int)
            omega)
        · have e1 : r.1 = -1 := by have := hr.2; omega
          have e2 := (m6 e1).1
          rw [tm, e2] at bp40
          have e3 := hr.1 e1
          have h60 := tg r.2.1 (by omega) (by omega)
          rw [tm] at p90
          have ep : yMo o (yset m 90 17 (m 90 17 + 1)) g8 (yCmp (yTq g) (yOn (yTq g) lv) (r.2.1 + 1)) r7 := by
            rw [← e2]
            exact p90
          have st := yMo.step (c := yTq g r.2.1) hm e1 ep (by omega) (by omega) (by omega) (by omega)
          have cd : r.1 = -1 ∧ yAn (yTq g r.2.1) = true := ⟨e1, decide_eq_true (by omega)⟩
          have ej : yJn (yTq g r.2.1) v r7 = 1 := yJn_a1 (by omega) (by omega)
          rw [ej] at st
          have hxr := yCmp_gd tg (yOn_gd tg lv) (r.2.1 + 1) (by omega) (by omega)
          have gn := yGr.nx tg yAn_0 (yCmp_gd tg (yOn_gd tg lv)) hpl.1 hr cd
          have h8 := hb e1
          obtain ⟨k, rfl⟩ : ∃ k : Nat, n = k + 1 := ⟨n - 1, by omega⟩
          refine ih k (Nat.lt_succ_self k) _ _ _ (1, r7) ?_ st gn (fun z g' h => hK z g' (by rw [yLp_1 cd]; exact h))
          exact (fun z => by
            have e9 : (yCmp (yTq g) (yOn (yTq g) lv) (r.2.1 + 1)).1 = -1 := by
              by_cases e9 : (yCmp (yTq g) (yOn (yTq g) lv) (r.2.1 + 1)).1 = -1
              · exact e9
              · rw [if_neg e9] at z
                exact absurd z e9
            rw [if_pos e9]
            have e10 := hxr.1 e9
            have e11 : ((k + 1 : Nat) : Int) = (k : Int) + 1 := rfl
            show 60 - (yCmp (yTq g) (yOn (yTq g) lv) (r.2.1 + 1)).2.1 ≤ (k : Int)
            omega)
set_option maxRecDepth 8000 in
theorem yv_mBg {K : List yV → yM → Prop} {Y : yNx} {g : yM} {o : Int} {lv : Nat} (hY : yCl zpD140 (zpZ, zpRS, zpP12, zpMT, [yC_BA3, yC_TK3, (149, (40, 4000), yP_mCg lv)], (50, 5000), 1) K Y) (hp0 : yMq o g) (hp1 : o + (lv : Int) = 6 ∧ 0 ≤ o) (hK : ∀ (r : Int) (g' : yM), (yMo o g g' (yBot (yTq g) (yOn (yTq g) lv) (g 90 17)) r) → K [(1, r)] g') : Y 0 [(3, 90), (0, 0), (0, 0)] [] g := by
  have hp := hp0
  have ho := hp1
  obtain ⟨hT0, hf, hpl, hle, hbs, hop⟩ := id hp
  have tg := yTq_tg hle
  have hg := yCmp_gd tg (yOn_gd tg lv) (g 90 17) hpl.1 hpl.2
  refine yrun_ok (sp := fun pc => Nat.beq pc 5) hY 4 0 _ [] g ?_
  show (∃ (o1 : Int), [(3, 90)] = [(3, 90)] ∧ (yMq o1 g) ∧ (o1 + (lv : Int) = 6 ∧ 0 ≤ o1) ∧ (∀ (r2 : Int) (g3 : yM), (yMo o1 g g3 (yCmp (yTq g) (yOn (yTq g) lv) (g 90 17)) r2) → (Y 5 [(3, 90), (1, r2), (0, 0)] [] g3)))
  refine ⟨(o), rfl, (hp0), (ho), ?_⟩
  intro r2 g3 p40
  obtain ⟨x1_p40, x2_p40, x3_p40, x4_p40, x5_p40, x6_p40⟩ := id p40
  exact yl_mBg ho hY hp 60 _ _ _ _ (fun z => by have z1 := hg.1 z; omega) p40 hg (fun z g' h => hK z g' h)
theorem yR_mBg {lv : Nat} : yRl zpMT (30 + 6 * lv, 1310 + 150 * lv) [yC_BA3, yC_TK3, (149, (40, 4000), yP_mCg lv)] [yC_BA3, yC_TK3, yC_mCg lv] := (yRl_cons rfl rfl (by show 1 + 1 ≤ 30 + 6 * lv; omega) (by show 8 + (1 + 11) + (40) ≤ 1310 + 150 * lv; omega) (yRl_cons rfl rfl (by show 2 + 1 ≤ 30 + 6 * lv; omega) (by show 8 + (2 + 11) + (60) ≤ 1310 + 150 * lv; omega) (yRl_cons rfl rfl (by show 29 + 6 * lv + 1 ≤ 30 + 6 * lv; omega) (by show 8 + (4 + 11) + (1285 + 150 * lv) ≤ 1310 + 150 * lv; omega) yRl_nil)))
theorem yM_mBg {l : Launch} {Ts : List Cond} {cl : List vw_C} {RO : zRO} {lv : Nat} (H : zHyp Ts cl RO) (hC : yMet l Ts cl zpZ RO zpMT (yC_mCg lv)) : yMet l Ts cl zpZ RO zpMT (yC_mBg lv) := ymet_of2 H.1 H.2.1 zpDj H.2.2.1 yRb H.p12 (ymets_cons (yM_BA3 H) (ymets_cons (yM_TK3 H) (ymets_cons hC ymets_nil))) (zrc1 rfl) (plainFor_of_name zpy12) zpDk140 (fun as g K Y h hA hY => by
  obtain ⟨o, rfl, hp0, hp1, hK⟩ := h
  exact yv_mBg (yCl.rl (rm := (50, 5000)) (yR_mBg) (by show 1 ≤ 30 + 6 * lv; omega) (by show 1000 ≤ 1310 + 150 * lv; omega) hY) hp0 hp1 hK)
set_option maxRecDepth 8000 in
theorem yl_mEg {K : List yV → yM → Prop} {Y : yNx} {g : yM} {lv : Nat} {o : Int} (ho : o + (lv : Int) = 6 ∧ 0 ≤ o) (hY : yCl zpD154 (zpZ, zpRS, zpP12, zpMT, [yC_BA3, yC_TK3, (140, (40, 4000), yP_mBg lv)], (50, 5000), 1) K Y) (hp : yMq o g) : ∀ (n : Nat) (v : Int) (m : yM) (r : yR) (w2 : yV) (hb : r.1 = -1 → 60 - r.2.1 ≤ n) (hm : yMo o g m r v) (hr : yGr (g 90 17) r) (hK : ∀ (z : Int) (g' : yM), yMo o g g' (yLp (yTq g) yOo (yBot (yTq g) (yOn (yTq g) lv)) n r) z → K [(1, z)] g'), Y 5 [(3, 90), (1, v), w2] [] m := by
  intro n
  induction n using Nat.strongRecOn with
  | ind n ih =>
    intro v m r w2 hb hm hr hK
    obtain ⟨hT0, hf, hpl, hle, hbs, hop⟩ := id hp
    have tg := yTq_tg hle
    obtain ⟨m1, m2, m3, m4, m5, m6⟩ := id hm
    have tm := m2.tq
    have f18 := m2 90 18 (by omega)
    have f16 := m2 90 16 (by omega)
    refine yrun_ok (sp := fun pc => Nat.beq pc 5) hY 16 5 _ [] m ?_
    show (∃ (c1 : Int), [(3, 90), (1, 124)] = [(3, 90), (1, c1)] ∧ (0 ≤ m 90 17) ∧ (m 90 18 ≤ 60) ∧ (m 90 16 = -1 ∨ m 90 16 = 0) ∧ (m 90 17 ≤ 60) ∧ (1 ≤ c1) ∧ (∀ (r2 : Int) (g3 : yM), ((r2 = 1 ∧ m 90 19 < 0 ∧ yTq m (m 90 17) = c1 ∧ g3 = yset m 90 17 (m 90 17 + 1)) ∨ (r2 = 0 ∧ (0 ≤ m 90 19 ∨ yTq m (m 90 17) ≠ c1) ∧ g3 = m)) → ((r2 = 0 → (K [(1, v)] g3)) ∧ (¬ (r2 = 0) → (∃ (o6 : Int), [(3, 90)] = [(3, 90)] ∧ (yMq o6 g3) ∧ (o6 + (lv : Int) = 6 ∧ 0 ≤ o6) ∧ (∀ (r7 : Int) (g8 : yM), (yMo o6 g3 g8 (yBot (yTq g3) (yOn (yTq g3) lv) (g3 90 17)) r7) → ((v ≠ 0 → (Y 5 [(3, 90), (1, 1), (1, r7)] [] g8)) ∧ (¬ (v ≠ 0) → ((r7 = 0 → (Y 5 [(3, 90), (1, 0), (1, r7)] [] g8)) ∧ (¬ (r7 = 0) → (Y 5 [(3, 90), (1, 1), (1, r7)] [] g8)))))))))))
    refine ⟨_, rfl, (by omega), (by omega), (by omega), (by omega), (by omega), ?_⟩
    intro r2 g3 p40
    refine ⟨fun h5 => ?_, fun h5 => ?_⟩
    · obtain ⟨bp40, ep40⟩ : (0 ≤ m 90 19 ∨ yTq m (m 90 17) ≠ 124) ∧ m = g3 := by
        rcases p40 with ⟨z, -⟩ | ⟨-, z1, z2⟩
        · omega
        · exact ⟨z1, z2.symm⟩
      subst ep40
      have cn : ¬ (r.1 = -1 ∧ yOo (yTq g r.2.1) = true) := fun ⟨z1, z2⟩ => by
        have e2 := (m6 z1).1
        have e3 := m3.trans z1
        have z3 := of_decide_eq_true z2
        rw [tm, e2] at bp40
        omega
      refine hK _ _ ?_
      rw [yLp_0 cn]
      exact hm
    · obtain ⟨ap40, bp40, ep40⟩ : m 90 19 < 0 ∧ yTq m (m 90 17) = 124 ∧ g3 = (yset m 90 17 (m 90 17 + 1)) := by
        rcases p40 with ⟨-, z⟩ | ⟨z, -⟩
        · exact z
        · omega
      subst ep40
      refine ⟨(o), rfl, (by
      have e1 : r.1 = -1 := by have := hr.2; omega
      have e2 := (m6 e1).1
      rw [tm, e2] at bp40
      have e3 := hr.1 e1
      have h60 := tg r.2.1 (by omega) (by omega)
      exact yMo.pe hp hm e1 h60), (ho), ?_⟩
      intro r7 g8 p90
      rw [show yTq (yset m 90 17 (m 90 17 + 1)) = yTq m from (yXm.st (fun _ _ _ => rfl) (Or.inl rfl)).tq, yset_eq] at p90
      obtain ⟨x1_p90, x2_p90, x3_p90, x4_p90, x5_p90, x6_p90⟩ := id p90
      refine ⟨fun h10 => ?_, fun h10 => ?_⟩
      · have e1 : r.1 = -1 := by have := hr.2; omega
        have e2 := (m6 e1).1
        rw [tm, e2] at bp40
        have e3 := hr.1 e1
        have h60 := tg r.2.1 (by omega) (by omega)
        rw [tm] at p90
        have ep : yMo o (yset m 90 17 (m 90 17 + 1)) g8 (yBot (yTq g) (yOn (yTq g) lv) (r.2.1 + 1)) r7 := by
          rw [← e2]
          exact p90
        have st := yMo.step (c := yTq g r.2.1) hm e1 ep (by omega) (by omega) (by omega) (by omega)
        have cd : r.1 = -1 ∧ yOo (yTq g r.2.1) = true := ⟨e1, decide_eq_true (by omega)⟩
        have ej : yJn (yTq g r.2.1) v r7 = 1 := yJn_o1 (by omega) (by omega)
        rw [ej] at st
        have hxr := yBot_gd tg (yOn_gd tg lv) (r.2.1 + 1) (by omega) (by omega)
        have gn := yGr.nx tg yOo_0 (yBot_gd tg (yOn_gd tg lv)) hpl.1 hr cd
        have h8 := hb e1
        obtain ⟨k, rfl⟩ : ∃ k : Nat, n = k + 1 := ⟨n - 1, by omega⟩
        refine ih k (Nat.lt_succ_self k) _ _ _ (1, r7) ?_ st gn (fun z g' h => hK z g' (by rw [yLp_1 cd]; exact h))
        exact (fun z => by
          have e9 : (yBot (yTq g) (yOn (yTq g) lv) (r.2.1 + 1)).1 = -1 := by
            by_cases e9 : (yBot (yTq g) (yOn (yTq g) lv) (r.2.1 + 1)).1 = -1
            · exact e9
            · rw [if_neg e9] at z
              exact absurd z e9
          rw [if_pos e9]
          have e10 := hxr.1 e9
          have e11 : ((k + 1 : Nat) : Int) = (k : Int) + 1 := rfl
          show 60 - (yBot (yTq g) (yOn (yTq g) lv) (r.2.1 + 1)).2.1 ≤ (k : Int)
          omega)
      · refine ⟨fun h11 => ?_, fun h11 => ?_⟩
        · have e1 : r.1 = -1 := by have := hr.2; omega
          have e2 := (m6 e1).1
          rw [tm, e2] at bp40
          have e3 := hr.1 e1
          have h60 := tg r.2.1 (by omega) (by omega)
          rw [tm] at p90
          have ep : yMo o (yset m 90 17 (m 90 17 + 1)) g8 (yBot (yTq g) (yOn (yTq g) lv) (r.2.1 + 1)) r7 := by
            rw [← e2]
            exact p90
          have st := yMo.step (c := yTq g r.2.1) hm e1 ep (by omega) (by omega) (by omega) (by omega)
          have cd : r.1 = -1 ∧ yOo (yTq g r.2.1) = true := ⟨e1, decide_eq_true (by omega)⟩
          have ej : yJn (yTq g r.2.1) v r7 = 0 := yJn_o0 (by omega) (by omega)
          rw [ej] at st
          have hxr := yBot_gd tg (yOn_gd tg lv) (r.2.1 + 1) (by omega) (by omega)
          have gn := yGr.nx tg yOo_0 (yBot_gd tg (yOn_gd tg lv)) hpl.1 hr cd
          have h8 := hb e1
          obtain ⟨k, rfl⟩ : ∃ k : Nat, n = k + 1 := ⟨n - 1, by omega⟩
          refine ih k (Nat.lt_succ_self k) _ _ _ (1, r7) ?_ st gn (fun z g' h => hK z g' (by rw [yLp_1 cd]; exact h))
          exact (fun z => by
            have e9 : (yBot (yTq g) (yOn (yTq g) lv) (r.2.1 + 1)).1 = -1 := by
              by_cases e9 : (yBot (yTq g) (yOn (yTq g) lv) (r.2.1 + 1)).1 = -1
              · exact e9
              · rw [if_neg e9] at z
                exact absurd z e9
            rw [if_pos e9]
            have e10 := hxr.1 e9
            have e11 : ((k + 1 : Nat) : Int) = (k : Int) + 1 := rfl
            show 60 - (yBot (yTq g) (yOn (yTq g) lv) (r.2.1 + 1)).2.1 ≤ (k : Int)
            omega)
        · have e1 : r.1 = -1 := by have := hr.2; omega
          have e2 := (m6 e1).1
          rw [tm, e2] at bp40
          have e3 := hr.1 e1
          have h60 := tg r.2.1 (by omega) (by omega)
          rw [tm] at p90
          have ep : yMo o (yset m 90 17 (m 90 17 + 1)) g8 (yBot (yTq g) (yOn (yTq g) lv) (r.2.1 + 1)) r7 := by
            rw [← e2]
            exact p90
          have st := yMo.step (c := yTq g r.2.1) hm e1 ep (by omega) (by omega) (by omega) (by omega)
          have cd : r.1 = -1 ∧ yOo (yTq g r.2.1) = true := ⟨e1, decide_eq_true (by omega)⟩
          have ej : yJn (yTq g r.2.1) v r7 = 1 := yJn_o1 (by omega) (by omega)
          rw [ej] at st
          have hxr := yBot_gd tg (yOn_gd tg lv) (r.2.1 + 1) (by omega) (by omega)
          have gn := yGr.nx tg yOo_0 (yBot_gd tg (yOn_gd tg lv)) hpl.1 hr cd
          have h8 := hb e1
          obtain ⟨k, rfl⟩ : ∃ k : Nat, n = k + 1 := ⟨n - 1, by omega⟩
          refine ih k (Nat.lt_succ_self k) _ _ _ (1, r7) ?_ st gn (fun z g' h => hK z g' (by rw [yLp_1 cd]; exact h))
          exact (fun z => by
            have e9 : (yBot (yTq g) (yOn (yTq g) lv) (r.2.1 + 1)).1 = -1 := by
              by_cases e9 : (yBot (yTq g) (yOn (yTq g) lv) (r.2.1 + 1)).1 = -1
              · exact e9
              · rw [if_neg e9] at z
                exact absurd z e9
            rw [if_pos e9]
            have e10 := hxr.1 e9
            have e11 : ((k + 1 : Nat) : Int) = (k : Int) + 1 := rfl
            show 60 - (yBot (yTq g) (yOn (yTq g) lv) (r.2.1 + 1)).2.1 ≤ (k : Int)
            omega)
set_option maxRecDepth 8000 in
theorem yv_mEg {K : List yV → yM → Prop} {Y : yNx} {g : yM} {o : Int} {lv : Nat} (hY : yCl zpD154 (zpZ, zpRS, zpP12, zpMT, [yC_BA3, yC_TK3, (140, (40, 4000), yP_mBg lv)], (50, 5000), 1) K Y) (hp0 : yMq o g) (hp1 : o + (lv : Int) = 6 ∧ 0 ≤ o) (hK : ∀ (r : Int) (g' : yM), (yMo o g g' (yEit (yTq g) (yOn (yTq g) lv) (g 90 17)) r) → K [(1, r)] g') : Y 0 [(3, 90), (0, 0), (0, 0)] [] g := by
  have hp := hp0
  have ho := hp1
  obtain ⟨hT0, hf, hpl, hle, hbs, hop⟩ := id hp
  have tg := yTq_tg hle
  have hg := yBot_gd tg (yOn_gd tg lv) (g 90 17) hpl.1 hpl.2
  refine yrun_ok (sp := fun pc => Nat.beq pc 5) hY 4 0 _ [] g ?_
  show (∃ (o1 : Int), [(3, 90)] = [(3, 90)] ∧ (yMq o1 g) ∧ (o1 + (lv : Int) = 6 ∧ 0 ≤ o1) ∧ (∀ (r2 : Int) (g3 : yM), (yMo o1 g g3 (yBot (yTq g) (yOn (yTq g) lv) (g 90 17)) r2) → (Y 5 [(3, 90), (1, r2), (0, 0)] [] g3)))
  refine ⟨(o), rfl, (hp0), (ho), ?_⟩
  intro r2 g3 p40
  obtain ⟨x1_p40, x2_p40, x3_p40, x4_p40, x5_p40, x6_p40⟩ := id p40
  exact yl_mEg ho hY hp 60 _ _ _ _ (fun z => by have z1 := hg.1 z; omega) p40 hg (fun z g' h => hK z g' h)
theorem yR_mEg {lv : Nat} : yRl zpMT (31 + 6 * lv, 1335 + 150 * lv) [yC_BA3, yC_TK3, (140, (40, 4000), yP_mBg lv)] [yC_BA3, yC_TK3, yC_mBg lv] := (yRl_cons rfl rfl (by show 1 + 1 ≤ 31 + 6 * lv; omega) (by show 8 + (1 + 11) + (40) ≤ 1335 + 150 * lv; omega) (yRl_cons rfl rfl (by show 2 + 1 ≤ 31 + 6 * lv; omega) (by show 8 + (2 + 11) + (60) ≤ 1335 + 150 * lv; omega) (yRl_cons rfl rfl (by show 30 + 6 * lv + 1 ≤ 31 + 6 * lv; omega) (by show 8 + (3 + 11) + (1310 + 150 * lv) ≤ 1335 + 150 * lv; omega) yRl_nil)))
theorem yM_mEg {l : Launch} {Ts : List Cond} {cl : List vw_C} {RO : zRO} {lv : Nat} (H : zHyp Ts cl RO) (hB : yMet l Ts cl zpZ RO zpMT (yC_mBg lv)) : yMet l Ts cl zpZ RO zpMT (yC_mEg lv) := ymet_of2 H.1 H.2.1 zpDj H.2.2.1 yRb H.p12 (ymets_cons (yM_BA3 H) (ymets_cons (yM_TK3 H) (ymets_cons hB ymets_nil))) (zrc1 rfl) (plainFor_of_name zpy12) zpDk154 (fun as g K Y h hA hY => by
  obtain ⟨o, rfl, hp0, hp1, hK⟩ := h
  exact yv_mEg (yCl.rl (rm := (50, 5000)) (yR_mEg) (by show 1 ≤ 31 + 6 * lv; omega) (by show 1000 ≤ 1335 + 150 * lv; omega) hY) hp0 hp1 hK)
theorem yMh_m {l : Launch} {Ts : List Cond} {cl : List vw_C} {RO : zRO} {lv : Nat} (H : zHyp Ts cl RO) (hO : yMet l Ts cl zpZ RO zpMT (yC_mOg lv)) : yMet l Ts cl zpZ RO zpMT (yC_mEg lv) := yM_mEg H (yM_mBg H (yM_mCg H (yM_mSg H (yM_mPg H hO))))
theorem yMo_m {l : Launch} {Ts : List Cond} {cl : List vw_C} {RO : zRO} (H : zHyp Ts cl RO) : ∀ lv : Nat, yMet l Ts cl zpZ RO zpMT (yC_mOg lv)
  | 0 => yM_mOz H
  | lv + 1 => yM_mOs rfl H (yMo_m H lv) (yMh_m H (yMo_m H lv))
def yP_mE6 : yPT := fun as g K => as = [(3, 90)] ∧ (yMq 0 g) ∧ (∀ (r : Int) (g' : yM), (yMo 0 g g' (yEit (yTq g) (yOn (yTq g) 6) (g 90 17)) r) → K [(1, r)] g')
def yC_mE6 : yC := (154, (67, 2235), yP_mE6)
theorem yM_mE6 {l : Launch} {Ts : List Cond} {cl : List vw_C} {RO : zRO} (H : zHyp Ts cl RO) : yMet l Ts cl zpZ RO zpMT yC_mE6 := by
  have e : yC_mE6 = (154, (31 + 6 * 6, 1335 + 150 * 6), yP_mE6) := congrArg (fun r => ((154, r, yP_mE6) : yC)) (by decide : ((67, 2235) : Nat × Nat) = (31 + 6 * 6, 1335 + 150 * 6))
  rw [e]
  exact yMet.of (mid := 154) (rm := (31 + 6 * 6, 1335 + 150 * 6)) (P := yP_mEg 6) (yMh_m H (yMo_m H 6)) (fun as g K h => by
    obtain ⟨rfl, h1, h2⟩ := h
    exact ⟨0, rfl, h1, ⟨rfl, by decide⟩, h2⟩)
