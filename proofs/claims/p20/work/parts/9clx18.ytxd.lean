/-! TEXTS: THE PIECES -/
set_option maxRecDepth 8000 in
theorem yl_Pg_11 {K : List yV → yM → Prop} {Y : yNx} {g : yM} {lv : Nat} {o : Int} (ho : o + (lv : Int) = 6 ∧ 0 ≤ o) (hY : yCl zpD116 (zpZ, zpRS, zpP10, zpMT, [yC_AP3, yC_AS11, (115, (40, 4000), yP_Og_11 lv), yC_SG3], (50, 5000), 0) K Y) (hp : yPe 11 g) : ∀ (n : Nat) (i : Int) (s : Int) (m : yM) (r : yR) (hi : 0 ≤ i) (hb : r.1 = -1 → i ≤ r.2.1 ∧ 60 - r.2.1 ≤ n) (hm : yPo 11 g m r) (hr : yGr (g 2 1) r) (hs : r.1 = -1 → yTs g r.2.1 ≠ 0 → s = yTs g r.2.1) (hK : ∀ g' : yM, yPo 11 g g' (yLp (yTs g) yMu (yOn (yTs g) lv) n r) → K [] g'), Y 15 [(3, 11), (1, o), (1, s), (1, i)] [] m := by
  intro n
  induction n using Nat.strongRecOn with
  | ind n ih =>
    intro i s m r hi hb hm hr hs hK
    obtain ⟨hT0, hf, hpl, hle, hk0, hk1⟩ := id hp
    have tg := yTs_tg hle
    obtain ⟨m1, m2, m3, m4, m5, m6, m7⟩ := id hm
    have tm := yPo.te (Or.inr rfl) hm
    refine yrun_ok (sp := fun pc => Nat.beq pc 15) hY 32 15 _ [] m ?_
    show ((60 ≤ i → (K [] m)) ∧ (¬ (60 ≤ i) → (∃ (c2 : Int), [(3, 2), (1, 42)] = [(3, 2), (1, c2)] ∧ (0 ≤ m 2 1 ∧ m 2 1 ≤ 60) ∧ (m 2 2 ≤ 60) ∧ (1 ≤ c2) ∧ (∀ (r3 : Int) (g4 : yM), ((r3 = 1 ∧ m 2 3 = -1 ∧ yTs m (m 2 1) = c2 ∧ g4 = yset m 2 1 (m 2 1 + 1)) ∨ (r3 = 0 ∧ (m 2 3 ≠ -1 ∨ yTs m (m 2 1) ≠ c2) ∧ g4 = m)) → ((r3 ≠ 0 → (∃ (o7 : Int), [(3, 11), (1, o)] = [(3, 11), (1, o7)] ∧ (yPe 11 g4) ∧ (o7 + (lv : Int) = 6 ∧ 0 ≤ o7) ∧ (∀ (g8 : yM), (yPo 11 g4 g8 (yOn (yTs g4) lv (g4 2 1))) → (∃ (s10 n11 : Int), [(3, 11), (1, s), (1, 0)] = [(3, 11), (1, s10), (1, n11)] ∧ (yTy zpZ g8) ∧ (0 ≤ g8 11 4 ∧ g8 11 4 ≤ 61) ∧ (s10 = 78 → 0 ≤ n11 ∧ n11 ≤ 7) ∧ (s10 = 63 → 0 ≤ n11) ∧ (∀ (g12 : yM), (yAs 11 g8 g12 s10 n11) → ([(3, 2)] = [(3, 2)] ∧ (0 ≤ g12 2 1) ∧ (g12 2 2 ≤ 60) ∧ (∀ (r14 : Int), (g12 2 3 = -1 → (r14 = -1 ∧ g12 2 2 ≤ g12 2 1) ∨ (g12 2 1 < g12 2 2 ∧ r14 = yTs g12 (g12 2 1))) → (g12 2 3 ≠ -1 → r14 = -1) → (-1 ≤ r14 ∧ r14 ≤ 255) → (Y 15 [(3, 11), (1, o), (1, r14), (1, (yw (i + 1)))] [] g12)))))))) ∧ (¬ (r3 ≠ 0) → (∃ (c16 : Int), [(3, 2), (1, 47)] = [(3, 2), (1, c16)] ∧ (0 ≤ g4 2 1 ∧ g4 2 1 ≤ 60) ∧ (g4 2 2 ≤ 60) ∧ (1 ≤ c16) ∧ (∀ (r17 : Int) (g18 : yM), ((r17 = 1 ∧ g4 2 3 = -1 ∧ yTs g4 (g4 2 1) = c16 ∧ g18 = yset g4 2 1 (g4 2 1 + 1)) ∨ (r17 = 0 ∧ (g4 2 3 ≠ -1 ∨ yTs g4 (g4 2 1) ≠ c16) ∧ g18 = g4)) → ((r17 ≠ 0 → (∃ (o21 : Int), [(3, 11), (1, o)] = [(3, 11), (1, o21)] ∧ (yPe 11 g18) ∧ (o21 + (lv : Int) = 6 ∧ 0 ≤ o21) ∧ (∀ (g22 : yM), (yPo 11 g18 g22 (yOn (yTs g18) lv (g18 2 1))) → (∃ (s24 n25 : Int), [(3, 11), (1, s), (1, 0)] = [(3, 11), (1, s24), (1, n25)] ∧ (yTy zpZ g22) ∧ (0 ≤ g22 11 4 ∧ g22 11 4 ≤ 61) ∧ (s24 = 78 → 0 ≤ n25 ∧ n25 ≤ 7) ∧ (s24 = 63 → 0 ≤ n25) ∧ (∀ (g26 : yM), (yAs 11 g22 g26 s24 n25) → ([(3, 2)] = [(3, 2)] ∧ (0 ≤ g26 2 1) ∧ (g26 2 2 ≤ 60) ∧ (∀ (r28 : Int), (g26 2 3 = -1 → (r28 = -1 ∧ g26 2 2 ≤ g26 2 1) ∨ (g26 2 1 < g26 2 2 ∧ r28 = yTs g26 (g26 2 1))) → (g26 2 3 ≠ -1 → r28 = -1) → (-1 ≤ r28 ∧ r28 ≤ 255) → (Y 15 [(3, 11), (1, o), (1, r28), (1, (yw (i + 1)))] [] g26)))))))) ∧ (¬ (r17 ≠ 0) → (∃ (c30 : Int), [(3, 2), (1, 37)] = [(3, 2), (1, c30)] ∧ (0 ≤ g18 2 1 ∧ g18 2 1 ≤ 60) ∧ (g18 2 2 ≤ 60) ∧ (1 ≤ c30) ∧ (∀ (r31 : Int) (g32 : yM), ((r31 = 1 ∧ g18 2 3 = -1 ∧ yTs g18 (g18 2 1) = c30 ∧ g32 = yset g18 2 1 (g18 2 1 + 1)) ∨ (r31 = 0 ∧ (g18 2 3 ≠ -1 ∨ yTs g18 (g18 2 1) ≠ c30) ∧ g32 = g18)) → ((r31 = 0 → (K [] g32)) ∧ (¬ (r31 = 0) → (∃ (o35 : Int), [(3, 11), (1, o)] = [(3, 11), (1, o35)] ∧ (yPe 11 g32) ∧ (o35 + (lv : Int) = 6 ∧ 0 ≤ o35) ∧ (∀ (g36 : yM), (yPo 11 g32 g36 (yOn (yTs g32) lv (g32 2 1))) → (∃ (s38 n39 : Int), [(3, 11), (1, s), (1, 0)] = [(3, 11), (1, s38), (1, n39)] ∧ (yTy zpZ g36) ∧ (0 ≤ g36 11 4 ∧ g36 11 4 ≤ 61) ∧ (s38 = 78 → 0 ≤ n39 ∧ n39 ≤ 7) ∧ (s38 = 63 → 0 ≤ n39) ∧ (∀ (g40 : yM), (yAs 11 g36 g40 s38 n39) → ([(3, 2)] = [(3, 2)] ∧ (0 ≤ g40 2 1) ∧ (g40 2 2 ≤ 60) ∧ (∀ (r42 : Int), (g40 2 3 = -1 → (r42 = -1 ∧ g40 2 2 ≤ g40 2 1) ∨ (g40 2 1 < g40 2 2 ∧ r42 = yTs g40 (g40 2 1))) → (g40 2 3 ≠ -1 → r42 = -1) → (-1 ≤ r42 ∧ r42 ≤ 255) → (Y 15 [(3, 11), (1, o), (1, r42), (1, (yw (i + 1)))] [] g40)))))))))))))))))))))
    refine ⟨fun h1 => ?_, fun h1 => ?_⟩
    · have cn : ¬ (r.1 = -1 ∧ yMu (yTs g r.2.1) = true) := fun ⟨z1, z2⟩ => by
        have z3 := of_decide_eq_true z2
        have z4 := hb z1
        have z5 := hr.1 z1
        have z6 := tg r.2.1 (by omega) (by omega)
        omega
      refine hK _ ?_
      rw [yLp_0 cn]
      exact hm
    · refine ⟨_, rfl, (m4), (by have e22 := tm.2; omega), (by omega), ?_⟩
      intro r3 g4 p50
      refine ⟨fun h6 => ?_, fun h6 => ?_⟩
      · obtain ⟨ap50, bp50, ep50⟩ : m 2 3 = -1 ∧ yTs m (m 2 1) = 42 ∧ g4 = (yset m 2 1 (m 2 1 + 1)) := by
          rcases p50 with ⟨-, z⟩ | ⟨z, -⟩
          · exact z
          · omega
        subst ep50
        refine ⟨_, rfl, (by
      have e1 : r.1 = -1 := m3.symm.trans ap50
      have e2 := (m6 e1).1
      rw [tm.1, e2] at bp50
      have e3 := hr.1 e1
      exact yPo.pe (Or.inr rfl) hp hm hr e1 (tg r.2.1 (by omega) (by omega))), (ho), ?_⟩
        intro g8 p90
        rw [yTs_pl m 1 (m 2 1 + 1) (by decide), yset_eq] at p90
        have t_p90 := yPo.te (Or.inr rfl) p90
        obtain ⟨x1_p90, x2_p90, x3_p90, x4_p90, x5_p90, x6_p90, x7_p90⟩ := id p90
        rw [yTs_pl m 1 (m 2 1 + 1) (by decide), yset_nj (by decide)] at t_p90
        refine ⟨_, _, rfl, (x1_p90), (x5_p90), (by
      have e1 : r.1 = -1 := m3.symm.trans ap50
      have e2 := (m6 e1).1
      rw [tm.1, e2] at bp50
      have es := hs e1 (by omega)
      omega), (by
      have e1 : r.1 = -1 := m3.symm.trans ap50
      have e2 := (m6 e1).1
      rw [tm.1, e2] at bp50
      have es := hs e1 (by omega)
      omega), ?_⟩
        intro g12 p130
        refine ⟨rfl, (by
      have fr := p130.fr x5_p90.2 2 1 (by omega) (by omega) (by omega)
      omega), (by
      have fr := p130.fr x5_p90.2 2 2 (by omega) (by omega) (by omega)
      have e22 := t_p90.2
      have e23 := tm.2
      omega), ?_⟩
        intro r14 p150 p151 p152
        have e1 : r.1 = -1 := m3.symm.trans ap50
        have e2 := (m6 e1).1
        rw [tm.1, e2] at bp50
        have e3 := hr.1 e1
        have h60 := tg r.2.1 (by omega) (by omega)
        rw [tm.1] at p90
        have ep : yPo 11 (yset m 2 1 (m 2 1 + 1)) g8 (yOn (yTs g) lv (r.2.1 + 1)) := by
          rw [← e2]
          exact p90
        have hxr := yOn_gd tg lv (r.2.1 + 1) (by omega) (by omega)
        have es := hs e1 (by omega)
        rw [es] at p130
        have st := yPo.step (Or.inr rfl) hp hm hr e1 h60 ep hxr p130
        have cd : r.1 = -1 ∧ yMu (yTs g r.2.1) = true := ⟨e1, decide_eq_true (by omega)⟩
        have gn := yGr.nx tg yMu_0 (yOn_gd tg lv) hpl.1 hr cd
        have h8 := hb e1
        have yi : yw (i + 1) = i + 1 := yw_s (i + 1) (by omega) (by omega)
        rw [yi]
        obtain ⟨k, rfl⟩ : ∃ k : Nat, n = k + 1 := ⟨n - 1, by omega⟩
        have s3 := st.2.2.1
        have s6 := st.2.2.2.2.2.1
        have ts := yPo.te (Or.inr rfl) st
        refine ih k (Nat.lt_succ_self k) (i + 1) r14 _ _ (by omega) ?_ st gn ?_ (fun g' h => hK g' (by rw [yLp_1 cd]; exact h))
        · exact (fun z => by
            have e9 : (yOn (yTs g) lv (r.2.1 + 1)).1 = -1 := by
              by_cases e9 : (yOn (yTs g) lv (r.2.1 + 1)).1 = -1
              · exact e9
              · rw [if_neg e9] at z
                exact absurd z e9
            rw [if_pos e9]
            have e10 := hxr.1 e9
            have e11 : ((k + 1 : Nat) : Int) = (k : Int) + 1 := rfl
            refine ⟨?_, ?_⟩
            · show i + 1 ≤ (yOn (yTs g) lv (r.2.1 + 1)).2.1
              omega
            · show 60 - (yOn (yTs g) lv (r.2.1 + 1)).2.1 ≤ (k : Int)
              omega)
        · exact (fun z z2 => by
            have w1 := p150 (s3.trans z)
            have w2 := (s6 z).1
            rw [ts.1, w2, ts.2] at w1
            rcases w1 with ⟨w3, w4⟩ | ⟨w3, w4⟩
            · exact absurd (yTs_z w4) z2
            · exact w4)
      · obtain ⟨bp50, ep50⟩ : (m 2 3 ≠ -1 ∨ yTs m (m 2 1) ≠ 42) ∧ m = g4 := by
          rcases p50 with ⟨z, -⟩ | ⟨-, z1, z2⟩
          · omega
          · exact ⟨z1, z2.symm⟩
        subst ep50
        refine ⟨_, rfl, (m4), (by have e22 := tm.2; omega), (by omega), ?_⟩
        intro r17 g18 p190
        refine ⟨fun h20 => ?_, fun h20 => ?_⟩
        · obtain ⟨ap190, bp190, ep190⟩ : m 2 3 = -1 ∧ yTs m (m 2 1) = 47 ∧ g18 = (yset m 2 1 (m 2 1 + 1)) := by
            rcases p190 with ⟨-, z⟩ | ⟨z, -⟩
            · exact z
            · omega
          subst ep190
          refine ⟨_, rfl, (by
      have e1 : r.1 = -1 := m3.symm.trans ap190
      have e2 := (m6 e1).1
      rw [tm.1, e2] at bp190
      have e3 := hr.1 e1
      exact yPo.pe (Or.inr rfl) hp hm hr e1 (tg r.2.1 (by omega) (by omega))), (ho), ?_⟩
          intro g22 p230
          rw [yTs_pl m 1 (m 2 1 + 1) (by decide), yset_eq] at p230
          have t_p230 := yPo.te (Or.inr rfl) p230
          obtain ⟨x1_p230, x2_p230, x3_p230, x4_p230, x5_p230, x6_p230, x7_p230⟩ := id p230
          rw [yTs_pl m 1 (m 2 1 + 1) (by decide), yset_nj (by decide)] at t_p230
          refine ⟨_, _, rfl, (x1_p230), (x5_p230), (by
      have e1 : r.1 = -1 := m3.symm.trans ap190
      have e2 := (m6 e1).1
      rw [tm.1, e2] at bp190
      have es := hs e1 (by omega)
      omega), (by
      have e1 : r.1 = -1 := m3.symm.trans ap190
      have e2 := (m6 e1).1
      rw [tm.1, e2] at bp190
      have es := hs e1 (by omega)
      omega), ?_⟩
          intro g26 p270
          refine ⟨rfl, (by
      have fr := p270.fr x5_p230.2 2 1 (by omega) (by omega) (by omega)
      omega), (by
      have fr := p270.fr x5_p230.2 2 2 (by omega) (by omega) (by omega)
      have e22 := t_p230.2
      have e23 := tm.2
      omega), ?_⟩
          intro r28 p290 p291 p292
          have e1 : r.1 = -1 := m3.symm.trans ap190
          have e2 := (m6 e1).1
          rw [tm.1, e2] at bp190
          have e3 := hr.1 e1
          have h60 := tg r.2.1 (by omega) (by omega)
          rw [tm.1] at p230
          have ep : yPo 11 (yset m 2 1 (m 2 1 + 1)) g22 (yOn (yTs g) lv (r.2.1 + 1)) := by
            rw [← e2]
            exact p230
          have hxr := yOn_gd tg lv (r.2.1 + 1) (by omega) (by omega)
          have es := hs e1 (by omega)
          rw [es] at p270
          have st := yPo.step (Or.inr rfl) hp hm hr e1 h60 ep hxr p270
          have cd : r.1 = -1 ∧ yMu (yTs g r.2.1) = true := ⟨e1, decide_eq_true (by omega)⟩
          have gn := yGr.nx tg yMu_0 (yOn_gd tg lv) hpl.1 hr cd
          have h8 := hb e1
          have yi : yw (i + 1) = i + 1 := yw_s (i + 1) (by omega) (by omega)
          rw [yi]
          obtain ⟨k, rfl⟩ : ∃ k : Nat, n = k + 1 := ⟨n - 1, by omega⟩
          have s3 := st.2.2.1
          have s6 := st.2.2.2.2.2.1
          have ts := yPo.te (Or.inr rfl) st
          refine ih k (Nat.lt_succ_self k) (i + 1) r28 _ _ (by omega) ?_ st gn ?_ (fun g' h => hK g' (by rw [yLp_1 cd]; exact h))
          · exact (fun z => by
              have e9 : (yOn (yTs g) lv (r.2.1 + 1)).1 = -1 := by
                by_cases e9 : (yOn (yTs g) lv (r.2.1 + 1)).1 = -1
                · exact e9
                · rw [if_neg e9] at z
                  exact absurd z e9
              rw [if_pos e9]
              have e10 := hxr.1 e9
              have e11 : ((k + 1 : Nat) : Int) = (k : Int) + 1 := rfl
              refine ⟨?_, ?_⟩
              · show i + 1 ≤ (yOn (yTs g) lv (r.2.1 + 1)).2.1
                omega
              · show 60 - (yOn (yTs g) lv (r.2.1 + 1)).2.1 ≤ (k : Int)
                omega)
          · exact (fun z z2 => by
              have w1 := p290 (s3.trans z)
              have w2 := (s6 z).1
              rw [ts.1, w2, ts.2] at w1
              rcases w1 with ⟨w3, w4⟩ | ⟨w3, w4⟩
              · exact absurd (yTs_z w4) z2
              · exact w4)
        · obtain ⟨bp190, ep190⟩ : (m 2 3 ≠ -1 ∨ yTs m (m 2 1) ≠ 47) ∧ m = g18 := by
            rcases p190 with ⟨z, -⟩ | ⟨-, z1, z2⟩
            · omega
            · exact ⟨z1, z2.symm⟩
          subst ep190
          refine ⟨_, rfl, (m4), (by have e22 := tm.2; omega), (by omega), ?_⟩
          intro r31 g32 p330
          refine ⟨fun h34 => ?_, fun h34 => ?_⟩
          · obtain ⟨bp330, ep330⟩ : (m 2 3 ≠ -1 ∨ yTs m (m 2 1) ≠ 37) ∧ m = g32 := by
              rcases p330 with ⟨z, -⟩ | ⟨-, z1, z2⟩
              · omega
              · exact ⟨z1, z2.symm⟩
            subst ep330
            have cn : ¬ (r.1 = -1 ∧ yMu (yTs g r.2.1) = true) := fun ⟨z1, z2⟩ => by
              have e2 := (m6 z1).1
              have e3 := m3.trans z1
              have z3 := of_decide_eq_true z2
              rw [tm.1, e2] at bp50
              rw [tm.1, e2] at bp190
              rw [tm.1, e2] at bp330
              omega
            refine hK _ ?_
            rw [yLp_0 cn]
            exact hm
          · obtain ⟨ap330, bp330, ep330⟩ : m 2 3 = -1 ∧ yTs m (m 2 1) = 37 ∧ g32 = (yset m 2 1 (m 2 1 + 1)) := by
              rcases p330 with ⟨-, z⟩ | ⟨z, -⟩
              · exact z
              · omega
            subst ep330
            refine ⟨_, rfl, (by
      have e1 : r.1 = -1 := m3.symm.trans ap330
      have e2 := (m6 e1).1
      rw [tm.1, e2] at bp330
      have e3 := hr.1 e1
      exact yPo.pe (Or.inr rfl) hp hm hr e1 (tg r.2.1 (by omega) (by omega))), (ho), ?_⟩
            intro g36 p370
            rw [yTs_pl m 1 (m 2 1 + 1) (by decide), yset_eq] at p370
            have t_p370 := yPo.te (Or.inr rfl) p370
            obtain ⟨x1_p370, x2_p370, x3_p370, x4_p370, x5_p370, x6_p370, x7_p370⟩ := id p370
            rw [yTs_pl m 1 (m 2 1 + 1) (by decide), yset_nj (by decide)] at t_p370
            refine ⟨_, _, rfl, (x1_p370), (x5_p370), (by
      have e1 : r.1 = -1 := m3.symm.trans ap330
      have e2 := (m6 e1).1
      rw [tm.1, e2] at bp330
      have es := hs e1 (by omega)
      omega), (by
      have e1 : r.1 = -1 := m3.symm.trans ap330
      have e2 := (m6 e1).1
      rw [tm.1, e2] at bp330
      have es := hs e1 (by omega)
      omega), ?_⟩
            intro g40 p410
            refine ⟨rfl, (by
      have fr := p410.fr x5_p370.2 2 1 (by omega) (by omega) (by omega)
      omega), (by
      have fr := p410.fr x5_p370.2 2 2 (by omega) (by omega) (by omega)
      have e22 := t_p370.2
      have e23 := tm.2
      omega), ?_⟩
            intro r42 p430 p431 p432
            have e1 : r.1 = -1 := m3.symm.trans ap330
            have e2 := (m6 e1).1
            rw [tm.1, e2] at bp330
            have e3 := hr.1 e1
            have h60 := tg r.2.1 (by omega) (by omega)
            rw [tm.1] at p370
            have ep : yPo 11 (yset m 2 1 (m 2 1 + 1)) g36 (yOn (yTs g) lv (r.2.1 + 1)) := by
              rw [← e2]
              exact p370
            have hxr := yOn_gd tg lv (r.2.1 + 1) (by omega) (by omega)
            have es := hs e1 (by omega)
            rw [es] at p410
            have st := yPo.step (Or.inr rfl) hp hm hr e1 h60 ep hxr p410
            have cd : r.1 = -1 ∧ yMu (yTs g r.2.1) = true := ⟨e1, decide_eq_true (by omega)⟩
            have gn := yGr.nx tg yMu_0 (yOn_gd tg lv) hpl.1 hr cd
            have h8 := hb e1
            have yi : yw (i + 1) = i + 1 := yw_s (i + 1) (by omega) (by omega)
            rw [yi]
            obtain ⟨k, rfl⟩ : ∃ k : Nat, n = k + 1 := ⟨n - 1, by omega⟩
            have s3 := st.2.2.1
            have s6 := st.2.2.2.2.2.1
            have ts := yPo.te (Or.inr rfl) st
            refine ih k (Nat.lt_succ_self k) (i + 1) r42 _ _ (by omega) ?_ st gn ?_ (fun g' h => hK g' (by rw [yLp_1 cd]; exact h))
            · exact (fun z => by
                have e9 : (yOn (yTs g) lv (r.2.1 + 1)).1 = -1 := by
                  by_cases e9 : (yOn (yTs g) lv (r.2.1 + 1)).1 = -1
                  · exact e9
                  · rw [if_neg e9] at z
                    exact absurd z e9
                rw [if_pos e9]
                have e10 := hxr.1 e9
                have e11 : ((k + 1 : Nat) : Int) = (k : Int) + 1 := rfl
                refine ⟨?_, ?_⟩
                · show i + 1 ≤ (yOn (yTs g) lv (r.2.1 + 1)).2.1
                  omega
                · show 60 - (yOn (yTs g) lv (r.2.1 + 1)).2.1 ≤ (k : Int)
                  omega)
            · exact (fun z z2 => by
                have w1 := p430 (s3.trans z)
                have w2 := (s6 z).1
                rw [ts.1, w2, ts.2] at w1
                rcases w1 with ⟨w3, w4⟩ | ⟨w3, w4⟩
                · exact absurd (yTs_z w4) z2
                · exact w4)
set_option maxRecDepth 8000 in
theorem yv_Pg_11 {K : List yV → yM → Prop} {Y : yNx} {g : yM} {o : Int} {lv : Nat} (hY : yCl zpD116 (zpZ, zpRS, zpP10, zpMT, [yC_AP3, yC_AS11, (115, (40, 4000), yP_Og_11 lv), yC_SG3], (50, 5000), 0) K Y) (hr_o : -2147483648 ≤ o ∧ o ≤ 2147483647) (hp0 : yPe 11 g) (hp1 : o + (lv : Int) = 6 ∧ 0 ≤ o) (hK : ∀ (g' : yM), (yPo 11 g g' (yPro (yTs g) (yOn (yTs g) lv) (g 2 1))) → K [] g') : Y 0 [(3, 11), (1, o), (0, 0), (0, 0)] [] g := by
  have hp := hp0
  have ho := hp1
  obtain ⟨hT0, hf, hpl, hle, hk0, hk1⟩ := id hp
  have tg := yTs_tg hle
  have hg := yOn_gd tg lv (g 2 1) hpl.1 hpl.2
  refine yrun_ok (sp := fun pc => Nat.beq pc 15) hY 10 0 _ [] g ?_
  show (∃ (o1 : Int), [(3, 11), (1, o)] = [(3, 11), (1, o1)] ∧ (yPe 11 g) ∧ (o1 + (lv : Int) = 6 ∧ 0 ≤ o1) ∧ (∀ (g2 : yM), (yPo 11 g g2 (yOn (yTs g) lv (g 2 1))) → ([(3, 2)] = [(3, 2)] ∧ (0 ≤ g2 2 1) ∧ (g2 2 2 ≤ 60) ∧ (∀ (r4 : Int), (g2 2 3 = -1 → (r4 = -1 ∧ g2 2 2 ≤ g2 2 1) ∨ (g2 2 1 < g2 2 2 ∧ r4 = yTs g2 (g2 2 1))) → (g2 2 3 ≠ -1 → r4 = -1) → (-1 ≤ r4 ∧ r4 ≤ 255) → (Y 15 [(3, 11), (1, o), (1, r4), (1, 0)] [] g2)))))
  refine ⟨_, rfl, (hp0), (ho), ?_⟩
  intro g2 p30
  have t_p30 := yPo.te (Or.inr rfl) p30
  obtain ⟨x1_p30, x2_p30, x3_p30, x4_p30, x5_p30, x6_p30, x7_p30⟩ := id p30
  refine ⟨rfl, (by omega), (by have e22 := t_p30.2; omega), ?_⟩
  intro r4 p50 p51 p52
  refine yl_Pg_11 ho hY hp 60 0 _ _ _ (by decide) (fun z => ?_) p30 hg ?_ (fun g' h => hK g' h)
  · have z1 := hg.1 z
    exact ⟨by omega, by omega⟩
  · exact (fun z z2 => by
      have w1 := p50 (x3_p30.trans z)
      have w2 := (x6_p30 z).1
      rw [t_p30.1, w2, t_p30.2] at w1
      rcases w1 with ⟨w3, w4⟩ | ⟨w3, w4⟩
      · exact absurd (yTs_z w4) z2
      · exact w4)
theorem yR_Pg_11 {lv : Nat} : yRl zpMT (27 + 6 * lv, 1235 + 150 * lv) [yC_AP3, yC_AS11, (115, (40, 4000), yP_Og_11 lv), yC_SG3] [yC_AP3, yC_AS11, yC_Og_11 lv, yC_SG3] := (yRl_cons rfl rfl (by show 2 + 1 ≤ 27 + 6 * lv; omega) (by show 8 + (2 + 11) + (60) ≤ 1235 + 150 * lv; omega) (yRl_cons rfl rfl (by show 1 + 1 ≤ 27 + 6 * lv; omega) (by show 8 + (3 + 11) + (40) ≤ 1235 + 150 * lv; omega) (yRl_cons rfl rfl (by show 26 + 6 * lv + 1 ≤ 27 + 6 * lv; omega) (by show 8 + (4 + 11) + (1210 + 150 * lv) ≤ 1235 + 150 * lv; omega) (yRl_cons rfl rfl (by show 1 + 1 ≤ 27 + 6 * lv; omega) (by show 8 + (1 + 11) + (40) ≤ 1235 + 150 * lv; omega) yRl_nil))))
theorem yM_Pg_11 {l : Launch} {lv : Nat} (H : zHyp zpTs zpcl zpRO) (hO : yMet l zpTs zpcl zpZ zpRO zpMT (yC_Og_11 lv)) : yMet l zpTs zpcl zpZ zpRO zpMT (yC_Pg_11 lv) := ymet_of2 H.1 H.2.1 zpDj H.2.2.1 yRb H.p10 (ymets_cons (yM_AP3 H) (ymets_cons (yM_AS11 H) (ymets_cons hO (ymets_cons (yM_SG3 H) ymets_nil)))) (zrc0 rfl) (plainFor_of_name zpy10) zpDk116 (fun as g K Y h hA hY => by
  obtain ⟨o, rfl, hp0, hp1, hK⟩ := h
  exact yv_Pg_11 (yCl.rl (rm := (50, 5000)) (yR_Pg_11) (by show 1 ≤ 27 + 6 * lv; omega) (by show 1000 ≤ 1235 + 150 * lv; omega) hY) (yAr1 hA (by simp)) hp0 hp1 hK)
set_option maxRecDepth 8000 in
theorem yl_Sg_11 {K : List yV → yM → Prop} {Y : yNx} {g : yM} {lv : Nat} {o : Int} (ho : o + (lv : Int) = 6 ∧ 0 ≤ o) (hY : yCl zpD117 (zpZ, zpRS, zpP10, zpMT, [yC_AP3, yC_AS11, (116, (40, 4000), yP_Pg_11 lv), yC_SG3], (50, 5000), 0) K Y) (hp : yPe 11 g) : ∀ (n : Nat) (i : Int) (s : Int) (m : yM) (r : yR) (hi : 0 ≤ i) (hb : r.1 = -1 → i ≤ r.2.1 ∧ 60 - r.2.1 ≤ n) (hm : yPo 11 g m r) (hr : yGr (g 2 1) r) (hs : r.1 = -1 → yTs g r.2.1 ≠ 0 → s = yTs g r.2.1) (hK : ∀ g' : yM, yPo 11 g g' (yLp (yTs g) yPl (yPro (yTs g) (yOn (yTs g) lv)) n r) → K [] g'), Y 15 [(3, 11), (1, o), (1, s), (1, i)] [] m := by
  intro n
  induction n using Nat.strongRecOn with
  | ind n ih =>
    intro i s m r hi hb hm hr hs hK
    obtain ⟨hT0, hf, hpl, hle, hk0, hk1⟩ := id hp
    have tg := yTs_tg hle
    obtain ⟨m1, m2, m3, m4, m5, m6, m7⟩ := id hm
    have tm := yPo.te (Or.inr rfl) hm
    refine yrun_ok (sp := fun pc => Nat.beq pc 15) hY 27 15 _ [] m ?_
    show ((60 ≤ i → (K [] m)) ∧ (¬ (60 ≤ i) → (∃ (c2 : Int), [(3, 2), (1, 43)] = [(3, 2), (1, c2)] ∧ (0 ≤ m 2 1 ∧ m 2 1 ≤ 60) ∧ (m 2 2 ≤ 60) ∧ (1 ≤ c2) ∧ (∀ (r3 : Int) (g4 : yM), ((r3 = 1 ∧ m 2 3 = -1 ∧ yTs m (m 2 1) = c2 ∧ g4 = yset m 2 1 (m 2 1 + 1)) ∨ (r3 = 0 ∧ (m 2 3 ≠ -1 ∨ yTs m (m 2 1) ≠ c2) ∧ g4 = m)) → ((r3 ≠ 0 → (∃ (o7 : Int), [(3, 11), (1, o)] = [(3, 11), (1, o7)] ∧ (yPe 11 g4) ∧ (o7 + (lv : Int) = 6 ∧ 0 ≤ o7) ∧ (∀ (g8 : yM), (yPo 11 g4 g8 (yPro (yTs g4) (yOn (yTs g4) lv) (g4 2 1))) → (∃ (s10 n11 : Int), [(3, 11), (1, s), (1, 0)] = [(3, 11), (1, s10), (1, n11)] ∧ (yTy zpZ g8) ∧ (0 ≤ g8 11 4 ∧ g8 11 4 ≤ 61) ∧ (s10 = 78 → 0 ≤ n11 ∧ n11 ≤ 7) ∧ (s10 = 63 → 0 ≤ n11) ∧ (∀ (g12 : yM), (yAs 11 g8 g12 s10 n11) → ([(3, 2)] = [(3, 2)] ∧ (0 ≤ g12 2 1) ∧ (g12 2 2 ≤ 60) ∧ (∀ (r14 : Int), (g12 2 3 = -1 → (r14 = -1 ∧ g12 2 2 ≤ g12 2 1) ∨ (g12 2 1 < g12 2 2 ∧ r14 = yTs g12 (g12 2 1))) → (g12 2 3 ≠ -1 → r14 = -1) → (-1 ≤ r14 ∧ r14 ≤ 255) → (Y 15 [(3, 11), (1, o), (1, r14), (1, (yw (i + 1)))] [] g12)))))))) ∧ (¬ (r3 ≠ 0) → (∃ (c16 : Int), [(3, 2), (1, 45)] = [(3, 2), (1, c16)] ∧ (0 ≤ g4 2 1 ∧ g4 2 1 ≤ 60) ∧ (g4 2 2 ≤ 60) ∧ (1 ≤ c16) ∧ (∀ (r17 : Int) (g18 : yM), ((r17 = 1 ∧ g4 2 3 = -1 ∧ yTs g4 (g4 2 1) = c16 ∧ g18 = yset g4 2 1 (g4 2 1 + 1)) ∨ (r17 = 0 ∧ (g4 2 3 ≠ -1 ∨ yTs g4 (g4 2 1) ≠ c16) ∧ g18 = g4)) → ((r17 = 0 → (K [] g18)) ∧ (¬ (r17 = 0) → (∃ (o21 : Int), [(3, 11), (1, o)] = [(3, 11), (1, o21)] ∧ (yPe 11 g18) ∧ (o21 + (lv : Int) = 6 ∧ 0 ≤ o21) ∧ (∀ (g22 : yM), (yPo 11 g18 g22 (yPro (yTs g18) (yOn (yTs g18) lv) (g18 2 1))) → (∃ (s24 n25 : Int), [(3, 11), (1, s), (1, 0)] = [(3, 11), (1, s24), (1, n25)] ∧ (yTy zpZ g22) ∧ (0 ≤ g22 11 4 ∧ g22 11 4 ≤ 61) ∧ (s24 = 78 → 0 ≤ n25 ∧ n25 ≤ 7) ∧ (s24 = 63 → 0 ≤ n25) ∧ (∀ (g26 : yM), (yAs 11 g22 g26 s24 n25) → ([(3, 2)] = [(3, 2)] ∧ (0 ≤ g26 2 1) ∧ (g26 2 2 ≤ 60) ∧ (∀ (r28 : Int), (g26 2 3 = -1 → (r28 = -1 ∧ g26 2 2 ≤ g26 2 1) ∨ (g26 2 1 < g26 2 2 ∧ r28 = yTs g26 (g26 2 1))) → (g26 2 3 ≠ -1 → r28 = -1) → (-1 ≤ r28 ∧ r28 ≤ 255) → (Y 15 [(3, 11), (1, o), (1, r28), (1, (yw (i + 1)))] [] g26)))))))))))))))))
    refine ⟨fun h1 => ?_, fun h1 => ?_⟩
    · have cn : ¬ (r.1 = -1 ∧ yPl (yTs g r.2.1) = true) := fun ⟨z1, z2⟩ => by
        have z3 := of_decide_eq_true z2
        have z4 := hb z1
        have z5 := hr.1 z1
        have z6 := tg r.2.1 (by omega) (by omega)
        omega
      refine hK _ ?_
      rw [yLp_0 cn]
      exact hm
    · refine ⟨_, rfl, (m4), (by have e22 := tm.2; omega), (by omega), ?_⟩
      intro r3 g4 p50
      refine ⟨fun h6 => ?_, fun h6 => ?_⟩
      · obtain ⟨ap50, bp50, ep50⟩ : m 2 3 = -1 ∧ yTs m (m 2 1) = 43 ∧ g4 = (yset m 2 1 (m 2 1 + 1)) := by
          rcases p50 with ⟨-, z⟩ | ⟨z, -⟩
          · exact z
          · omega
        subst ep50
        refine ⟨_, rfl, (by
      have e1 : r.1 = -1 := m3.symm.trans ap50
      have e2 := (m6 e1).1
      rw [tm.1, e2] at bp50
      have e3 := hr.1 e1
      exact yPo.pe (Or.inr rfl) hp hm hr e1 (tg r.2.1 (by omega) (by omega))), (ho), ?_⟩
        intro g8 p90
        rw [yTs_pl m 1 (m 2 1 + 1) (by decide), yset_eq] at p90
        have t_p90 := yPo.te (Or.inr rfl) p90
        obtain ⟨x1_p90, x2_p90, x3_p90, x4_p90, x5_p90, x6_p90, x7_p90⟩ := id p90
        rw [yTs_pl m 1 (m 2 1 + 1) (by decide), yset_nj (by decide)] at t_p90
        refine ⟨_, _, rfl, (x1_p90), (x5_p90), (by
      have e1 : r.1 = -1 := m3.symm.trans ap50
      have e2 := (m6 e1).1
      rw [tm.1, e2] at bp50
      have es := hs e1 (by omega)
      omega), (by
      have e1 : r.1 = -1 := m3.symm.trans ap50
      have e2 := (m6 e1).1
      rw [tm.1, e2] at bp50
      have es := hs e1 (by omega)
      omega), ?_⟩
        intro g12 p130
        refine ⟨rfl, (by
      have fr := p130.fr x5_p90.2 2 1 (by omega) (by omega) (by omega)
      omega), (by
      have fr := p130.fr x5_p90.2 2 2 (by omega) (by omega) (by omega)
      have e22 := t_p90.2
      have e23 := tm.2
      omega), ?_⟩
        intro r14 p150 p151 p152
        have e1 : r.1 = -1 := m3.symm.trans ap50
        have e2 := (m6 e1).1
        rw [tm.1, e2] at bp50
        have e3 := hr.1 e1
        have h60 := tg r.2.1 (by omega) (by omega)
        rw [tm.1] at p90
        have ep : yPo 11 (yset m 2 1 (m 2 1 + 1)) g8 (yPro (yTs g) (yOn (yTs g) lv) (r.2.1 + 1)) := by
          rw [← e2]
          exact p90
        have hxr := yPro_gd tg (yOn_gd tg lv) (r.2.1 + 1) (by omega) (by omega)
        have es := hs e1 (by omega)
        rw [es] at p130
        have st := yPo.step (Or.inr rfl) hp hm hr e1 h60 ep hxr p130
        have cd : r.1 = -1 ∧ yPl (yTs g r.2.1) = true := ⟨e1, decide_eq_true (by omega)⟩
        have gn := yGr.nx tg yPl_0 (yPro_gd tg (yOn_gd tg lv)) hpl.1 hr cd
        have h8 := hb e1
        have yi : yw (i + 1) = i + 1 := yw_s (i + 1) (by omega) (by omega)
        rw [yi]
        obtain ⟨k, rfl⟩ : ∃ k : Nat, n = k + 1 := ⟨n - 1, by omega⟩
        have s3 := st.2.2.1
        have s6 := st.2.2.2.2.2.1
        have ts := yPo.te (Or.inr rfl) st
        refine ih k (Nat.lt_succ_self k) (i + 1) r14 _ _ (by omega) ?_ st gn ?_ (fun g' h => hK g' (by rw [yLp_1 cd]; exact h))
        · exact (fun z => by
            have e9 : (yPro (yTs g) (yOn (yTs g) lv) (r.2.1 + 1)).1 = -1 := by
              by_cases e9 : (yPro (yTs g) (yOn (yTs g) lv) (r.2.1 + 1)).1 = -1
              · exact e9
              · rw [if_neg e9] at z
                exact absurd z e9
            rw [if_pos e9]
            have e10 := hxr.1 e9
            have e11 : ((k + 1 : Nat) : Int) = (k : Int) + 1 := rfl
            refine ⟨?_, ?_⟩
            · show i + 1 ≤ (yPro (yTs g) (yOn (yTs g) lv) (r.2.1 + 1)).2.1
              omega
            · show 60 - (yPro (yTs g) (yOn (yTs g) lv) (r.2.1 + 1)).2.1 ≤ (k : Int)
              omega)
        · exact (fun z z2 => by
            have w1 := p150 (s3.trans z)
            have w2 := (s6 z).1
            rw [ts.1, w2, ts.2] at w1
            rcases w1 with ⟨w3, w4⟩ | ⟨w3, w4⟩
            · exact absurd (yTs_z w4) z2
            · exact w4)
      · obtain ⟨bp50, ep50⟩ : (m 2 3 ≠ -1 ∨ yTs m (m 2 1) ≠ 43) ∧ m = g4 := by
          rcases p50 with ⟨z, -⟩ | ⟨-, z1, z2⟩
          · omega
          · exact ⟨z1, z2.symm⟩
        subst ep50
        refine ⟨_, rfl, (m4), (by have e22 := tm.2; omega), (by omega), ?_⟩
        intro r17 g18 p190
        refine ⟨fun h20 => ?_, fun h20 => ?_⟩
        · obtain ⟨bp190, ep190⟩ : (m 2 3 ≠ -1 ∨ yTs m (m 2 1) ≠ 45) ∧ m = g18 := by
            rcases p190 with ⟨z, -⟩ | ⟨-, z1, z2⟩
            · omega
            · exact ⟨z1, z2.symm⟩
          subst ep190
          have cn : ¬ (r.1 = -1 ∧ yPl (yTs g r.2.1) = true) := fun ⟨z1, z2⟩ => by
            have e2 := (m6 z1).1
            have e3 := m3.trans z1
            have z3 := of_decide_eq_true z2
            rw [tm.1, e2] at bp50
            rw [tm.1, e2] at bp190
            omega
          refine hK _ ?_
          rw [yLp_0 cn]
          exact hm
        · obtain ⟨ap190, bp190, ep190⟩ : m 2 3 = -1 ∧ yTs m (m 2 1) = 45 ∧ g18 = (yset m 2 1 (m 2 1 + 1)) := by
            rcases p190 with ⟨-, z⟩ | ⟨z, -⟩
            · exact z
            · omega
          subst ep190
          refine ⟨_, rfl, (by
      have e1 : r.1 = -1 := m3.symm.trans ap190
      have e2 := (m6 e1).1
      rw [tm.1, e2] at bp190
      have e3 := hr.1 e1
      exact yPo.pe (Or.inr rfl) hp hm hr e1 (tg r.2.1 (by omega) (by omega))), (ho), ?_⟩
          intro g22 p230
          rw [yTs_pl m 1 (m 2 1 + 1) (by decide), yset_eq] at p230
          have t_p230 := yPo.te (Or.inr rfl) p230
          obtain ⟨x1_p230, x2_p230, x3_p230, x4_p230, x5_p230, x6_p230, x7_p230⟩ := id p230
          rw [yTs_pl m 1 (m 2 1 + 1) (by decide), yset_nj (by decide)] at t_p230
          refine ⟨_, _, rfl, (x1_p230), (x5_p230), (by
      have e1 : r.1 = -1 := m3.symm.trans ap190
      have e2 := (m6 e1).1
      rw [tm.1, e2] at bp190
      have es := hs e1 (by omega)
      omega), (by
      have e1 : r.1 = -1 := m3.symm.trans ap190
      have e2 := (m6 e1).1
      rw [tm.1, e2] at bp190
      have es := hs e1 (by omega)
      omega), ?_⟩
          intro g26 p270
          refine ⟨rfl, (by
      have fr := p270.fr x5_p230.2 2 1 (by omega) (by omega) (by omega)
      omega), (by
      have fr := p270.fr x5_p230.2 2 2 (by omega) (by omega) (by omega)
      have e22 := t_p230.2
      have e23 := tm.2
      omega), ?_⟩
          intro r28 p290 p291 p292
          have e1 : r.1 = -1 := m3.symm.trans ap190
          have e2 := (m6 e1).1
          rw [tm.1, e2] at bp190
          have e3 := hr.1 e1
          have h60 := tg r.2.1 (by omega) (by omega)
          rw [tm.1] at p230
          have ep : yPo 11 (yset m 2 1 (m 2 1 + 1)) g22 (yPro (yTs g) (yOn (yTs g) lv) (r.2.1 + 1)) := by
            rw [← e2]
            exact p230
          have hxr := yPro_gd tg (yOn_gd tg lv) (r.2.1 + 1) (by omega) (by omega)
          have es := hs e1 (by omega)
          rw [es] at p270
          have st := yPo.step (Or.inr rfl) hp hm hr e1 h60 ep hxr p270
          have cd : r.1 = -1 ∧ yPl (yTs g r.2.1) = true := ⟨e1, decide_eq_true (by omega)⟩
          have gn := yGr.nx tg yPl_0 (yPro_gd tg (yOn_gd tg lv)) hpl.1 hr cd
          have h8 := hb e1
          have yi : yw (i + 1) = i + 1 := yw_s (i + 1) (by omega) (by omega)
          rw [yi]
          obtain ⟨k, rfl⟩ : ∃ k : Nat, n = k + 1 := ⟨n - 1, by omega⟩
          have s3 := st.2.2.1
          have s6 := st.2.2.2.2.2.1
          have ts := yPo.te (Or.inr rfl) st
          refine ih k (Nat.lt_succ_self k) (i + 1) r28 _ _ (by omega) ?_ st gn ?_ (fun g' h => hK g' (by rw [yLp_1 cd]; exact h))
          · exact (fun z => by
              have e9 : (yPro (yTs g) (yOn (yTs g) lv) (r.2.1 + 1)).1 = -1 := by
                by_cases e9 : (yPro (yTs g) (yOn (yTs g) lv) (r.2.1 + 1)).1 = -1
                · exact e9
                · rw [if_neg e9] at z
                  exact absurd z e9
              rw [if_pos e9]
              have e10 := hxr.1 e9
              have e11 : ((k + 1 : Nat) : Int) = (k : Int) + 1 := rfl
              refine ⟨?_, ?_⟩
              · show i + 1 ≤ (yPro (yTs g) (yOn (yTs g) lv) (r.2.1 + 1)).2.1
                omega
              · show 60 - (yPro (yTs g) (yOn (yTs g) lv) (r.2.1 + 1)).2.1 ≤ (k : Int)
                omega)
          · exact (fun z z2 => by
              have w1 := p290 (s3.trans z)
              have w2 := (s6 z).1
              rw [ts.1, w2, ts.2] at w1
              rcases w1 with ⟨w3, w4⟩ | ⟨w3, w4⟩
              · exact absurd (yTs_z w4) z2
              · exact w4)
set_option maxRecDepth 8000 in
theorem yv_Sg_11 {K : List yV → yM → Prop} {Y : yNx} {g : yM} {o : Int} {lv : Nat} (hY : yCl zpD117 (zpZ, zpRS, zpP10, zpMT, [yC_AP3, yC_AS11, (116, (40, 4000), yP_Pg_11 lv), yC_SG3], (50, 5000), 0) K Y) (hr_o : -2147483648 ≤ o ∧ o ≤ 2147483647) (hp0 : yPe 11 g) (hp1 : o + (lv : Int) = 6 ∧ 0 ≤ o) (hK : ∀ (g' : yM), (yPo 11 g g' (ySum (yTs g) (yOn (yTs g) lv) (g 2 1))) → K [] g') : Y 0 [(3, 11), (1, o), (0, 0), (0, 0)] [] g := by
  have hp := hp0
  have ho := hp1
  obtain ⟨hT0, hf, hpl, hle, hk0, hk1⟩ := id hp
  have tg := yTs_tg hle
  have hg := yPro_gd tg (yOn_gd tg lv) (g 2 1) hpl.1 hpl.2
  refine yrun_ok (sp := fun pc => Nat.beq pc 15) hY 10 0 _ [] g ?_
  show (∃ (o1 : Int), [(3, 11), (1, o)] = [(3, 11), (1, o1)] ∧ (yPe 11 g) ∧ (o1 + (lv : Int) = 6 ∧ 0 ≤ o1) ∧ (∀ (g2 : yM), (yPo 11 g g2 (yPro (yTs g) (yOn (yTs g) lv) (g 2 1))) → ([(3, 2)] = [(3, 2)] ∧ (0 ≤ g2 2 1) ∧ (g2 2 2 ≤ 60) ∧ (∀ (r4 : Int), (g2 2 3 = -1 → (r4 = -1 ∧ g2 2 2 ≤ g2 2 1) ∨ (g2 2 1 < g2 2 2 ∧ r4 = yTs g2 (g2 2 1))) → (g2 2 3 ≠ -1 → r4 = -1) → (-1 ≤ r4 ∧ r4 ≤ 255) → (Y 15 [(3, 11), (1, o), (1, r4), (1, 0)] [] g2)))))
  refine ⟨_, rfl, (hp0), (ho), ?_⟩
  intro g2 p30
  have t_p30 := yPo.te (Or.inr rfl) p30
  obtain ⟨x1_p30, x2_p30, x3_p30, x4_p30, x5_p30, x6_p30, x7_p30⟩ := id p30
  refine ⟨rfl, (by omega), (by have e22 := t_p30.2; omega), ?_⟩
  intro r4 p50 p51 p52
  refine yl_Sg_11 ho hY hp 60 0 _ _ _ (by decide) (fun z => ?_) p30 hg ?_ (fun g' h => hK g' h)
  · have z1 := hg.1 z
    exact ⟨by omega, by omega⟩
  · exact (fun z z2 => by
      have w1 := p50 (x3_p30.trans z)
      have w2 := (x6_p30 z).1
      rw [t_p30.1, w2, t_p30.2] at w1
      rcases w1 with ⟨w3, w4⟩ | ⟨w3, w4⟩
      · exact absurd (yTs_z w4) z2
      · exact w4)
theorem yR_Sg_11 {lv : Nat} : yRl zpMT (28 + 6 * lv, 1260 + 150 * lv) [yC_AP3, yC_AS11, (116, (40, 4000), yP_Pg_11 lv), yC_SG3] [yC_AP3, yC_AS11, yC_Pg_11 lv, yC_SG3] := (yRl_cons rfl rfl (by show 2 + 1 ≤ 28 + 6 * lv; omega) (by show 8 + (2 + 11) + (60) ≤ 1260 + 150 * lv; omega) (yRl_cons rfl rfl (by show 1 + 1 ≤ 28 + 6 * lv; omega) (by show 8 + (3 + 11) + (40) ≤ 1260 + 150 * lv; omega) (yRl_cons rfl rfl (by show 27 + 6 * lv + 1 ≤ 28 + 6 * lv; omega) (by show 8 + (4 + 11) + (1235 + 150 * lv) ≤ 1260 + 150 * lv; omega) (yRl_cons rfl rfl (by show 1 + 1 ≤ 28 + 6 * lv; omega) (by show 8 + (1 + 11) + (40) ≤ 1260 + 150 * lv; omega) yRl_nil))))
theorem yM_Sg_11 {l : Launch} {lv : Nat} (H : zHyp zpTs zpcl zpRO) (hP : yMet l zpTs zpcl zpZ zpRO zpMT (yC_Pg_11 lv)) : yMet l zpTs zpcl zpZ zpRO zpMT (yC_Sg_11 lv) := ymet_of2 H.1 H.2.1 zpDj H.2.2.1 yRb H.p10 (ymets_cons (yM_AP3 H) (ymets_cons (yM_AS11 H) (ymets_cons hP (ymets_cons (yM_SG3 H) ymets_nil)))) (zrc0 rfl) (plainFor_of_name zpy10) zpDk117 (fun as g K Y h hA hY => by
  obtain ⟨o, rfl, hp0, hp1, hK⟩ := h
  exact yv_Sg_11 (yCl.rl (rm := (50, 5000)) (yR_Sg_11) (by show 1 ≤ 28 + 6 * lv; omega) (by show 1000 ≤ 1260 + 150 * lv; omega) hY) (yAr1 hA (by simp)) hp0 hp1 hK)
set_option maxRecDepth 8000 in
theorem yl_Cg_11 {K : List yV → yM → Prop} {Y : yNx} {g m : yM} {r : yR} {s : Int} {lv : Nat} {o : Int} (ho : o + (lv : Int) = 6 ∧ 0 ≤ o) (hY : yCl zpD112 (zpZ, zpRS, zpP10, zpMT, [yC_AP3, yC_AS11, (117, (40, 4000), yP_Sg_11 lv), yC_SG3], (50, 5000), 0) K Y) (hp : yPe 11 g) (hm : yPo 11 g m r) (hr : yGr (g 2 1) r) (hs : r.1 = -1 → yTs g r.2.1 ≠ 0 → s = yTs g r.2.1) (hK : ∀ g' : yM, yPo 11 g g' (yLp (yTs g) yCq (ySum (yTs g) (yOn (yTs g) lv)) 1 r) → K [] g') : Y 13 [(3, 11), (1, o), (1, s)] [] m := by
  obtain ⟨hT0, hf, hpl, hle, hk0, hk1⟩ := id hp
  have tg := yTs_tg hle
  obtain ⟨m1, m2, m3, m4, m5, m6, m7⟩ := id hm
  have tm := yPo.te (Or.inr rfl) hm
  refine yrun_ok (sp := fun pc => false) hY 23 13 _ [] m ?_
  show (∃ (c1 : Int), [(3, 2), (1, 60)] = [(3, 2), (1, c1)] ∧ (0 ≤ m 2 1 ∧ m 2 1 ≤ 60) ∧ (m 2 2 ≤ 60) ∧ (1 ≤ c1) ∧ (∀ (r2 : Int) (g3 : yM), ((r2 = 1 ∧ m 2 3 = -1 ∧ yTs m (m 2 1) = c1 ∧ g3 = yset m 2 1 (m 2 1 + 1)) ∨ (r2 = 0 ∧ (m 2 3 ≠ -1 ∨ yTs m (m 2 1) ≠ c1) ∧ g3 = m)) → ((r2 ≠ 0 → (∃ (o6 : Int), [(3, 11), (1, o)] = [(3, 11), (1, o6)] ∧ (yPe 11 g3) ∧ (o6 + (lv : Int) = 6 ∧ 0 ≤ o6) ∧ (∀ (g7 : yM), (yPo 11 g3 g7 (ySum (yTs g3) (yOn (yTs g3) lv) (g3 2 1))) → (∃ (s9 n10 : Int), [(3, 11), (1, s), (1, 0)] = [(3, 11), (1, s9), (1, n10)] ∧ (yTy zpZ g7) ∧ (0 ≤ g7 11 4 ∧ g7 11 4 ≤ 61) ∧ (s9 = 78 → 0 ≤ n10 ∧ n10 ≤ 7) ∧ (s9 = 63 → 0 ≤ n10) ∧ (∀ (g11 : yM), (yAs 11 g7 g11 s9 n10) → (K [] g11)))))) ∧ (¬ (r2 ≠ 0) → (∃ (c13 : Int), [(3, 2), (1, 61)] = [(3, 2), (1, c13)] ∧ (0 ≤ g3 2 1 ∧ g3 2 1 ≤ 60) ∧ (g3 2 2 ≤ 60) ∧ (1 ≤ c13) ∧ (∀ (r14 : Int) (g15 : yM), ((r14 = 1 ∧ g3 2 3 = -1 ∧ yTs g3 (g3 2 1) = c13 ∧ g15 = yset g3 2 1 (g3 2 1 + 1)) ∨ (r14 = 0 ∧ (g3 2 3 ≠ -1 ∨ yTs g3 (g3 2 1) ≠ c13) ∧ g15 = g3)) → ((r14 ≠ 0 → (∃ (o18 : Int), [(3, 11), (1, o)] = [(3, 11), (1, o18)] ∧ (yPe 11 g15) ∧ (o18 + (lv : Int) = 6 ∧ 0 ≤ o18) ∧ (∀ (g19 : yM), (yPo 11 g15 g19 (ySum (yTs g15) (yOn (yTs g15) lv) (g15 2 1))) → (∃ (s21 n22 : Int), [(3, 11), (1, s), (1, 0)] = [(3, 11), (1, s21), (1, n22)] ∧ (yTy zpZ g19) ∧ (0 ≤ g19 11 4 ∧ g19 11 4 ≤ 61) ∧ (s21 = 78 → 0 ≤ n22 ∧ n22 ≤ 7) ∧ (s21 = 63 → 0 ≤ n22) ∧ (∀ (g23 : yM), (yAs 11 g19 g23 s21 n22) → (K [] g23)))))) ∧ (¬ (r14 ≠ 0) → (∃ (c25 : Int), [(3, 2), (1, 62)] = [(3, 2), (1, c25)] ∧ (0 ≤ g15 2 1 ∧ g15 2 1 ≤ 60) ∧ (g15 2 2 ≤ 60) ∧ (1 ≤ c25) ∧ (∀ (r26 : Int) (g27 : yM), ((r26 = 1 ∧ g15 2 3 = -1 ∧ yTs g15 (g15 2 1) = c25 ∧ g27 = yset g15 2 1 (g15 2 1 + 1)) ∨ (r26 = 0 ∧ (g15 2 3 ≠ -1 ∨ yTs g15 (g15 2 1) ≠ c25) ∧ g27 = g15)) → ((r26 = 0 → (K [] g27)) ∧ (¬ (r26 = 0) → (∃ (o30 : Int), [(3, 11), (1, o)] = [(3, 11), (1, o30)] ∧ (yPe 11 g27) ∧ (o30 + (lv : Int) = 6 ∧ 0 ≤ o30) ∧ (∀ (g31 : yM), (yPo 11 g27 g31 (ySum (yTs g27) (yOn (yTs g27) lv) (g27 2 1))) → (∃ (s33 n34 : Int), [(3, 11), (1, s), (1, 0)] = [(3, 11), (1, s33), (1, n34)] ∧ (yTy zpZ g31) ∧ (0 ≤ g31 11 4 ∧ g31 11 4 ≤ 61) ∧ (s33 = 78 → 0 ≤ n34 ∧ n34 ≤ 7) ∧ (s33 = 63 → 0 ≤ n34) ∧ (∀ (g35 : yM), (yAs 11 g31 g35 s33 n34) → (K [] g35)))))))))))))))))
  refine ⟨_, rfl, (m4), (by have e22 := tm.2; omega), (by omega), ?_⟩
  intro r2 g3 p40
  refine ⟨fun h5 => ?_, fun h5 => ?_⟩
  · obtain ⟨ap40, bp40, ep40⟩ : m 2 3 = -1 ∧ yTs m (m 2 1) = 60 ∧ g3 = (yset m 2 1 (m 2 1 + 1)) := by
      rcases p40 with ⟨-, z⟩ | ⟨z, -⟩
      · exact z
      · omega
    subst ep40
    refine ⟨_, rfl, (by
      have e1 : r.1 = -1 := m3.symm.trans ap40
      have e2 := (m6 e1).1
      rw [tm.1, e2] at bp40
      have e3 := hr.1 e1
      exact yPo.pe (Or.inr rfl) hp hm hr e1 (tg r.2.1 (by omega) (by omega))), (ho), ?_⟩
    intro g7 p80
    rw [yTs_pl m 1 (m 2 1 + 1) (by decide), yset_eq] at p80
    have t_p80 := yPo.te (Or.inr rfl) p80
    obtain ⟨x1_p80, x2_p80, x3_p80, x4_p80, x5_p80, x6_p80, x7_p80⟩ := id p80
    rw [yTs_pl m 1 (m 2 1 + 1) (by decide), yset_nj (by decide)] at t_p80
    refine ⟨_, _, rfl, (x1_p80), (x5_p80), (by
      have e1 : r.1 = -1 := m3.symm.trans ap40
      have e2 := (m6 e1).1
      rw [tm.1, e2] at bp40
      have es := hs e1 (by omega)
      omega), (by
      have e1 : r.1 = -1 := m3.symm.trans ap40
      have e2 := (m6 e1).1
      rw [tm.1, e2] at bp40
      have es := hs e1 (by omega)
      omega), ?_⟩
    intro g11 p120
    have e1 : r.1 = -1 := m3.symm.trans ap40
    have e2 := (m6 e1).1
    rw [tm.1, e2] at bp40
    have e3 := hr.1 e1
    have h60 := tg r.2.1 (by omega) (by omega)
    rw [tm.1] at p80
    have ep : yPo 11 (yset m 2 1 (m 2 1 + 1)) g7 (ySum (yTs g) (yOn (yTs g) lv) (r.2.1 + 1)) := by
      rw [← e2]
      exact p80
    have hxr := ySum_gd tg (yOn_gd tg lv) (r.2.1 + 1) (by omega) (by omega)
    have es := hs e1 (by omega)
    rw [es] at p120
    have st := yPo.step (Or.inr rfl) hp hm hr e1 h60 ep hxr p120
    have cd : r.1 = -1 ∧ yCq (yTs g r.2.1) = true := ⟨e1, decide_eq_true (by omega)⟩
    refine hK _ ?_
    rw [yLp_1 cd]
    exact st
  · obtain ⟨bp40, ep40⟩ : (m 2 3 ≠ -1 ∨ yTs m (m 2 1) ≠ 60) ∧ m = g3 := by
      rcases p40 with ⟨z, -⟩ | ⟨-, z1, z2⟩
      · omega
      · exact ⟨z1, z2.symm⟩
    subst ep40
    refine ⟨_, rfl, (m4), (by have e22 := tm.2; omega), (by omega), ?_⟩
    intro r14 g15 p160
    refine ⟨fun h17 => ?_, fun h17 => ?_⟩
    · obtain ⟨ap160, bp160, ep160⟩ : m 2 3 = -1 ∧ yTs m (m 2 1) = 61 ∧ g15 = (yset m 2 1 (m 2 1 + 1)) := by
        rcases p160 with ⟨-, z⟩ | ⟨z, -⟩
        · exact z
        · omega
      subst ep160
      refine ⟨_, rfl, (by
      have e1 : r.1 = -1 := m3.symm.trans ap160
      have e2 := (m6 e1).1
      rw [tm.1, e2] at bp160
      have e3 := hr.1 e1
      exact yPo.pe (Or.inr rfl) hp hm hr e1 (tg r.2.1 (by omega) (by omega))), (ho), ?_⟩
      intro g19 p200
      rw [yTs_pl m 1 (m 2 1 + 1) (by decide), yset_eq] at p200
      have t_p200 := yPo.te (Or.inr rfl) p200
      obtain ⟨x1_p200, x2_p200, x3_p200, x4_p200, x5_p200, x6_p200, x7_p200⟩ := id p200
      rw [yTs_pl m 1 (m 2 1 + 1) (by decide), yset_nj (by decide)] at t_p200
      refine ⟨_, _, rfl, (x1_p200), (x5_p200), (by
      have e1 : r.1 = -1 := m3.symm.trans ap160
      have e2 := (m6 e1).1
      rw [tm.1, e2] at bp160
      have es := hs e1 (by omega)
      omega), (by
      have e1 : r.1 = -1 := m3.symm.trans ap160
      have e2 := (m6 e1).1
      rw [tm.1, e2] at bp160
      have es := hs e1 (by omega)
      omega), ?_⟩
      intro g23 p240
      have e1 : r.1 = -1 := m3.symm.trans ap160
      have e2 := (m6 e1).1
      rw [tm.1, e2] at bp160
      have e3 := hr.1 e1
      have h60 := tg r.2.1 (by omega) (by omega)
      rw [tm.1] at p200
      have ep : yPo 11 (yset m 2 1 (m 2 1 + 1)) g19 (ySum (yTs g) (yOn (yTs g) lv) (r.2.1 + 1)) := by
        rw [← e2]
        exact p200
      have hxr := ySum_gd tg (yOn_gd tg lv) (r.2.1 + 1) (by omega) (by omega)
      have es := hs e1 (by omega)
      rw [es] at p240
      have st := yPo.step (Or.inr rfl) hp hm hr e1 h60 ep hxr p240
      have cd : r.1 = -1 ∧ yCq (yTs g r.2.1) = true := ⟨e1, decide_eq_true (by omega)⟩
      refine hK _ ?_
      rw [yLp_1 cd]
      exact st
    · obtain ⟨bp160, ep160⟩ : (m 2 3 ≠ -1 ∨ yTs m (m 2 1) ≠ 61) ∧ m = g15 := by
        rcases p160 with ⟨z, -⟩ | ⟨-, z1, z2⟩
        · omega
        · exact ⟨z1, z2.symm⟩
      subst ep160
      refine ⟨_, rfl, (m4), (by have e22 := tm.2; omega), (by omega), ?_⟩
      intro r26 g27 p280
      refine ⟨fun h29 => ?_, fun h29 => ?_⟩
      · obtain ⟨bp280, ep280⟩ : (m 2 3 ≠ -1 ∨ yTs m (m 2 1) ≠ 62) ∧ m = g27 := by
          rcases p280 with ⟨z, -⟩ | ⟨-, z1, z2⟩
          · omega
          · exact ⟨z1, z2.symm⟩
        subst ep280
        have cn : ¬ (r.1 = -1 ∧ yCq (yTs g r.2.1) = true) := fun ⟨z1, z2⟩ => by
          have e2 := (m6 z1).1
          have e3 := m3.trans z1
          have z3 := of_decide_eq_true z2
          rw [tm.1, e2] at bp40
          rw [tm.1, e2] at bp160
          rw [tm.1, e2] at bp280
          omega
        refine hK _ ?_
        rw [yLp_0 cn]
        exact hm
      · obtain ⟨ap280, bp280, ep280⟩ : m 2 3 = -1 ∧ yTs m (m 2 1) = 62 ∧ g27 = (yset m 2 1 (m 2 1 + 1)) := by
          rcases p280 with ⟨-, z⟩ | ⟨z, -⟩
          · exact z
          · omega
        subst ep280
        refine ⟨_, rfl, (by
      have e1 : r.1 = -1 := m3.symm.trans ap280
      have e2 := (m6 e1).1
      rw [tm.1, e2] at bp280
      have e3 := hr.1 e1
      exact yPo.pe (Or.inr rfl) hp hm hr e1 (tg r.2.1 (by omega) (by omega))), (ho), ?_⟩
        intro g31 p320
        rw [yTs_pl m 1 (m 2 1 + 1) (by decide), yset_eq] at p320
        have t_p320 := yPo.te (Or.inr rfl) p320
        obtain ⟨x1_p320, x2_p320, x3_p320, x4_p320, x5_p320, x6_p320, x7_p320⟩ := id p320
        rw [yTs_pl m 1 (m 2 1 + 1) (by decide), yset_nj (by decide)] at t_p320
        refine ⟨_, _, rfl, (x1_p320), (x5_p320), (by
      have e1 : r.1 = -1 := m3.symm.trans ap280
      have e2 := (m6 e1).1
      rw [tm.1, e2] at bp280
      have es := hs e1 (by omega)
      omega), (by
      have e1 : r.1 = -1 := m3.symm.trans ap280
      have e2 := (m6 e1).1
      rw [tm.1, e2] at bp280
      have es := hs e1 (by omega)
      omega), ?_⟩
        intro g35 p360
        have e1 : r.1 = -1 := m3.symm.trans ap280
        have e2 := (m6 e1).1
        rw [tm.1, e2] at bp280
        have e3 := hr.1 e1
        have h60 := tg r.2.1 (by omega) (by omega)
        rw [tm.1] at p320
        have ep : yPo 11 (yset m 2 1 (m 2 1 + 1)) g31 (ySum (yTs g) (yOn (yTs g) lv) (r.2.1 + 1)) := by
          rw [← e2]
          exact p320
        have hxr := ySum_gd tg (yOn_gd tg lv) (r.2.1 + 1) (by omega) (by omega)
        have es := hs e1 (by omega)
        rw [es] at p360
        have st := yPo.step (Or.inr rfl) hp hm hr e1 h60 ep hxr p360
        have cd : r.1 = -1 ∧ yCq (yTs g r.2.1) = true := ⟨e1, decide_eq_true (by omega)⟩
        refine hK _ ?_
        rw [yLp_1 cd]
        exact st
set_option maxRecDepth 8000 in
theorem yv_Cg_11 {K : List yV → yM → Prop} {Y : yNx} {g : yM} {o : Int} {lv : Nat} (hY : yCl zpD112 (zpZ, zpRS, zpP10, zpMT, [yC_AP3, yC_AS11, (117, (40, 4000), yP_Sg_11 lv), yC_SG3], (50, 5000), 0) K Y) (hr_o : -2147483648 ≤ o ∧ o ≤ 2147483647) (hp0 : yPe 11 g) (hp1 : o + (lv : Int) = 6 ∧ 0 ≤ o) (hK : ∀ (g' : yM), (yPo 11 g g' (yCmp (yTs g) (yOn (yTs g) lv) (g 2 1))) → K [] g') : Y 0 [(3, 11), (1, o), (0, 0)] [] g := by
  have hp := hp0
  have ho := hp1
  obtain ⟨hT0, hf, hpl, hle, hk0, hk1⟩ := id hp
  have tg := yTs_tg hle
  have hg := ySum_gd tg (yOn_gd tg lv) (g 2 1) hpl.1 hpl.2
  refine yrun_ok (sp := fun pc => Nat.beq pc 13) hY 8 0 _ [] g ?_
  show (∃ (o1 : Int), [(3, 11), (1, o)] = [(3, 11), (1, o1)] ∧ (yPe 11 g) ∧ (o1 + (lv : Int) = 6 ∧ 0 ≤ o1) ∧ (∀ (g2 : yM), (yPo 11 g g2 (ySum (yTs g) (yOn (yTs g) lv) (g 2 1))) → ([(3, 2)] = [(3, 2)] ∧ (0 ≤ g2 2 1) ∧ (g2 2 2 ≤ 60) ∧ (∀ (r4 : Int), (g2 2 3 = -1 → (r4 = -1 ∧ g2 2 2 ≤ g2 2 1) ∨ (g2 2 1 < g2 2 2 ∧ r4 = yTs g2 (g2 2 1))) → (g2 2 3 ≠ -1 → r4 = -1) → (-1 ≤ r4 ∧ r4 ≤ 255) → (Y 13 [(3, 11), (1, o), (1, r4)] [] g2)))))
  refine ⟨_, rfl, (hp0), (ho), ?_⟩
  intro g2 p30
  have t_p30 := yPo.te (Or.inr rfl) p30
  obtain ⟨x1_p30, x2_p30, x3_p30, x4_p30, x5_p30, x6_p30, x7_p30⟩ := id p30
  refine ⟨rfl, (by omega), (by have e22 := t_p30.2; omega), ?_⟩
  intro r4 p50 p51 p52
  refine yl_Cg_11 ho hY hp p30 hg ?_ (fun g' h => hK g' h)
  exact (fun z z2 => by
    have w1 := p50 (x3_p30.trans z)
    have w2 := (x6_p30 z).1
    rw [t_p30.1, w2, t_p30.2] at w1
    rcases w1 with ⟨w3, w4⟩ | ⟨w3, w4⟩
    · exact absurd (yTs_z w4) z2
    · exact w4)
theorem yR_Cg_11 {lv : Nat} : yRl zpMT (29 + 6 * lv, 1285 + 150 * lv) [yC_AP3, yC_AS11, (117, (40, 4000), yP_Sg_11 lv), yC_SG3] [yC_AP3, yC_AS11, yC_Sg_11 lv, yC_SG3] := (yRl_cons rfl rfl (by show 2 + 1 ≤ 29 + 6 * lv; omega) (by show 8 + (2 + 11) + (60) ≤ 1285 + 150 * lv; omega) (yRl_cons rfl rfl (by show 1 + 1 ≤ 29 + 6 * lv; omega) (by show 8 + (3 + 11) + (40) ≤ 1285 + 150 * lv; omega) (yRl_cons rfl rfl (by show 28 + 6 * lv + 1 ≤ 29 + 6 * lv; omega) (by show 8 + (4 + 11) + (1260 + 150 * lv) ≤ 1285 + 150 * lv; omega) (yRl_cons rfl rfl (by show 1 + 1 ≤ 29 + 6 * lv; omega) (by show 8 + (1 + 11) + (40) ≤ 1285 + 150 * lv; omega) yRl_nil))))
theorem yM_Cg_11 {l : Launch} {lv : Nat} (H : zHyp zpTs zpcl zpRO) (hS : yMet l zpTs zpcl zpZ zpRO zpMT (yC_Sg_11 lv)) : yMet l zpTs zpcl zpZ zpRO zpMT (yC_Cg_11 lv) := ymet_of2 H.1 H.2.1 zpDj H.2.2.1 yRb H.p10 (ymets_cons (yM_AP3 H) (ymets_cons (yM_AS11 H) (ymets_cons hS (ymets_cons (yM_SG3 H) ymets_nil)))) (zrc0 rfl) (plainFor_of_name zpy10) zpDk112 (fun as g K Y h hA hY => by
  obtain ⟨o, rfl, hp0, hp1, hK⟩ := h
  exact yv_Cg_11 (yCl.rl (rm := (50, 5000)) (yR_Cg_11) (by show 1 ≤ 29 + 6 * lv; omega) (by show 1000 ≤ 1285 + 150 * lv; omega) hY) (yAr1 hA (by simp)) hp0 hp1 hK)
set_option maxRecDepth 8000 in
theorem yl_Bg_11 {K : List yV → yM → Prop} {Y : yNx} {g : yM} {lv : Nat} {o : Int} (ho : o + (lv : Int) = 6 ∧ 0 ≤ o) (hY : yCl zpD111 (zpZ, zpRS, zpP10, zpMT, [yC_AP3, yC_AS11, (112, (40, 4000), yP_Cg_11 lv)], (50, 5000), 0) K Y) (hp : yPe 11 g) : ∀ (n : Nat) (i : Int) (m : yM) (r : yR) (hi : 0 ≤ i) (hb : r.1 = -1 → i ≤ r.2.1 ∧ 60 - r.2.1 ≤ n) (hm : yPo 11 g m r) (hr : yGr (g 2 1) r) (hK : ∀ g' : yM, yPo 11 g g' (yLp (yTs g) yAn (yCmp (yTs g) (yOn (yTs g) lv)) n r) → K [] g'), Y 7 [(3, 11), (1, o), (1, i)] [] m := by
  intro n
  induction n using Nat.strongRecOn with
  | ind n ih =>
    intro i m r hi hb hm hr hK
    obtain ⟨hT0, hf, hpl, hle, hk0, hk1⟩ := id hp
    have tg := yTs_tg hle
    obtain ⟨m1, m2, m3, m4, m5, m6, m7⟩ := id hm
    have tm := yPo.te (Or.inr rfl) hm
    refine yrun_ok (sp := fun pc => Nat.beq pc 7) hY 18 7 _ [] m ?_
    show ((60 ≤ i → (K [] m)) ∧ (¬ (60 ≤ i) → (∃ (c2 : Int), [(3, 2), (1, 38)] = [(3, 2), (1, c2)] ∧ (0 ≤ m 2 1 ∧ m 2 1 ≤ 60) ∧ (m 2 2 ≤ 60) ∧ (1 ≤ c2) ∧ (∀ (r3 : Int) (g4 : yM), ((r3 = 1 ∧ m 2 3 = -1 ∧ yTs m (m 2 1) = c2 ∧ g4 = yset m 2 1 (m 2 1 + 1)) ∨ (r3 = 0 ∧ (m 2 3 ≠ -1 ∨ yTs m (m 2 1) ≠ c2) ∧ g4 = m)) → ((r3 = 0 → (K [] g4)) ∧ (¬ (r3 = 0) → (∃ (o7 : Int), [(3, 11), (1, o)] = [(3, 11), (1, o7)] ∧ (yPe 11 g4) ∧ (o7 + (lv : Int) = 6 ∧ 0 ≤ o7) ∧ (∀ (g8 : yM), (yPo 11 g4 g8 (yCmp (yTs g4) (yOn (yTs g4) lv) (g4 2 1))) → (∃ (s10 n11 : Int), [(3, 11), (1, 38), (1, 0)] = [(3, 11), (1, s10), (1, n11)] ∧ (yTy zpZ g8) ∧ (0 ≤ g8 11 4 ∧ g8 11 4 ≤ 61) ∧ (s10 = 78 → 0 ≤ n11 ∧ n11 ≤ 7) ∧ (s10 = 63 → 0 ≤ n11) ∧ (∀ (g12 : yM), (yAs 11 g8 g12 s10 n11) → (Y 7 [(3, 11), (1, o), (1, (yw (i + 1)))] [] g12)))))))))))
    refine ⟨fun h1 => ?_, fun h1 => ?_⟩
    · have cn : ¬ (r.1 = -1 ∧ yAn (yTs g r.2.1) = true) := fun ⟨z1, z2⟩ => by
        have z3 := of_decide_eq_true z2
        have z4 := hb z1
        have z5 := hr.1 z1
        have z6 := tg r.2.1 (by omega) (by omega)
        omega
      refine hK _ ?_
      rw [yLp_0 cn]
      exact hm
    · refine ⟨_, rfl, (m4), (by have e22 := tm.2; omega), (by omega), ?_⟩
      intro r3 g4 p50
      refine ⟨fun h6 => ?_, fun h6 => ?_⟩
      · obtain ⟨bp50, ep50⟩ : (m 2 3 ≠ -1 ∨ yTs m (m 2 1) ≠ 38) ∧ m = g4 := by
          rcases p50 with ⟨z, -⟩ | ⟨-, z1, z2⟩
          · omega
          · exact ⟨z1, z2.symm⟩
        subst ep50
        have cn : ¬ (r.1 = -1 ∧ yAn (yTs g r.2.1) = true) := fun ⟨z1, z2⟩ => by
          have e2 := (m6 z1).1
          have e3 := m3.trans z1
          have z3 := of_decide_eq_true z2
          rw [tm.1, e2] at bp50
          omega
        refine hK _ ?_
        rw [yLp_0 cn]
        exact hm
      · obtain ⟨ap50, bp50, ep50⟩ : m 2 3 = -1 ∧ yTs m (m 2 1) = 38 ∧ g4 = (yset m 2 1 (m 2 1 + 1)) := by
          rcases p50 with ⟨-, z⟩ | ⟨z, -⟩
          · exact z
          · omega
        subst ep50
        refine ⟨_, rfl, (by
      have e1 : r.1 = -1 := m3.symm.trans ap50
      have e2 := (m6 e1).1
      rw [tm.1, e2] at bp50
      have e3 := hr.1 e1
      exact yPo.pe (Or.inr rfl) hp hm hr e1 (tg r.2.1 (by omega) (by omega))), (ho), ?_⟩
        intro g8 p90
        rw [yTs_pl m 1 (m 2 1 + 1) (by decide), yset_eq] at p90
        have t_p90 := yPo.te (Or.inr rfl) p90
        obtain ⟨x1_p90, x2_p90, x3_p90, x4_p90, x5_p90, x6_p90, x7_p90⟩ := id p90
        rw [yTs_pl m 1 (m 2 1 + 1) (by decide), yset_nj (by decide)] at t_p90
        refine ⟨_, _, rfl, (x1_p90), (x5_p90), (by omega), (by omega), ?_⟩
        intro g12 p130
        have e1 : r.1 = -1 := m3.symm.trans ap50
        have e2 := (m6 e1).1
        rw [tm.1, e2] at bp50
        have e3 := hr.1 e1
        have h60 := tg r.2.1 (by omega) (by omega)
        rw [tm.1] at p90
        have ep : yPo 11 (yset m 2 1 (m 2 1 + 1)) g8 (yCmp (yTs g) (yOn (yTs g) lv) (r.2.1 + 1)) := by
          rw [← e2]
          exact p90
        have hxr := yCmp_gd tg (yOn_gd tg lv) (r.2.1 + 1) (by omega) (by omega)
        rw [show (38 : Int) = yTs g r.2.1 from bp50.symm] at p130
        have st := yPo.step (Or.inr rfl) hp hm hr e1 h60 ep hxr p130
        have cd : r.1 = -1 ∧ yAn (yTs g r.2.1) = true := ⟨e1, decide_eq_true (by omega)⟩
        have gn := yGr.nx tg yAn_0 (yCmp_gd tg (yOn_gd tg lv)) hpl.1 hr cd
        have h8 := hb e1
        have yi : yw (i + 1) = i + 1 := yw_s (i + 1) (by omega) (by omega)
        rw [yi]
        obtain ⟨k, rfl⟩ : ∃ k : Nat, n = k + 1 := ⟨n - 1, by omega⟩
        refine ih k (Nat.lt_succ_self k) (i + 1) _ _ (by omega) ?_ st gn (fun g' h => hK g' (by rw [yLp_1 cd]; exact h))
        exact (fun z => by
          have e9 : (yCmp (yTs g) (yOn (yTs g) lv) (r.2.1 + 1)).1 = -1 := by
            by_cases e9 : (yCmp (yTs g) (yOn (yTs g) lv) (r.2.1 + 1)).1 = -1
            · exact e9
            · rw [if_neg e9] at z
              exact absurd z e9
          rw [if_pos e9]
          have e10 := hxr.1 e9
          have e11 : ((k + 1 : Nat) : Int) = (k : Int) + 1 := rfl
          refine ⟨?_, ?_⟩
          · show i + 1 ≤ (yCmp (yTs g) (yOn (yTs g) lv) (r.2.1 + 1)).2.1
            omega
          · show 60 - (yCmp (yTs g) (yOn (yTs g) lv) (r.2.1 + 1)).2.1 ≤ (k : Int)
            omega)
set_option maxRecDepth 8000 in
theorem yv_Bg_11 {K : List yV → yM → Prop} {Y : yNx} {g : yM} {o : Int} {lv : Nat} (hY : yCl zpD111 (zpZ, zpRS, zpP10, zpMT, [yC_AP3, yC_AS11, (112, (40, 4000), yP_Cg_11 lv)], (50, 5000), 0) K Y) (hr_o : -2147483648 ≤ o ∧ o ≤ 2147483647) (hp0 : yPe 11 g) (hp1 : o + (lv : Int) = 6 ∧ 0 ≤ o) (hK : ∀ (g' : yM), (yPo 11 g g' (yBot (yTs g) (yOn (yTs g) lv) (g 2 1))) → K [] g') : Y 0 [(3, 11), (1, o), (0, 0)] [] g := by
  have hp := hp0
  have ho := hp1
  obtain ⟨hT0, hf, hpl, hle, hk0, hk1⟩ := id hp
  have tg := yTs_tg hle
  have hg := yCmp_gd tg (yOn_gd tg lv) (g 2 1) hpl.1 hpl.2
  refine yrun_ok (sp := fun pc => Nat.beq pc 7) hY 6 0 _ [] g ?_
  show (∃ (o1 : Int), [(3, 11), (1, o)] = [(3, 11), (1, o1)] ∧ (yPe 11 g) ∧ (o1 + (lv : Int) = 6 ∧ 0 ≤ o1) ∧ (∀ (g2 : yM), (yPo 11 g g2 (yCmp (yTs g) (yOn (yTs g) lv) (g 2 1))) → (Y 7 [(3, 11), (1, o), (1, 0)] [] g2)))
  refine ⟨_, rfl, (hp0), (ho), ?_⟩
  intro g2 p30
  have t_p30 := yPo.te (Or.inr rfl) p30
  obtain ⟨x1_p30, x2_p30, x3_p30, x4_p30, x5_p30, x6_p30, x7_p30⟩ := id p30
  refine yl_Bg_11 ho hY hp 60 0 _ _ (by decide) (fun z => ?_) p30 hg (fun g' h => hK g' h)
  have z1 := hg.1 z
  exact ⟨by omega, by omega⟩
theorem yR_Bg_11 {lv : Nat} : yRl zpMT (30 + 6 * lv, 1310 + 150 * lv) [yC_AP3, yC_AS11, (112, (40, 4000), yP_Cg_11 lv)] [yC_AP3, yC_AS11, yC_Cg_11 lv] := (yRl_cons rfl rfl (by show 2 + 1 ≤ 30 + 6 * lv; omega) (by show 8 + (2 + 11) + (60) ≤ 1310 + 150 * lv; omega) (yRl_cons rfl rfl (by show 1 + 1 ≤ 30 + 6 * lv; omega) (by show 8 + (3 + 11) + (40) ≤ 1310 + 150 * lv; omega) (yRl_cons rfl rfl (by show 29 + 6 * lv + 1 ≤ 30 + 6 * lv; omega) (by show 8 + (3 + 11) + (1285 + 150 * lv) ≤ 1310 + 150 * lv; omega) yRl_nil)))
theorem yM_Bg_11 {l : Launch} {lv : Nat} (H : zHyp zpTs zpcl zpRO) (hC : yMet l zpTs zpcl zpZ zpRO zpMT (yC_Cg_11 lv)) : yMet l zpTs zpcl zpZ zpRO zpMT (yC_Bg_11 lv) := ymet_of2 H.1 H.2.1 zpDj H.2.2.1 yRb H.p10 (ymets_cons (yM_AP3 H) (ymets_cons (yM_AS11 H) (ymets_cons hC ymets_nil))) (zrc0 rfl) (plainFor_of_name zpy10) zpDk111 (fun as g K Y h hA hY => by
  obtain ⟨o, rfl, hp0, hp1, hK⟩ := h
  exact yv_Bg_11 (yCl.rl (rm := (50, 5000)) (yR_Bg_11) (by show 1 ≤ 30 + 6 * lv; omega) (by show 1000 ≤ 1310 + 150 * lv; omega) hY) (yAr1 hA (by simp)) hp0 hp1 hK)
set_option maxRecDepth 8000 in
theorem yl_Eg_11 {K : List yV → yM → Prop} {Y : yNx} {g : yM} {lv : Nat} {o : Int} (ho : o + (lv : Int) = 6 ∧ 0 ≤ o) (hY : yCl zpD113 (zpZ, zpRS, zpP10, zpMT, [yC_AP3, yC_AS11, (111, (40, 4000), yP_Bg_11 lv)], (50, 5000), 0) K Y) (hp : yPe 11 g) : ∀ (n : Nat) (i : Int) (m : yM) (r : yR) (hi : 0 ≤ i) (hb : r.1 = -1 → i ≤ r.2.1 ∧ 60 - r.2.1 ≤ n) (hm : yPo 11 g m r) (hr : yGr (g 2 1) r) (hK : ∀ g' : yM, yPo 11 g g' (yLp (yTs g) yOo (yBot (yTs g) (yOn (yTs g) lv)) n r) → K [] g'), Y 7 [(3, 11), (1, o), (1, i)] [] m := by
  intro n
  induction n using Nat.strongRecOn with
  | ind n ih =>
    intro i m r hi hb hm hr hK
    obtain ⟨hT0, hf, hpl, hle, hk0, hk1⟩ := id hp
    have tg := yTs_tg hle
    obtain ⟨m1, m2, m3, m4, m5, m6, m7⟩ := id hm
    have tm := yPo.te (Or.inr rfl) hm
    refine yrun_ok (sp := fun pc => Nat.beq pc 7) hY 18 7 _ [] m ?_
    show ((60 ≤ i → (K [] m)) ∧ (¬ (60 ≤ i) → (∃ (c2 : Int), [(3, 2), (1, 124)] = [(3, 2), (1, c2)] ∧ (0 ≤ m 2 1 ∧ m 2 1 ≤ 60) ∧ (m 2 2 ≤ 60) ∧ (1 ≤ c2) ∧ (∀ (r3 : Int) (g4 : yM), ((r3 = 1 ∧ m 2 3 = -1 ∧ yTs m (m 2 1) = c2 ∧ g4 = yset m 2 1 (m 2 1 + 1)) ∨ (r3 = 0 ∧ (m 2 3 ≠ -1 ∨ yTs m (m 2 1) ≠ c2) ∧ g4 = m)) → ((r3 = 0 → (K [] g4)) ∧ (¬ (r3 = 0) → (∃ (o7 : Int), [(3, 11), (1, o)] = [(3, 11), (1, o7)] ∧ (yPe 11 g4) ∧ (o7 + (lv : Int) = 6 ∧ 0 ≤ o7) ∧ (∀ (g8 : yM), (yPo 11 g4 g8 (yBot (yTs g4) (yOn (yTs g4) lv) (g4 2 1))) → (∃ (s10 n11 : Int), [(3, 11), (1, 124), (1, 0)] = [(3, 11), (1, s10), (1, n11)] ∧ (yTy zpZ g8) ∧ (0 ≤ g8 11 4 ∧ g8 11 4 ≤ 61) ∧ (s10 = 78 → 0 ≤ n11 ∧ n11 ≤ 7) ∧ (s10 = 63 → 0 ≤ n11) ∧ (∀ (g12 : yM), (yAs 11 g8 g12 s10 n11) → (Y 7 [(3, 11), (1, o), (1, (yw (i + 1)))] [] g12)))))))))))
    refine ⟨fun h1 => ?_, fun h1 => ?_⟩
    · have cn : ¬ (r.1 = -1 ∧ yOo (yTs g r.2.1) = true) := fun ⟨z1, z2⟩ => by
        have z3 := of_decide_eq_true z2
        have z4 := hb z1
        have z5 := hr.1 z1
        have z6 := tg r.2.1 (by omega) (by omega)
        omega
      refine hK _ ?_
      rw [yLp_0 cn]
      exact hm
    · refine ⟨_, rfl, (m4), (by have e22 := tm.2; omega), (by omega), ?_⟩
      intro r3 g4 p50
      refine ⟨fun h6 => ?_, fun h6 => ?_⟩
      · obtain ⟨bp50, ep50⟩ : (m 2 3 ≠ -1 ∨ yTs m (m 2 1) ≠ 124) ∧ m = g4 := by
          rcases p50 with ⟨z, -⟩ | ⟨-, z1, z2⟩
          · omega
          · exact ⟨z1, z2.symm⟩
        subst ep50
        have cn : ¬ (r.1 = -1 ∧ yOo (yTs g r.2.1) = true) := fun ⟨z1, z2⟩ => by
          have e2 := (m6 z1).1
          have e3 := m3.trans z1
          have z3 := of_decide_eq_true z2
          rw [tm.1, e2] at bp50
          omega
        refine hK _ ?_
        rw [yLp_0 cn]
        exact hm
      · obtain ⟨ap50, bp50, ep50⟩ : m 2 3 = -1 ∧ yTs m (m 2 1) = 124 ∧ g4 = (yset m 2 1 (m 2 1 + 1)) := by
          rcases p50 with ⟨-, z⟩ | ⟨z, -⟩
          · exact z
          · omega
        subst ep50
        refine ⟨_, rfl, (by
      have e1 : r.1 = -1 := m3.symm.trans ap50
      have e2 := (m6 e1).1
      rw [tm.1, e2] at bp50
      have e3 := hr.1 e1
      exact yPo.pe (Or.inr rfl) hp hm hr e1 (tg r.2.1 (by omega) (by omega))), (ho), ?_⟩
        intro g8 p90
        rw [yTs_pl m 1 (m 2 1 + 1) (by decide), yset_eq] at p90
        have t_p90 := yPo.te (Or.inr rfl) p90
        obtain ⟨x1_p90, x2_p90, x3_p90, x4_p90, x5_p90, x6_p90, x7_p90⟩ := id p90
        rw [yTs_pl m 1 (m 2 1 + 1) (by decide), yset_nj (by decide)] at t_p90
        refine ⟨_, _, rfl, (x1_p90), (x5_p90), (by omega), (by omega), ?_⟩
        intro g12 p130
        have e1 : r.1 = -1 := m3.symm.trans ap50
        have e2 := (m6 e1).1
        rw [tm.1, e2] at bp50
        have e3 := hr.1 e1
        have h60 := tg r.2.1 (by omega) (by omega)
        rw [tm.1] at p90
        have ep : yPo 11 (yset m 2 1 (m 2 1 + 1)) g8 (yBot (yTs g) (yOn (yTs g) lv) (r.2.1 + 1)) := by
          rw [← e2]
          exact p90
        have hxr := yBot_gd tg (yOn_gd tg lv) (r.2.1 + 1) (by omega) (by omega)
        rw [show (124 : Int) = yTs g r.2.1 from bp50.symm] at p130
        have st := yPo.step (Or.inr rfl) hp hm hr e1 h60 ep hxr p130
        have cd : r.1 = -1 ∧ yOo (yTs g r.2.1) = true := ⟨e1, decide_eq_true (by omega)⟩
        have gn := yGr.nx tg yOo_0 (yBot_gd tg (yOn_gd tg lv)) hpl.1 hr cd
        have h8 := hb e1
        have yi : yw (i + 1) = i + 1 := yw_s (i + 1) (by omega) (by omega)
        rw [yi]
        obtain ⟨k, rfl⟩ : ∃ k : Nat, n = k + 1 := ⟨n - 1, by omega⟩
        refine ih k (Nat.lt_succ_self k) (i + 1) _ _ (by omega) ?_ st gn (fun g' h => hK g' (by rw [yLp_1 cd]; exact h))
        exact (fun z => by
          have e9 : (yBot (yTs g) (yOn (yTs g) lv) (r.2.1 + 1)).1 = -1 := by
            by_cases e9 : (yBot (yTs g) (yOn (yTs g) lv) (r.2.1 + 1)).1 = -1
            · exact e9
            · rw [if_neg e9] at z
              exact absurd z e9
          rw [if_pos e9]
          have e10 := hxr.1 e9
          have e11 : ((k + 1 : Nat) : Int) = (k : Int) + 1 := rfl
          refine ⟨?_, ?_⟩
          · show i + 1 ≤ (yBot (yTs g) (yOn (yTs g) lv) (r.2.1 + 1)).2.1
            omega
          · show 60 - (yBot (yTs g) (yOn (yTs g) lv) (r.2.1 + 1)).2.1 ≤ (k : Int)
            omega)
set_option maxRecDepth 8000 in
theorem yv_Eg_11 {K : List yV → yM → Prop} {Y : yNx} {g : yM} {o : Int} {lv : Nat} (hY : yCl zpD113 (zpZ, zpRS, zpP10, zpMT, [yC_AP3, yC_AS11, (111, (40, 4000), yP_Bg_11 lv)], (50, 5000), 0) K Y) (hr_o : -2147483648 ≤ o ∧ o ≤ 2147483647) (hp0 : yPe 11 g) (hp1 : o + (lv : Int) = 6 ∧ 0 ≤ o) (hK : ∀ (g' : yM), (yPo 11 g g' (yEit (yTs g) (yOn (yTs g) lv) (g 2 1))) → K [] g') : Y 0 [(3, 11), (1, o), (0, 0)] [] g := by
  have hp := hp0
  have ho := hp1
  obtain ⟨hT0, hf, hpl, hle, hk0, hk1⟩ := id hp
  have tg := yTs_tg hle
  have hg := yBot_gd tg (yOn_gd tg lv) (g 2 1) hpl.1 hpl.2
  refine yrun_ok (sp := fun pc => Nat.beq pc 7) hY 6 0 _ [] g ?_
  show (∃ (o1 : Int), [(3, 11), (1, o)] = [(3, 11), (1, o1)] ∧ (yPe 11 g) ∧ (o1 + (lv : Int) = 6 ∧ 0 ≤ o1) ∧ (∀ (g2 : yM), (yPo 11 g g2 (yBot (yTs g) (yOn (yTs g) lv) (g 2 1))) → (Y 7 [(3, 11), (1, o), (1, 0)] [] g2)))
  refine ⟨_, rfl, (hp0), (ho), ?_⟩
  intro g2 p30
  have t_p30 := yPo.te (Or.inr rfl) p30
  obtain ⟨x1_p30, x2_p30, x3_p30, x4_p30, x5_p30, x6_p30, x7_p30⟩ := id p30
  refine yl_Eg_11 ho hY hp 60 0 _ _ (by decide) (fun z => ?_) p30 hg (fun g' h => hK g' h)
  have z1 := hg.1 z
  exact ⟨by omega, by omega⟩
theorem yR_Eg_11 {lv : Nat} : yRl zpMT (31 + 6 * lv, 1335 + 150 * lv) [yC_AP3, yC_AS11, (111, (40, 4000), yP_Bg_11 lv)] [yC_AP3, yC_AS11, yC_Bg_11 lv] := (yRl_cons rfl rfl (by show 2 + 1 ≤ 31 + 6 * lv; omega) (by show 8 + (2 + 11) + (60) ≤ 1335 + 150 * lv; omega) (yRl_cons rfl rfl (by show 1 + 1 ≤ 31 + 6 * lv; omega) (by show 8 + (3 + 11) + (40) ≤ 1335 + 150 * lv; omega) (yRl_cons rfl rfl (by show 30 + 6 * lv + 1 ≤ 31 + 6 * lv; omega) (by show 8 + (3 + 11) + (1310 + 150 * lv) ≤ 1335 + 150 * lv; omega) yRl_nil)))
theorem yM_Eg_11 {l : Launch} {lv : Nat} (H : zHyp zpTs zpcl zpRO) (hB : yMet l zpTs zpcl zpZ zpRO zpMT (yC_Bg_11 lv)) : yMet l zpTs zpcl zpZ zpRO zpMT (yC_Eg_11 lv) := ymet_of2 H.1 H.2.1 zpDj H.2.2.1 yRb H.p10 (ymets_cons (yM_AP3 H) (ymets_cons (yM_AS11 H) (ymets_cons hB ymets_nil))) (zrc0 rfl) (plainFor_of_name zpy10) zpDk113 (fun as g K Y h hA hY => by
  obtain ⟨o, rfl, hp0, hp1, hK⟩ := h
  exact yv_Eg_11 (yCl.rl (rm := (50, 5000)) (yR_Eg_11) (by show 1 ≤ 31 + 6 * lv; omega) (by show 1000 ≤ 1335 + 150 * lv; omega) hY) (yAr1 hA (by simp)) hp0 hp1 hK)
theorem yMh_11 {l : Launch} {lv : Nat} (H : zHyp zpTs zpcl zpRO) (hO : yMet l zpTs zpcl zpZ zpRO zpMT (yC_Og_11 lv)) : yMet l zpTs zpcl zpZ zpRO zpMT (yC_Eg_11 lv) := yM_Eg_11 H (yM_Bg_11 H (yM_Cg_11 H (yM_Sg_11 H (yM_Pg_11 H hO))))
theorem yMo_11 {l : Launch} (H : zHyp zpTs zpcl zpRO) : ∀ lv : Nat, yMet l zpTs zpcl zpZ zpRO zpMT (yC_Og_11 lv)
  | 0 => yM_Oz_11 H
  | lv + 1 => yM_Os_11 rfl H (yMo_11 H lv) (yMh_11 H (yMo_11 H lv))
def yP_E6_11 : yPT := fun as g K => as = [(3, 11), (1, 0)] ∧ (yPe 11 g) ∧ (∀ (g' : yM), (yPo 11 g g' (yEit (yTs g) (yOn (yTs g) 6) (g 2 1))) → K [] g')
def yC_E6_11 : yC := (113, (67, 2235), yP_E6_11)
theorem yM_E6_11 {l : Launch} (H : zHyp zpTs zpcl zpRO) : yMet l zpTs zpcl zpZ zpRO zpMT yC_E6_11 := by
  have e : yC_E6_11 = (113, (31 + 6 * 6, 1335 + 150 * 6), yP_E6_11) := congrArg (fun r => ((113, r, yP_E6_11) : yC)) (by decide : ((67, 2235) : Nat × Nat) = (31 + 6 * 6, 1335 + 150 * 6))
  rw [e]
  exact yMet.of (mid := 113) (rm := (31 + 6 * 6, 1335 + 150 * 6)) (P := yP_Eg_11 6) (yMh_11 H (yMo_11 H 6)) (fun as g K h => by
    obtain ⟨rfl, h1, h2⟩ := h
    exact ⟨0, rfl, h1, ⟨rfl, by decide⟩, h2⟩)
