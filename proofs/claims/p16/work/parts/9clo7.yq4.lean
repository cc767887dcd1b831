/-! STAND -/
/-- how many minutes stay open at a door: the class, the reference; the best so far -/
def yUs (g : yM) (t e : Int) (n : Nat) (v : Int) : Prop := ySu (fun i => g (50 + i) 0 = t ∧ g (50 + i) 3 = e ∧ g (50 + i) 10 ≠ -2) (fun i => yw (g (50 + i) 11 - g (50 + i) 10)) 0 n v
def yUm (g : yM) (t e : Int) (n : Nat) (v : Int) : Prop := ySu (fun i => g 101 i = t ∧ g 103 i = e ∧ 0 ≤ yMf g i) (fun i => yw (yMl g i - yMf g i)) 0 n v
def yDb (b z d s : Int) : Int := if z < s then d else b
theorem yDb_1 {b z d s : Int} (h : z < s) : yDb b z d s = d := if_pos h
theorem yDb_0 {b z d s : Int} (h : ¬ z < s) : yDb b z d s = b := if_neg h
theorem ymx_1 {a b : Int} (h : a < b) : ymx a b = b := if_pos h
theorem ymx_0 {a b : Int} (h : ¬ a < b) : ymx a b = a := if_neg h
def yP_USA : yPT := fun as g K => ∃ (t e : Int), as = [(3, 7), (1, t), (1, e)] ∧ (0 ≤ g 1 1 ∧ g 1 1 ≤ 40) ∧ (∀ (r : Int), (yUs g t e (Int.toNat (g 1 1)) r) → K [(1, r)] g)
def yC_USA : yC := (99, (2, 60), yP_USA)
set_option maxRecDepth 8000 in
theorem yl_USA {K : List yV → yM → Prop} {Y : yNx} {g : yM} {t e : Int} (hY : yCl zpD99 (zpZ, zpRS, zpP8, zpMT, [yC_HST], (2, 60), 1) K Y) (hq0 : 0 ≤ g 1 1 ∧ g 1 1 ≤ 40) (hK : ∀ (v : Int) (w5 : yV), ySu (fun i => g (50 + i) 0 = t ∧ g (50 + i) 3 = e ∧ g (50 + i) 10 ≠ -2) (fun i => yw (g (50 + i) 11 - g (50 + i) 10)) 0 (Int.toNat (g 1 1)) v → K [(1, v)] g) : ∀ (n : Nat) (i : Int), i + n = g 1 1 → 0 ≤ i → ∀ (u : Int) (w5 : yV), ySu (fun i => g (50 + i) 0 = t ∧ g (50 + i) 3 = e ∧ g (50 + i) 10 ≠ -2) (fun i => yw (g (50 + i) 11 - g (50 + i) 10)) 0 (Int.toNat i) u → Y 5 [(3, 7), (1, t), (1, e), (1, u), (1, i), w5] [] g := by
  intro n
  induction n with
  | zero =>
    intro i hd h0 u w5 hu
    refine yrun_ok (sp := fun pc => Nat.beq pc 5) hY 33 5 _ [] g ?_
    show (((g 1 1) ≤ i → (K [(1, u)] g)) ∧ (¬ ((g 1 1) ≤ i) → (((0 : Int) ≤ i ∧ i < ((40 : Nat) : Int)) ∧ (((g (50 + Int.toNat i) 0) ≠ t → (Y 5 [(3, 7), (1, t), (1, e), (1, u), (1, (yw (i + 1))), (141, i)] [] g)) ∧ (¬ ((g (50 + Int.toNat i) 0) ≠ t) → (((g (50 + Int.toNat i) 3) ≠ e → (Y 5 [(3, 7), (1, t), (1, e), (1, u), (1, (yw (i + 1))), (141, i)] [] g)) ∧ (¬ ((g (50 + Int.toNat i) 3) ≠ e) → (∃ (w4 : Int), [(141, i)] = [(141, w4)] ∧ (0 ≤ w4 ∧ w4 < 40) ∧ (∀ (r5 : Int), ((r5 = 1 ∧ g (50 + Int.toNat w4) 10 ≠ -2) ∨ (r5 = 0 ∧ g (50 + Int.toNat w4) 10 = -2)) → ((r5 = 0 → (Y 5 [(3, 7), (1, t), (1, e), (1, u), (1, (yw (i + 1))), (141, i)] [] g)) ∧ (¬ (r5 = 0) → (Y 5 [(3, 7), (1, t), (1, e), (1, (yw (u + (yw ((g (50 + Int.toNat i) 11) - (g (50 + Int.toNat i) 10)))))), (1, (yw (i + 1))), (141, i)] [] g))))))))))))
    refine ⟨fun h1 => ?_, fun h1 => ?_⟩
    · obtain rfl : i = g 1 1 := by omega
      exact hK u w5 hu
    · refine ⟨(by omega), ?_⟩
      refine ⟨fun h2 => ?_, fun h2 => ?_⟩
      · omega
      · refine ⟨fun h3 => ?_, fun h3 => ?_⟩
        · omega
        · refine ⟨_, rfl, (by omega), ?_⟩
          intro r5 p60
          refine ⟨fun h7 => ?_, fun h7 => ?_⟩
          · omega
          · omega
  | succ n ih =>
    intro i hd h0 u w5 hu
    refine yrun_ok (sp := fun pc => Nat.beq pc 5) hY 33 5 _ [] g ?_
    show (((g 1 1) ≤ i → (K [(1, u)] g)) ∧ (¬ ((g 1 1) ≤ i) → (((0 : Int) ≤ i ∧ i < ((40 : Nat) : Int)) ∧ (((g (50 + Int.toNat i) 0) ≠ t → (Y 5 [(3, 7), (1, t), (1, e), (1, u), (1, (yw (i + 1))), (141, i)] [] g)) ∧ (¬ ((g (50 + Int.toNat i) 0) ≠ t) → (((g (50 + Int.toNat i) 3) ≠ e → (Y 5 [(3, 7), (1, t), (1, e), (1, u), (1, (yw (i + 1))), (141, i)] [] g)) ∧ (¬ ((g (50 + Int.toNat i) 3) ≠ e) → (∃ (w4 : Int), [(141, i)] = [(141, w4)] ∧ (0 ≤ w4 ∧ w4 < 40) ∧ (∀ (r5 : Int), ((r5 = 1 ∧ g (50 + Int.toNat w4) 10 ≠ -2) ∨ (r5 = 0 ∧ g (50 + Int.toNat w4) 10 = -2)) → ((r5 = 0 → (Y 5 [(3, 7), (1, t), (1, e), (1, u), (1, (yw (i + 1))), (141, i)] [] g)) ∧ (¬ (r5 = 0) → (Y 5 [(3, 7), (1, t), (1, e), (1, (yw (u + (yw ((g (50 + Int.toNat i) 11) - (g (50 + Int.toNat i) 10)))))), (1, (yw (i + 1))), (141, i)] [] g))))))))))))
    refine ⟨fun h1 => ?_, fun h1 => ?_⟩
    · omega
    · refine ⟨(by omega), ?_⟩
      refine ⟨fun h2 => ?_, fun h2 => ?_⟩
      · have yi : yw (i + 1) = i + 1 := yw_s (i + 1) (by omega) (by omega)
        rw [yi]
        refine ih (i + 1) (by omega) (by omega) _ (141, i) ?_
        rw [show Int.toNat (i + 1) = Int.toNat i + 1 by omega]
        exact ySu_0 hu (fun z => by have z1 := z.1; have z2 := z.2.1; have z3 := z.2.2; omega)
      · refine ⟨fun h3 => ?_, fun h3 => ?_⟩
        · have yi : yw (i + 1) = i + 1 := yw_s (i + 1) (by omega) (by omega)
          rw [yi]
          refine ih (i + 1) (by omega) (by omega) _ (141, i) ?_
          rw [show Int.toNat (i + 1) = Int.toNat i + 1 by omega]
          exact ySu_0 hu (fun z => by have z1 := z.1; have z2 := z.2.1; have z3 := z.2.2; omega)
        · refine ⟨_, rfl, (by omega), ?_⟩
          intro r5 p60
          refine ⟨fun h7 => ?_, fun h7 => ?_⟩
          · have yi : yw (i + 1) = i + 1 := yw_s (i + 1) (by omega) (by omega)
            rw [yi]
            refine ih (i + 1) (by omega) (by omega) _ (141, i) ?_
            rw [show Int.toNat (i + 1) = Int.toNat i + 1 by omega]
            exact ySu_0 hu (fun z => by have z1 := z.1; have z2 := z.2.1; have z3 := z.2.2; omega)
          · have yi : yw (i + 1) = i + 1 := yw_s (i + 1) (by omega) (by omega)
            rw [yi]
            refine ih (i + 1) (by omega) (by omega) _ (141, i) ?_
            rw [show Int.toNat (i + 1) = Int.toNat i + 1 by omega]
            exact ySu_1 hu ⟨by omega, by omega, by omega⟩ rfl
set_option maxRecDepth 8000 in
theorem yv_USA {K : List yV → yM → Prop} {Y : yNx} {g : yM} {t e : Int} (hY : yCl zpD99 (zpZ, zpRS, zpP8, zpMT, [yC_HST], (2, 60), 1) K Y) (hr_t : -2147483648 ≤ t ∧ t ≤ 2147483647) (hr_e : -2147483648 ≤ e ∧ e ≤ 2147483647) (hp0 : 0 ≤ g 1 1 ∧ g 1 1 ≤ 40) (hK : ∀ (r : Int), (yUs g t e (Int.toNat (g 1 1)) r) → K [(1, r)] g) : Y 0 [(3, 7), (1, t), (1, e), (0, 0), (0, 0), (0, 0)] [] g := by
  refine yrun_ok (sp := fun pc => Nat.beq pc 5) hY 5 0 _ [] g ?_
  show (Y 5 [(3, 7), (1, t), (1, e), (1, 0), (1, 0), (0, 0)] [] g)
  exact yl_USA hY hp0 (fun v _ hv => hK v hv) (Int.toNat (g 1 1)) 0 (by omega) (by decide) 0 _ rfl
theorem yM_USA {l : Launch} {Ts : List Cond} {cl : List vw_C} {RO : zRO} (H : zHyp Ts cl RO) : yMet l Ts cl zpZ RO zpMT yC_USA := ymet_of2 H.1 H.2.1 zpDj H.2.2.1 yRb H.p8 (ymets_cons (yM_HST H) ymets_nil) (zrc1 rfl) (plainFor_of_name zpy8) zpDk99 (fun as g K Y h hA hY => by
  obtain ⟨t, e, rfl, hp0, hK⟩ := h
  exact yv_USA hY (yAr1 hA (by simp)) (yAr1 hA (by simp)) hp0 hK)
def yP_CSD : yPT := fun as g K => ∃ (t h : Int), as = [(3, 0), (1, t), (1, h)] ∧ (0 ≤ g 1 1 ∧ g 1 1 ≤ 40) ∧ (∀ (r : Int), (¬ (0 ≤ t ∧ t < 4 ∧ 0 ≤ h ∧ h < 2) → r = -1) → ((0 ≤ t ∧ t < 4 ∧ 0 ≤ h ∧ h < 2) → ∃ s0 s1 s2 s3 : Int, yUs g t 0 (Int.toNat (g 1 1)) s0 ∧ yUs g t 1 (Int.toNat (g 1 1)) s1 ∧ yUs g t 2 (Int.toNat (g 1 1)) s2 ∧ yUs g t 3 (Int.toNat (g 1 1)) s3 ∧ (h = 0 → r = (yDb (yDb (yDb 0 s0 1 s1) (ymx s0 s1) 2 s2) (ymx (ymx s0 s1) s2) 3 s3)) ∧ (h = 1 → r = (ymx (ymx (ymx s0 s1) s2) s3))) → K [(1, r)] g)
def yC_CSD : yC := (32, (3, 85), yP_CSD)
set_option maxRecDepth 8000 in
theorem yv_CSD {K : List yV → yM → Prop} {Y : yNx} {g : yM} {t h : Int} (hY : yCl zpD32 (zpZ, zpRS, zpP0, zpMT, [yC_W, yC_USA], (3, 85), 1) K Y) (hr_t : -2147483648 ≤ t ∧ t ≤ 2147483647) (hr_h : -2147483648 ≤ h ∧ h ≤ 2147483647) (hp0 : 0 ≤ g 1 1 ∧ g 1 1 ≤ 40) (hK : ∀ (r : Int), (¬ (0 ≤ t ∧ t < 4 ∧ 0 ≤ h ∧ h < 2) → r = -1) → ((0 ≤ t ∧ t < 4 ∧ 0 ≤ h ∧ h < 2) → ∃ s0 s1 s2 s3 : Int, yUs g t 0 (Int.toNat (g 1 1)) s0 ∧ yUs g t 1 (Int.toNat (g 1 1)) s1 ∧ yUs g t 2 (Int.toNat (g 1 1)) s2 ∧ yUs g t 3 (Int.toNat (g 1 1)) s3 ∧ (h = 0 → r = (yDb (yDb (yDb 0 s0 1 s1) (ymx s0 s1) 2 s2) (ymx (ymx s0 s1) s2) 3 s3)) ∧ (h = 1 → r = (ymx (ymx (ymx s0 s1) s2) s3))) → K [(1, r)] g) : Y 0 [(3, 0), (1, t), (1, h), (0, 0), (0, 0), (0, 0), (0, 0)] [] g := by
  refine yrun_ok (sp := fun pc => false) hY 80 0 _ [] g ?_
  show (∃ (v1 b2 : Int), [(1, t), (1, 4)] = [(1, v1), (1, b2)] ∧ (∀ (r3 : Int), ((r3 = 1 ∧ 0 ≤ v1 ∧ v1 < b2) ∨ (r3 = 0 ∧ (v1 < 0 ∨ b2 ≤ v1))) → ((r3 = 0 → (K [(1, (-1))] g)) ∧ (¬ (r3 = 0) → (∃ (v6 b7 : Int), [(1, h), (1, 2)] = [(1, v6), (1, b7)] ∧ (∀ (r8 : Int), ((r8 = 1 ∧ 0 ≤ v6 ∧ v6 < b7) ∨ (r8 = 0 ∧ (v6 < 0 ∨ b7 ≤ v6))) → ((r8 ≠ 0 → (∃ (t11 e12 : Int), [(3, 7), (1, t), (1, 0)] = [(3, 7), (1, t11), (1, e12)] ∧ (0 ≤ g 1 1 ∧ g 1 1 ≤ 40) ∧ (∀ (r13 : Int), (yUs g t11 e12 (Int.toNat (g 1 1)) r13) → ((4 ≤ (1 : Int) → _) ∧ (¬ 4 ≤ (1 : Int) → (∃ (t16 e17 : Int), [(3, 7), (1, t), (1, 1)] = [(3, 7), (1, t16), (1, e17)] ∧ (0 ≤ g 1 1 ∧ g 1 1 ≤ 40) ∧ (∀ (r18 : Int), (yUs g t16 e17 (Int.toNat (g 1 1)) r18) → ((r18 ≤ r13 → ((4 ≤ (2 : Int) → _) ∧ (¬ 4 ≤ (2 : Int) → (∃ (t22 e23 : Int), [(3, 7), (1, t), (1, 2)] = [(3, 7), (1, t22), (1, e23)] ∧ (0 ≤ g 1 1 ∧ g 1 1 ≤ 40) ∧ (∀ (r24 : Int), (yUs g t22 e23 (Int.toNat (g 1 1)) r24) → ((r24 ≤ r13 → ((4 ≤ (3 : Int) → _) ∧ (¬ 4 ≤ (3 : Int) → (∃ (t28 e29 : Int), [(3, 7), (1, t), (1, 3)] = [(3, 7), (1, t28), (1, e29)] ∧ (0 ≤ g 1 1 ∧ g 1 1 ≤ 40) ∧ (∀ (r30 : Int), (yUs g t28 e29 (Int.toNat (g 1 1)) r30) → ((r30 ≤ r13 → ((4 ≤ (4 : Int) → ((h ≠ 0 → (K [(1, r13)] g)) ∧ (¬ (h ≠ 0) → (K [(1, 0)] g)))) ∧ (¬ 4 ≤ (4 : Int) → _))) ∧ (¬ (r30 ≤ r13) → ((4 ≤ (4 : Int) → ((h ≠ 0 → (K [(1, r30)] g)) ∧ (¬ (h ≠ 0) → (K [(1, 3)] g)))) ∧ (¬ 4 ≤ (4 : Int) → _))))))))) ∧ (¬ (r24 ≤ r13) → ((4 ≤ (3 : Int) → _) ∧ (¬ 4 ≤ (3 : Int) → (∃ (t38 e39 : Int), [(3, 7), (1, t), (1, 3)] = [(3, 7), (1, t38), (1, e39)] ∧ (0 ≤ g 1 1 ∧ g 1 1 ≤ 40) ∧ (∀ (r40 : Int), (yUs g t38 e39 (Int.toNat (g 1 1)) r40) → ((r40 ≤ r24 → ((4 ≤ (4 : Int) → ((h ≠ 0 → (K [(1, r24)] g)) ∧ (¬ (h ≠ 0) → (K [(1, 2)] g)))) ∧ (¬ 4 ≤ (4 : Int) → _))) ∧ (¬ (r40 ≤ r24) → ((4 ≤ (4 : Int) → ((h ≠ 0 → (K [(1, r40)] g)) ∧ (¬ (h ≠ 0) → (K [(1, 3)] g)))) ∧ (¬ 4 ≤ (4 : Int) → _))))))))))))))) ∧ (¬ (r18 ≤ r13) → ((4 ≤ (2 : Int) → _) ∧ (¬ 4 ≤ (2 : Int) → (∃ (t48 e49 : Int), [(3, 7), (1, t), (1, 2)] = [(3, 7), (1, t48), (1, e49)] ∧ (0 ≤ g 1 1 ∧ g 1 1 ≤ 40) ∧ (∀ (r50 : Int), (yUs g t48 e49 (Int.toNat (g 1 1)) r50) → ((r50 ≤ r18 → ((4 ≤ (3 : Int) → _) ∧ (¬ 4 ≤ (3 : Int) → (∃ (t54 e55 : Int), [(3, 7), (1, t), (1, 3)] = [(3, 7), (1, t54), (1, e55)] ∧ (0 ≤ g 1 1 ∧ g 1 1 ≤ 40) ∧ (∀ (r56 : Int), (yUs g t54 e55 (Int.toNat (g 1 1)) r56) → ((r56 ≤ r18 → ((4 ≤ (4 : Int) → ((h ≠ 0 → (K [(1, r18)] g)) ∧ (¬ (h ≠ 0) → (K [(1, 1)] g)))) ∧ (¬ 4 ≤ (4 : Int) → _))) ∧ (¬ (r56 ≤ r18) → ((4 ≤ (4 : Int) → ((h ≠ 0 → (K [(1, r56)] g)) ∧ (¬ (h ≠ 0) → (K [(1, 3)] g)))) ∧ (¬ 4 ≤ (4 : Int) → _))))))))) ∧ (¬ (r50 ≤ r18) → ((4 ≤ (3 : Int) → _) ∧ (¬ 4 ≤ (3 : Int) → (∃ (t64 e65 : Int), [(3, 7), (1, t), (1, 3)] = [(3, 7), (1, t64), (1, e65)] ∧ (0 ≤ g 1 1 ∧ g 1 1 ≤ 40) ∧ (∀ (r66 : Int), (yUs g t64 e65 (Int.toNat (g 1 1)) r66) → ((r66 ≤ r50 → ((4 ≤ (4 : Int) → ((h ≠ 0 → (K [(1, r50)] g)) ∧ (¬ (h ≠ 0) → (K [(1, 2)] g)))) ∧ (¬ 4 ≤ (4 : Int) → _))) ∧ (¬ (r66 ≤ r50) → ((4 ≤ (4 : Int) → ((h ≠ 0 → (K [(1, r66)] g)) ∧ (¬ (h ≠ 0) → (K [(1, 3)] g)))) ∧ (¬ 4 ≤ (4 : Int) → _))))))))))))))))))))))) ∧ (¬ (r8 ≠ 0) → (K [(1, (-1))] g)))))))))
  refine ⟨_, _, rfl, ?_⟩
  intro r3 p40
  refine ⟨fun h5 => ?_, fun h5 => ?_⟩
  · exact hK _ (fun _ => rfl) (fun h => absurd h (by omega))
  · refine ⟨_, _, rfl, ?_⟩
    intro r8 p90
    refine ⟨fun h10 => ?_, fun h10 => ?_⟩
    · refine ⟨_, _, rfl, (by omega), ?_⟩
      intro r13 p140
      refine ⟨fun h15 => absurd h15 (by decide), fun _ => ?_⟩
      refine ⟨_, _, rfl, (by omega), ?_⟩
      intro r18 p190
      refine ⟨fun h20 => ?_, fun h20 => ?_⟩
      · refine ⟨fun h21 => absurd h21 (by decide), fun _ => ?_⟩
        refine ⟨_, _, rfl, (by omega), ?_⟩
        intro r24 p250
        refine ⟨fun h26 => ?_, fun h26 => ?_⟩
        · refine ⟨fun h27 => absurd h27 (by decide), fun _ => ?_⟩
          refine ⟨_, _, rfl, (by omega), ?_⟩
          intro r30 p310
          refine ⟨fun h32 => ?_, fun h32 => ?_⟩
          · refine ⟨fun _ => ?_, fun h33 => absurd (by decide) h33⟩
            refine ⟨fun h34 => ?_, fun h34 => ?_⟩
            · refine hK _ (fun h => absurd (by omega) h) (fun _ => ⟨_, _, _, _, p140, p190, p250, p310, fun h => ?_, fun h => ?_⟩)
              · first
                | omega
                | (try unfold yDb
                   unfold ymx
                   repeat' split
                   all_goals omega)
              · first
                | omega
                | (try unfold yDb
                   unfold ymx
                   repeat' split
                   all_goals omega)
            · refine hK _ (fun h => absurd (by omega) h) (fun _ => ⟨_, _, _, _, p140, p190, p250, p310, fun h => ?_, fun h => ?_⟩)
              · first
                | omega
                | (try unfold yDb
                   unfold ymx
                   repeat' split
                   all_goals omega)
              · first
                | omega
                | (try unfold yDb
                   unfold ymx
                   repeat' split
                   all_goals omega)
          · refine ⟨fun _ => ?_, fun h35 => absurd (by decide) h35⟩
            refine ⟨fun h36 => ?_, fun h36 => ?_⟩
            · refine hK _ (fun h => absurd (by omega) h) (fun _ => ⟨_, _, _, _, p140, p190, p250, p310, fun h => ?_, fun h => ?_⟩)
              · first
                | omega
                | (try unfold yDb
                   unfold ymx
                   repeat' split
                   all_goals omega)
              · first
                | omega
                | (try unfold yDb
                   unfold ymx
                   repeat' split
                   all_goals omega)
            · refine hK _ (fun h => absurd (by omega) h) (fun _ => ⟨_, _, _, _, p140, p190, p250, p310, fun h => ?_, fun h => ?_⟩)
              · first
                | omega
                | (try unfold yDb
                   unfold ymx
                   repeat' split
                   all_goals omega)
              · first
                | omega
                | (try unfold yDb
                   unfold ymx
                   repeat' split
                   all_goals omega)
        · refine ⟨fun h37 => absurd h37 (by decide), fun _ => ?_⟩
          refine ⟨_, _, rfl, (by omega), ?_⟩
          intro r40 p410
          refine ⟨fun h42 => ?_, fun h42 => ?_⟩
          · refine ⟨fun _ => ?_, fun h43 => absurd (by decide) h43⟩
            refine ⟨fun h44 => ?_, fun h44 => ?_⟩
            · refine hK _ (fun h => absurd (by omega) h) (fun _ => ⟨_, _, _, _, p140, p190, p250, p410, fun h => ?_, fun h => ?_⟩)
              · first
                | omega
                | (try unfold yDb
                   unfold ymx
                   repeat' split
                   all_goals omega)
              · first
                | omega
                | (try unfold yDb
                   unfold ymx
                   repeat' split
                   all_goals omega)
            · refine hK _ (fun h => absurd (by omega) h) (fun _ => ⟨_, _, _, _, p140, p190, p250, p410, fun h => ?_, fun h => ?_⟩)
              · first
                | omega
                | (try unfold yDb
                   unfold ymx
                   repeat' split
                   all_goals omega)
              · first
                | omega
                | (try unfold yDb
                   unfold ymx
                   repeat' split
                   all_goals omega)
          · refine ⟨fun _ => ?_, fun h45 => absurd (by decide) h45⟩
            refine ⟨fun h46 => ?_, fun h46 => ?_⟩
            · refine hK _ (fun h => absurd (by omega) h) (fun _ => ⟨_, _, _, _, p140, p190, p250, p410, fun h => ?_, fun h => ?_⟩)
              · first
                | omega
                | (try unfold yDb
                   unfold ymx
                   repeat' split
                   all_goals omega)
              · first
                | omega
                | (try unfold yDb
                   unfold ymx
                   repeat' split
                   all_goals omega)
            · refine hK _ (fun h => absurd (by omega) h) (fun _ => ⟨_, _, _, _, p140, p190, p250, p410, fun h => ?_, fun h => ?_⟩)
              · first
                | omega
                | (try unfold yDb
                   unfold ymx
                   repeat' split
                   all_goals omega)
              · first
                | omega
                | (try unfold yDb
                   unfold ymx
                   repeat' split
                   all_goals omega)
      · refine ⟨fun h47 => absurd h47 (by decide), fun _ => ?_⟩
        refine ⟨_, _, rfl, (by omega), ?_⟩
        intro r50 p510
        refine ⟨fun h52 => ?_, fun h52 => ?_⟩
        · refine ⟨fun h53 => absurd h53 (by decide), fun _ => ?_⟩
          refine ⟨_, _, rfl, (by omega), ?_⟩
          intro r56 p570
          refine ⟨fun h58 => ?_, fun h58 => ?_⟩
          · refine ⟨fun _ => ?_, fun h59 => absurd (by decide) h59⟩
            refine ⟨fun h60 => ?_, fun h60 => ?_⟩
            · refine hK _ (fun h => absurd (by omega) h) (fun _ => ⟨_, _, _, _, p140, p190, p510, p570, fun h => ?_, fun h => ?_⟩)
              · first
                | omega
                | (try unfold yDb
                   unfold ymx
                   repeat' split
                   all_goals omega)
              · first
                | omega
                | (try unfold yDb
                   unfold ymx
                   repeat' split
                   all_goals omega)
            · refine hK _ (fun h => absurd (by omega) h) (fun _ => ⟨_, _, _, _, p140, p190, p510, p570, fun h => ?_, fun h => ?_⟩)
              · first
                | omega
                | (try unfold yDb
                   unfold ymx
                   repeat' split
                   all_goals omega)
              · first
                | omega
                | (try unfold yDb
                   unfold ymx
                   repeat' split
                   all_goals omega)
          · refine ⟨fun _ => ?_, fun h61 => absurd (by decide) h61⟩
            refine ⟨fun h62 => ?_, fun h62 => ?_⟩
            · refine hK _ (fun h => absurd (by omega) h) (fun _ => ⟨_, _, _, _, p140, p190, p510, p570, fun h => ?_, fun h => ?_⟩)
              · first
                | omega
                | (try unfold yDb
                   unfold ymx
                   repeat' split
                   all_goals omega)
              · first
                | omega
                | (try unfold yDb
                   unfold ymx
                   repeat' split
                   all_goals omega)
            · refine hK _ (fun h => absurd (by omega) h) (fun _ => ⟨_, _, _, _, p140, p190, p510, p570, fun h => ?_, fun h => ?_⟩)
              · first
                | omega
                | (try unfold yDb
                   unfold ymx
                   repeat' split
                   all_goals omega)
              · first
                | omega
                | (try unfold yDb
                   unfold ymx
                   repeat' split
                   all_goals omega)
        · refine ⟨fun h63 => absurd h63 (by decide), fun _ => ?_⟩
          refine ⟨_, _, rfl, (by omega), ?_⟩
          intro r66 p670
          refine ⟨fun h68 => ?_, fun h68 => ?_⟩
          · refine ⟨fun _ => ?_, fun h69 => absurd (by decide) h69⟩
            refine ⟨fun h70 => ?_, fun h70 => ?_⟩
            · refine hK _ (fun h => absurd (by omega) h) (fun _ => ⟨_, _, _, _, p140, p190, p510, p670, fun h => ?_, fun h => ?_⟩)
              · first
                | omega
                | (try unfold yDb
                   unfold ymx
                   repeat' split
                   all_goals omega)
              · first
                | omega
                | (try unfold yDb
                   unfold ymx
                   repeat' split
                   all_goals omega)
            · refine hK _ (fun h => absurd (by omega) h) (fun _ => ⟨_, _, _, _, p140, p190, p510, p670, fun h => ?_, fun h => ?_⟩)
              · first
                | omega
                | (try unfold yDb
                   unfold ymx
                   repeat' split
                   all_goals omega)
              · first
                | omega
                | (try unfold yDb
                   unfold ymx
                   repeat' split
                   all_goals omega)
          · refine ⟨fun _ => ?_, fun h71 => absurd (by decide) h71⟩
            refine ⟨fun h72 => ?_, fun h72 => ?_⟩
            · refine hK _ (fun h => absurd (by omega) h) (fun _ => ⟨_, _, _, _, p140, p190, p510, p670, fun h => ?_, fun h => ?_⟩)
              · first
                | omega
                | (try unfold yDb
                   unfold ymx
                   repeat' split
                   all_goals omega)
              · first
                | omega
                | (try unfold yDb
                   unfold ymx
                   repeat' split
                   all_goals omega)
            · refine hK _ (fun h => absurd (by omega) h) (fun _ => ⟨_, _, _, _, p140, p190, p510, p670, fun h => ?_, fun h => ?_⟩)
              · first
                | omega
                | (try unfold yDb
                   unfold ymx
                   repeat' split
                   all_goals omega)
              · first
                | omega
                | (try unfold yDb
                   unfold ymx
                   repeat' split
                   all_goals omega)
    · exact hK _ (fun _ => rfl) (fun h => absurd h (by omega))
theorem yM_CSD {l : Launch} {Ts : List Cond} {cl : List vw_C} {RO : zRO} (H : zHyp Ts cl RO) : yMet l Ts cl zpZ RO zpMT yC_CSD := ymet_of2 H.1 H.2.1 zpDj H.2.2.1 yRb H.p0 (ymets_cons (yM_W H) (ymets_cons (yM_USA H) ymets_nil)) (zrc1 rfl) (plainFor_of_name zpy0) zpDk32 (fun as g K Y h hA hY => by
  obtain ⟨t, h, rfl, hp0, hK⟩ := h
  exact yv_CSD hY (yAr1 hA (by simp)) (yAr1 hA (by simp)) hp0 hK)
def yP_MSD : yPT := fun as g K => ∃ (t h : Int), as = [(3, 90), (1, t), (1, h)] ∧ (0 ≤ g 90 22 ∧ g 90 22 ≤ 40) ∧ (0 ≤ g 90 6 ∧ g 90 6 ≤ 12) ∧ (∀ n : Nat, (n : Int) < g 90 22 → (0 ≤ g 104 n ∧ g 104 n ≤ 5) ∧ g 102 n ≤ 719) ∧ (∀ (r : Int), (¬ (0 ≤ t ∧ t ≤ 3 ∧ 0 ≤ h ∧ h ≤ 1) → r = -1) → ((0 ≤ t ∧ t ≤ 3 ∧ 0 ≤ h ∧ h ≤ 1) → ∃ s0 s1 s2 s3 : Int, yUm g t 0 (Int.toNat (g 90 22)) s0 ∧ yUm g t 1 (Int.toNat (g 90 22)) s1 ∧ yUm g t 2 (Int.toNat (g 90 22)) s2 ∧ yUm g t 3 (Int.toNat (g 90 22)) s3 ∧ (h = 0 → r = (yDb (yDb (yDb (yDb 0 (-1) 0 s0) (ymx (-1) s0) 1 s1) (ymx (ymx (-1) s0) s1) 2 s2) (ymx (ymx (ymx (-1) s0) s1) s2) 3 s3)) ∧ (h = 1 → r = (ymx (ymx (ymx (ymx (-1) s0) s1) s2) s3))) → K [(1, r)] g)
def yC_MSD : yC := (198, (4, 113), yP_MSD)
set_option maxRecDepth 8000 in
theorem yl_MSDj {K : List yV → yM → Prop} {Y : yNx} {g : yM} {t h b z e : Int} (hY : yCl zpD198 (zpZ, zpRS, zpP12, zpMT, [yC_IDY, yC_WM, yC_ELO, yC_LTO], (4, 113), 1) K Y) (hq0 : 0 ≤ g 90 22 ∧ g 90 22 ≤ 40) (hq1 : 0 ≤ g 90 6 ∧ g 90 6 ≤ 12) (hq2 : ∀ n : Nat, (n : Int) < g 90 22 → (0 ≤ g 104 n ∧ g 104 n ≤ 5) ∧ g 102 n ≤ 719) (hK : ∀ (v : Int) (w8 : yV), ySu (fun i => g 101 i = t ∧ g 103 i = e ∧ 0 ≤ yMf g i) (fun i => yw (yMl g i - yMf g i)) 0 (Int.toNat (g 90 22)) v → Y 113 [(3, 90), (1, t), (1, h), (1, b), (1, z), (1, e), (1, v), (1, g 90 22), w8] [] g) : ∀ (n : Nat) (i : Int), i + n = g 90 22 → 0 ≤ i → ∀ (u : Int) (w8 : yV), ySu (fun i => g 101 i = t ∧ g 103 i = e ∧ 0 ≤ yMf g i) (fun i => yw (yMl g i - yMf g i)) 0 (Int.toNat i) u → Y 39 [(3, 90), (1, t), (1, h), (1, b), (1, z), (1, e), (1, u), (1, i), w8] [] g := by
  intro n
  induction n with
  | zero =>
    intro i hd h0 u w8 hu
    refine yrun_ok (sp := fun pc => Nat.beq pc 39 || Nat.beq pc 113) hY 35 39 _ [] g ?_
    show (((g 90 22) ≤ i → (Y 113 [(3, 90), (1, t), (1, h), (1, b), (1, z), (1, e), (1, u), (1, i), w8] [] g)) ∧ (¬ ((g 90 22) ≤ i) → (((0 : Int) ≤ i ∧ i < ((40 : Nat) : Int)) ∧ (((g 101 (Int.toNat i)) ≠ t → ((((-2) : Int) < 0 → (Y 39 [(3, 90), (1, t), (1, h), (1, b), (1, z), (1, e), (1, (yw (u + 0))), (1, (yw (i + 1))), (1, (-2))] [] g)) ∧ (¬ ((-2) : Int) < 0 → _))) ∧ (¬ ((g 101 (Int.toNat i)) ≠ t) → (((0 : Int) ≤ i ∧ i < ((40 : Nat) : Int)) ∧ (((g 103 (Int.toNat i)) ≠ e → ((((-2) : Int) < 0 → (Y 39 [(3, 90), (1, t), (1, h), (1, b), (1, z), (1, e), (1, (yw (u + 0))), (1, (yw (i + 1))), (1, (-2))] [] g)) ∧ (¬ ((-2) : Int) < 0 → _))) ∧ (¬ ((g 103 (Int.toNat i)) ≠ e) → (∃ (w6 : Int), [(3, 90), (1, i)] = [(3, 90), (1, w6)] ∧ (0 ≤ w6 ∧ w6 < 40) ∧ (0 ≤ g 90 22 ∧ g 90 22 ≤ 40) ∧ (0 ≤ g 90 6 ∧ g 90 6 ≤ 12) ∧ (0 ≤ g 104 (Int.toNat w6) ∧ g 104 (Int.toNat w6) ≤ 5) ∧ (g 102 (Int.toNat w6) ≤ 719) ∧ (∀ (r7 : Int), (r7 = yMf g (Int.toNat w6)) → ((r7 < 0 → (Y 39 [(3, 90), (1, t), (1, h), (1, b), (1, z), (1, e), (1, (yw (u + 0))), (1, (yw (i + 1))), (1, r7)] [] g)) ∧ (¬ (r7 < 0) → (∃ (w10 : Int), [(3, 90), (1, i)] = [(3, 90), (1, w10)] ∧ (0 ≤ w10 ∧ w10 < 40) ∧ (0 ≤ g 104 (Int.toNat w10) ∧ g 104 (Int.toNat w10) ≤ 5) ∧ (∀ (r11 : Int), (r11 = yMl g (Int.toNat w10)) → (Y 39 [(3, 90), (1, t), (1, h), (1, b), (1, z), (1, e), (1, (yw (u + (yw (r11 - r7))))), (1, (yw (i + 1))), (1, r7)] [] g)))))))))))))))
    refine ⟨fun h1 => ?_, fun h1 => ?_⟩
    · obtain rfl : i = g 90 22 := by omega
      exact hK u w8 hu
    · refine ⟨(by first | omega | (have hq := hq2 (Int.toNat i) (by omega); omega)), ?_⟩
      refine ⟨fun h2 => ?_, fun h2 => ?_⟩
      · refine ⟨fun _ => ?_, fun h3 => absurd (by decide) h3⟩
        omega
      · refine ⟨(by first | omega | (have hq := hq2 (Int.toNat i) (by omega); omega)), ?_⟩
        refine ⟨fun h4 => ?_, fun h4 => ?_⟩
        · refine ⟨fun _ => ?_, fun h5 => absurd (by decide) h5⟩
          omega
        · refine ⟨_, rfl, (by first | omega | (have hq := hq2 (Int.toNat i) (by omega); omega)), (by first | omega | (have hq := hq2 (Int.toNat i) (by omega); omega)), (by first | omega | (have hq := hq2 (Int.toNat i) (by omega); omega)), (by first | omega | (have hq := hq2 (Int.toNat i) (by omega); omega)), (by first | omega | (have hq := hq2 (Int.toNat i) (by omega); omega)), ?_⟩
          intro r7 p80
          refine ⟨fun h9 => ?_, fun h9 => ?_⟩
          · omega
          · refine ⟨_, rfl, (by first | omega | (have hq := hq2 (Int.toNat i) (by omega); omega)), (by first | omega | (have hq := hq2 (Int.toNat i) (by omega); omega)), ?_⟩
            intro r11 p120
            omega
  | succ n ih =>
    intro i hd h0 u w8 hu
    refine yrun_ok (sp := fun pc => Nat.beq pc 39 || Nat.beq pc 113) hY 35 39 _ [] g ?_
    show (((g 90 22) ≤ i → (Y 113 [(3, 90), (1, t), (1, h), (1, b), (1, z), (1, e), (1, u), (1, i), w8] [] g)) ∧ (¬ ((g 90 22) ≤ i) → (((0 : Int) ≤ i ∧ i < ((40 : Nat) : Int)) ∧ (((g 101 (Int.toNat i)) ≠ t → ((((-2) : Int) < 0 → (Y 39 [(3, 90), (1, t), (1, h), (1, b), (1, z), (1, e), (1, (yw (u + 0))), (1, (yw (i + 1))), (1, (-2))] [] g)) ∧ (¬ ((-2) : Int) < 0 → _))) ∧ (¬ ((g 101 (Int.toNat i)) ≠ t) → (((0 : Int) ≤ i ∧ i < ((40 : Nat) : Int)) ∧ (((g 103 (Int.toNat i)) ≠ e → ((((-2) : Int) < 0 → (Y 39 [(3, 90), (1, t), (1, h), (1, b), (1, z), (1, e), (1, (yw (u + 0))), (1, (yw (i + 1))), (1, (-2))] [] g)) ∧ (¬ ((-2) : Int) < 0 → _))) ∧ (¬ ((g 103 (Int.toNat i)) ≠ e) → (∃ (w6 : Int), [(3, 90), (1, i)] = [(3, 90), (1, w6)] ∧ (0 ≤ w6 ∧ w6 < 40) ∧ (0 ≤ g 90 22 ∧ g 90 22 ≤ 40) ∧ (0 ≤ g 90 6 ∧ g 90 6 ≤ 12) ∧ (0 ≤ g 104 (Int.toNat w6) ∧ g 104 (Int.toNat w6) ≤ 5) ∧ (g 102 (Int.toNat w6) ≤ 719) ∧ (∀ (r7 : Int), (r7 = yMf g (Int.toNat w6)) → ((r7 < 0 → (Y 39 [(3, 90), (1, t), (1, h), (1, b), (1, z), (1, e), (1, (yw (u + 0))), (1, (yw (i + 1))), (1, r7)] [] g)) ∧ (¬ (r7 < 0) → (∃ (w10 : Int), [(3, 90), (1, i)] = [(3, 90), (1, w10)] ∧ (0 ≤ w10 ∧ w10 < 40) ∧ (0 ≤ g 104 (Int.toNat w10) ∧ g 104 (Int.toNat w10) ≤ 5) ∧ (∀ (r11 : Int), (r11 = yMl g (Int.toNat w10)) → (Y 39 [(3, 90), (1, t), (1, h), (1, b), (1, z), (1, e), (1, (yw (u + (yw (r11 - r7))))), (1, (yw (i + 1))), (1, r7)] [] g)))))))))))))))
    refine ⟨fun h1 => ?_, fun h1 => ?_⟩
    · omega
    · refine ⟨(by first | omega | (have hq := hq2 (Int.toNat i) (by omega); omega)), ?_⟩
      refine ⟨fun h2 => ?_, fun h2 => ?_⟩
      · refine ⟨fun _ => ?_, fun h3 => absurd (by decide) h3⟩
        have yi : yw (i + 1) = i + 1 := yw_s (i + 1) (by omega) (by omega)
        rw [yi]
        refine ih (i + 1) (by omega) (by omega) _ (1, (-2)) ?_
        rw [show Int.toNat (i + 1) = Int.toNat i + 1 by omega]
        exact ySu_00 ⟨by decide, by decide⟩ hu (fun z => by have z1 := z.1; have z2 := z.2.1; have z3 := z.2.2; omega)
      · refine ⟨(by first | omega | (have hq := hq2 (Int.toNat i) (by omega); omega)), ?_⟩
        refine ⟨fun h4 => ?_, fun h4 => ?_⟩
        · refine ⟨fun _ => ?_, fun h5 => absurd (by decide) h5⟩
          have yi : yw (i + 1) = i + 1 := yw_s (i + 1) (by omega) (by omega)
          rw [yi]
          refine ih (i + 1) (by omega) (by omega) _ (1, (-2)) ?_
          rw [show Int.toNat (i + 1) = Int.toNat i + 1 by omega]
          exact ySu_00 ⟨by decide, by decide⟩ hu (fun z => by have z1 := z.1; have z2 := z.2.1; have z3 := z.2.2; omega)
        · refine ⟨_, rfl, (by first | omega | (have hq := hq2 (Int.toNat i) (by omega); omega)), (by first | omega | (have hq := hq2 (Int.toNat i) (by omega); omega)), (by first | omega | (have hq := hq2 (Int.toNat i) (by omega); omega)), (by first | omega | (have hq := hq2 (Int.toNat i) (by omega); omega)), (by first | omega | (have hq := hq2 (Int.toNat i) (by omega); omega)), ?_⟩
          intro r7 p80
          refine ⟨fun h9 => ?_, fun h9 => ?_⟩
          · have yi : yw (i + 1) = i + 1 := yw_s (i + 1) (by omega) (by omega)
            rw [yi]
            refine ih (i + 1) (by omega) (by omega) _ (1, r7) ?_
            rw [show Int.toNat (i + 1) = Int.toNat i + 1 by omega]
            exact ySu_00 ⟨by decide, by decide⟩ hu (fun z => by have z1 := z.1; have z2 := z.2.1; have z3 := z.2.2; omega)
          · refine ⟨_, rfl, (by first | omega | (have hq := hq2 (Int.toNat i) (by omega); omega)), (by first | omega | (have hq := hq2 (Int.toNat i) (by omega); omega)), ?_⟩
            intro r11 p120
            have yi : yw (i + 1) = i + 1 := yw_s (i + 1) (by omega) (by omega)
            rw [yi]
            refine ih (i + 1) (by omega) (by omega) _ (1, r7) ?_
            rw [show Int.toNat (i + 1) = Int.toNat i + 1 by omega]
            exact ySu_1 hu ⟨by omega, by omega, by omega⟩ (by
              show yw (yMl g _ - yMf g _) = _
              rw [p120, p80])
set_option maxRecDepth 8000 in
theorem yt_MSD {K : List yV → yM → Prop} {Y : yNx} {g : yM} {t h b z e u i e2 : Int} {y8 : yV} (hY : yCl zpD198 (zpZ, zpRS, zpP12, zpMT, [yC_IDY, yC_WM, yC_ELO, yC_LTO], (4, 113), 1) K Y) (hq1 : 0 ≤ e ∧ e < 4) (h2 : e2 = e + 1) (hE : Y 27 [(3, 90), (1, t), (1, h), (1, yDb b z e u), (1, ymx z u), (1, e2), (1, u), (1, i), y8] [] g) : Y 113 [(3, 90), (1, t), (1, h), (1, b), (1, z), (1, e), (1, u), (1, i), y8] [] g := by
  refine yrun_ok (sp := fun pc => Nat.beq pc 27) hY 10 113 _ [] g ?_
  show ((u ≤ z → (Y 27 [(3, 90), (1, t), (1, h), (1, b), (1, z), (1, (yw (e + 1))), (1, u), (1, i), y8] [] g)) ∧ (¬ (u ≤ z) → (Y 27 [(3, 90), (1, t), (1, h), (1, e), (1, u), (1, (yw (e + 1))), (1, u), (1, i), y8] [] g)))
  refine ⟨fun h1 => ?_, fun h1 => ?_⟩
  · have ye : yw (e + 1) = e + 1 := yw_s (e + 1) (by omega) (by omega)
    rw [ye]
    rw [h2, yDb_0 (by omega), ymx_0 (by omega)] at hE
    exact hE
  · have ye : yw (e + 1) = e + 1 := yw_s (e + 1) (by omega) (by omega)
    rw [ye]
    rw [h2, yDb_1 (by omega), ymx_1 (by omega)] at hE
    exact hE
set_option maxRecDepth 8000 in
theorem yo_MSD {K : List yV → yM → Prop} {Y : yNx} {g : yM} {t h b z e e2 : Int} (hY : yCl zpD198 (zpZ, zpRS, zpP12, zpMT, [yC_IDY, yC_WM, yC_ELO, yC_LTO], (4, 113), 1) K Y) (hq0 : 0 ≤ g 90 22 ∧ g 90 22 ≤ 40) (hq1 : 0 ≤ g 90 6 ∧ g 90 6 ≤ 12) (hq2 : ∀ n : Nat, (n : Int) < g 90 22 → (0 ≤ g 104 n ∧ g 104 n ≤ 5) ∧ g 102 n ≤ 719) (he : 0 ≤ e ∧ e < 4) (h2 : e2 = e + 1) (hE : ∀ s : Int, yUm g t e (Int.toNat (g 90 22)) s → ∀ w6 w7 w8 : yV, Y 27 [(3, 90), (1, t), (1, h), (1, yDb b z e s), (1, ymx z s), (1, e2), w6, w7, w8] [] g) : ∀ w6 w7 w8 : yV, Y 27 [(3, 90), (1, t), (1, h), (1, b), (1, z), (1, e), w6, w7, w8] [] g := by
  intro w6 w7 w8
  refine yrun_ok (sp := fun pc => Nat.beq pc 39) hY 8 27 _ [] g ?_
  show ((4 ≤ e → ((h ≠ 0 → (K [(1, z)] g)) ∧ (¬ (h ≠ 0) → (K [(1, b)] g)))) ∧ (¬ (4 ≤ e) → (Y 39 [(3, 90), (1, t), (1, h), (1, b), (1, z), (1, e), (1, 0), (1, 0), w8] [] g)))
  refine ⟨fun h1 => ?_, fun h1 => ?_⟩
  · refine ⟨fun h2 => ?_, fun h2 => ?_⟩
    · omega
    · omega
  · exact yl_MSDj hY hq0 hq1 hq2 (fun v _ hv => yt_MSD hY he h2 (hE v hv _ _ _)) (Int.toNat (g 90 22)) 0 (by omega) (by decide) 0 _ rfl
set_option maxRecDepth 8000 in
theorem yx_MSD {K : List yV → yM → Prop} {Y : yNx} {g : yM} {t h b z : Int} (hY : yCl zpD198 (zpZ, zpRS, zpP12, zpMT, [yC_IDY, yC_WM, yC_ELO, yC_LTO], (4, 113), 1) K Y) (hh : 0 ≤ h ∧ h ≤ 1) (hE : ∀ v : Int, (h = 0 → v = b) → (h = 1 → v = z) → K [(1, v)] g) {w6 w7 w8 : yV} : Y 27 [(3, 90), (1, t), (1, h), (1, b), (1, z), (1, 4), w6, w7, w8] [] g := by
  refine yrun_ok (sp := fun pc => false) hY 8 27 _ [] g ?_
  show ((4 ≤ (4 : Int) → ((h ≠ 0 → (K [(1, z)] g)) ∧ (¬ (h ≠ 0) → (K [(1, b)] g)))) ∧ (¬ 4 ≤ (4 : Int) → _))
  refine ⟨fun _ => ?_, fun h1 => absurd (by decide) h1⟩
  refine ⟨fun h2 => ?_, fun h2 => ?_⟩
  · exact hE _ (fun h => absurd h (by omega)) (fun _ => rfl)
  · exact hE _ (fun _ => rfl) (fun h => absurd h (by omega))
set_option maxRecDepth 8000 in
theorem yv_MSD {K : List yV → yM → Prop} {Y : yNx} {g : yM} {t h : Int} (hY : yCl zpD198 (zpZ, zpRS, zpP12, zpMT, [yC_IDY, yC_WM, yC_ELO, yC_LTO], (4, 113), 1) K Y) (hr_t : -2147483648 ≤ t ∧ t ≤ 2147483647) (hr_h : -2147483648 ≤ h ∧ h ≤ 2147483647) (hp0 : 0 ≤ g 90 22 ∧ g 90 22 ≤ 40) (hp1 : 0 ≤ g 90 6 ∧ g 90 6 ≤ 12) (hp2 : ∀ n : Nat, (n : Int) < g 90 22 → (0 ≤ g 104 n ∧ g 104 n ≤ 5) ∧ g 102 n ≤ 719) (hK : ∀ (r : Int), (¬ (0 ≤ t ∧ t ≤ 3 ∧ 0 ≤ h ∧ h ≤ 1) → r = -1) → ((0 ≤ t ∧ t ≤ 3 ∧ 0 ≤ h ∧ h ≤ 1) → ∃ s0 s1 s2 s3 : Int, yUm g t 0 (Int.toNat (g 90 22)) s0 ∧ yUm g t 1 (Int.toNat (g 90 22)) s1 ∧ yUm g t 2 (Int.toNat (g 90 22)) s2 ∧ yUm g t 3 (Int.toNat (g 90 22)) s3 ∧ (h = 0 → r = (yDb (yDb (yDb (yDb 0 (-1) 0 s0) (ymx (-1) s0) 1 s1) (ymx (ymx (-1) s0) s1) 2 s2) (ymx (ymx (ymx (-1) s0) s1) s2) 3 s3)) ∧ (h = 1 → r = (ymx (ymx (ymx (ymx (-1) s0) s1) s2) s3))) → K [(1, r)] g) : Y 0 [(3, 90), (1, t), (1, h), (0, 0), (0, 0), (0, 0), (0, 0), (0, 0), (0, 0)] [] g := by
  refine yrun_ok (sp := fun pc => Nat.beq pc 27) hY 16 0 _ [] g ?_
  show (∃ (d1 : Int), [(1, t)] = [(1, d1)] ∧ (∀ (r2 : Int), ((r2 = 1 ∧ 0 ≤ d1 ∧ d1 ≤ 3) ∨ (r2 = 0 ∧ (d1 < 0 ∨ 3 < d1))) → ((r2 = 0 → (K [(1, (-1))] g)) ∧ (¬ (r2 = 0) → (∃ (v5 a6 b7 : Int), [(2, h), (2, 0), (2, 1)] = [(2, v5), (2, a6), (2, b7)] ∧ (∀ (r8 : Int), ((r8 = 1 ∧ a6 ≤ v5 ∧ v5 ≤ b7) ∨ (r8 = 0 ∧ (v5 < a6 ∨ b7 < v5))) → ((r8 ≠ 0 → (Y 27 [(3, 90), (1, t), (1, h), (1, 0), (1, (-1)), (1, 0), (0, 0), (0, 0), (0, 0)] [] g)) ∧ (¬ (r8 ≠ 0) → (K [(1, (-1))] g)))))))))
  refine ⟨_, rfl, ?_⟩
  intro r2 p30
  refine ⟨fun h4 => ?_, fun h4 => ?_⟩
  · exact hK _ (fun _ => rfl) (fun h => absurd h (by omega))
  · refine ⟨_, _, _, rfl, ?_⟩
    intro r8 p90
    refine ⟨fun h10 => ?_, fun h10 => ?_⟩
    · have ok : (0 ≤ t ∧ t ≤ 3 ∧ 0 ≤ h ∧ h ≤ 1) := by omega
      refine yo_MSD (e := 0) (e2 := 1) hY hp0 hp1 hp2 (by decide) (by decide) (fun s0 u0 => ?_) _ _ _
      intro _ _ _
      refine yo_MSD (e := 1) (e2 := 2) hY hp0 hp1 hp2 (by decide) (by decide) (fun s1 u1 => ?_) _ _ _
      intro _ _ _
      refine yo_MSD (e := 2) (e2 := 3) hY hp0 hp1 hp2 (by decide) (by decide) (fun s2 u2 => ?_) _ _ _
      intro _ _ _
      refine yo_MSD (e := 3) (e2 := 4) hY hp0 hp1 hp2 (by decide) (by decide) (fun s3 u3 => ?_) _ _ _
      intro _ _ _
      exact yx_MSD hY ⟨by omega, by omega⟩ (fun v h1 h2 => hK v (fun h => absurd ok h) (fun _ => ⟨s0, s1, s2, s3, u0, u1, u2, u3, h1, h2⟩))
    · exact hK _ (fun _ => rfl) (fun h => absurd h (by omega))
theorem yM_MSD {l : Launch} {Ts : List Cond} {cl : List vw_C} {RO : zRO} (H : zHyp Ts cl RO) : yMet l Ts cl zpZ RO zpMT yC_MSD := ymet_of2 H.1 H.2.1 zpDj H.2.2.1 yRb H.p12 (ymets_cons (yM_IDY H) (ymets_cons (yM_WM H) (ymets_cons (yM_ELO H) (ymets_cons (yM_LTO H) ymets_nil)))) (zrc1 rfl) (plainFor_of_name zpy12) zpDk198 (fun as g K Y h hA hY => by
  obtain ⟨t, h, rfl, hp0, hp1, hp2, hK⟩ := h
  exact yv_MSD hY (yAr1 hA (by simp)) (yAr1 hA (by simp)) hp0 hp1 hp2 hK)
theorem ySu_pos {P : Nat → Prop} {d : Nat → Int} : ∀ (n : Nat) (v : Int), n ≤ 40 → (∀ i : Nat, i < n → P i → 0 ≤ d i ∧ d i ≤ 719) → ySu P d 0 n v → 0 ≤ v ∧ v ≤ 719 * n
  | 0, v, _, _, h => by
    have h : v = 0 := h
    omega
  | n + 1, v, hn, hd, h => by
    obtain ⟨u, h1, h2⟩ := h
    have ih := ySu_pos n u (by omega) (fun i hi => hd i (by omega)) h1
    rcases h2 with ⟨p, rfl⟩ | ⟨p, rfl⟩
    · have q := hd n (by omega) p
      rw [yw_s (u + d n) (by omega) (by omega)]
      omega
    · omega
