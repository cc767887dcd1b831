/-! CHANGES OF THE CLASS -/
def yP_HC : yPT := fun as g K => ∃ (w : Int), as = [(3, 1), (1, w)] ∧ (∀ (r : Int), ((r = 1 ∧ 0 ≤ w ∧ w < g 1 1) ∨ (r = 0 ∧ (w < 0 ∨ g 1 1 ≤ w))) → K [(1, r)] g)
def yC_HC : yC := (122, (2, 61), yP_HC)
set_option maxRecDepth 8000 in
theorem yv_HC {K : List yV → yM → Prop} {Y : yNx} {g : yM} {w : Int} (hY : yCl zpD122 (zpZ, zpRS, zpP11, zpMT, [yC_W], (2, 61), 2) K Y) (hr_w : -2147483648 ≤ w ∧ w ≤ 2147483647) (hK : ∀ (r : Int), ((r = 1 ∧ 0 ≤ w ∧ w < g 1 1) ∨ (r = 0 ∧ (w < 0 ∨ g 1 1 ≤ w))) → K [(1, r)] g) : Y 0 [(3, 1), (1, w)] [] g := by
  refine yrun_ok (sp := fun pc => false) hY 5 0 _ [] g ?_
  show (∃ (v1 b2 : Int), [(1, w), (1, (g 1 1))] = [(1, v1), (1, b2)] ∧ (∀ (r3 : Int), ((r3 = 1 ∧ 0 ≤ v1 ∧ v1 < b2) ∨ (r3 = 0 ∧ (v1 < 0 ∨ b2 ≤ v1))) → (((0 : Int) ≤ r3 ∧ r3 ≤ (1 : Int)) ∧ (K [(1, r3)] g))))
  refine ⟨_, _, rfl, ?_⟩
  intro r3 p40
  refine ⟨(by omega), ?_⟩
  exact hK _ (by first | omega | exact fun _ => rfl | exact fun h => absurd h (by omega) | exact rfl | exact fun _ _ => rfl | exact fun h _ => absurd h (by omega) | exact fun _ h => absurd h (by omega))
theorem yM_HC {l : Launch} {Ts : List Cond} {cl : List vw_C} {RO : zRO} (H : zHyp Ts cl RO) : yMet l Ts cl zpZ RO zpMT yC_HC := ymet_of2 H.1 H.2.1 zpDj H.2.2.1 yRb H.p11 (ymets_cons (yM_W H) ymets_nil) (zrc2 rfl) (plainFor_of_name zpy11) zpDk122 (fun as g K Y h hA hY => by
  obtain ⟨w, rfl, hK⟩ := h
  exact yv_HC hY (yAr1 hA (by simp)) hK)
def yP_NO : yPT := fun as g K => ∃ (k o : Int), as = [(3, 1), (1, k), (1, o)] ∧ (yok g k o) ∧ (∀ (r : Int), (r = ykv g k o) → K [(1, r)] g)
def yC_NO : yC := (126, (3, 82), yP_NO)
set_option maxRecDepth 8000 in
theorem yv_NO {K : List yV → yM → Prop} {Y : yNx} {g : yM} {k o : Int} (hY : yCl zpD126 (zpZ, zpRS, zpP11, zpMT, [yC_HC, yC_W], (3, 82), 1) K Y) (hr_k : -2147483648 ≤ k ∧ k ≤ 2147483647) (hr_o : -2147483648 ≤ o ∧ o ≤ 2147483647) (hp0 : yok g k o) (hK : ∀ (r : Int), (r = ykv g k o) → K [(1, r)] g) : Y 0 [(3, 1), (1, k), (1, o)] [] g := by
  refine yrun_ok (sp := fun pc => false) hY 13 0 _ [] g ?_
  show (((3 : Nat) : Int) = (2 : Int) - 0 + 1 ∧ (k < 0 ∨ 2 < k → (K [(1, (g 1 9))] g)) ∧ (k = 0 → (∃ (w2 : Int), [(3, 1), (1, o)] = [(3, 1), (1, w2)] ∧ (∀ (r3 : Int), ((r3 = 1 ∧ 0 ≤ w2 ∧ w2 < g 1 1) ∨ (r3 = 0 ∧ (w2 < 0 ∨ g 1 1 ≤ w2))) → ((r3 = 0 → (K [(1, 0)] g)) ∧ (¬ (r3 = 0) → (((0 : Int) ≤ o ∧ o < ((40 : Nat) : Int)) ∧ (K [(1, (g (50 + Int.toNat o) 1))] g))))))) ∧ (k = 0 + 1 → (∃ (v6 b7 : Int), [(1, o), (1, 6)] = [(1, v6), (1, b7)] ∧ (∀ (r8 : Int), ((r8 = 1 ∧ 0 ≤ v6 ∧ v6 < b7) ∨ (r8 = 0 ∧ (v6 < 0 ∨ b7 ≤ v6))) → ((r8 = 0 → (K [(1, 0)] g)) ∧ (¬ (r8 = 0) → (((0 : Int) ≤ o ∧ o < ((6 : Nat) : Int)) ∧ (K [(1, (g 13 (Int.toNat o)))] g))))))) ∧ (k = 0 + 1 + 1 → (∃ (v11 b12 : Int), [(1, o), (1, 6)] = [(1, v11), (1, b12)] ∧ (∀ (r13 : Int), ((r13 = 1 ∧ 0 ≤ v11 ∧ v11 < b12) ∨ (r13 = 0 ∧ (v11 < 0 ∨ b12 ≤ v11))) → ((r13 = 0 → (K [(1, 0)] g)) ∧ (¬ (r13 = 0) → (((0 : Int) ≤ o ∧ o < ((6 : Nat) : Int)) ∧ (K [(1, (g 14 (Int.toNat o)))] g))))))) ∧ True)
  refine ⟨by decide, fun h1 => ?_, fun h1 => ?_, fun h1 => ?_, fun h1 => ?_, trivial⟩
  · unfold yok at hp0
    obtain rfl : k = 3 := by omega
    exact hK _ (ykv_3 g o).symm
  · refine ⟨_, rfl, ?_⟩
    intro r3 p40
    refine ⟨fun h5 => ?_, fun h5 => ?_⟩
    · unfold yok at hp0
      omega
    · refine ⟨(by unfold yok at hp0; omega), ?_⟩
      unfold yok at hp0
      obtain rfl : k = 0 := by omega
      exact hK _ (ykv_0 g o).symm
  · refine ⟨_, _, rfl, ?_⟩
    intro r8 p90
    refine ⟨fun h10 => ?_, fun h10 => ?_⟩
    · unfold yok at hp0
      omega
    · refine ⟨(by unfold yok at hp0; omega), ?_⟩
      unfold yok at hp0
      obtain rfl : k = 1 := by omega
      exact hK _ (ykv_1 g o).symm
  · refine ⟨_, _, rfl, ?_⟩
    intro r13 p140
    refine ⟨fun h15 => ?_, fun h15 => ?_⟩
    · unfold yok at hp0
      omega
    · refine ⟨(by unfold yok at hp0; omega), ?_⟩
      unfold yok at hp0
      obtain rfl : k = 2 := by omega
      exact hK _ (ykv_2 g o).symm
theorem yM_NO {l : Launch} {Ts : List Cond} {cl : List vw_C} {RO : zRO} (H : zHyp Ts cl RO) : yMet l Ts cl zpZ RO zpMT yC_NO := ymet_of2 H.1 H.2.1 zpDj H.2.2.1 yRb H.p11 (ymets_cons (yM_HC H) (ymets_cons (yM_W H) ymets_nil)) (zrc1 rfl) (plainFor_of_name zpy11) zpDk126 (fun as g K Y h hA hY => by
  obtain ⟨k, o, rfl, hp0, hK⟩ := h
  exact yv_NO hY (yAr1 hA (by simp)) (yAr1 hA (by simp)) hp0 hK)
def yP_BC : yPT := fun as g K => ∃ (k o v : Int), as = [(3, 1), (1, k), (1, o), (1, v)] ∧ (yTy zpZ g) ∧ (-2147483648 ≤ v ∧ v ≤ 2147483647) ∧ (yok g k o) ∧ (∀ (g' : yM), (yTy zpZ g') → (yWz (ysv g k o v) g') → K [] g')
def yC_BC : yC := (121, (4, 110), yP_BC)
set_option maxRecDepth 8000 in
theorem yv_BC {K : List yV → yM → Prop} {Y : yNx} {g : yM} {k o v : Int} (hY : yCl zpD121 (zpZ, zpRS, zpP11, zpMT, [yC_HC, yC_W, yC_SE], (4, 110), 0) K Y) (hr_k : -2147483648 ≤ k ∧ k ≤ 2147483647) (hr_o : -2147483648 ≤ o ∧ o ≤ 2147483647) (hr_v : -2147483648 ≤ v ∧ v ≤ 2147483647) (hp0 : yTy zpZ g) (hp1 : -2147483648 ≤ v ∧ v ≤ 2147483647) (hp2 : yok g k o) (hK : ∀ (g' : yM), (yTy zpZ g') → (yWz (ysv g k o v) g') → K [] g') : Y 0 [(3, 1), (1, k), (1, o), (1, v)] [] g := by
  refine yrun_ok (sp := fun pc => false) hY 29 0 _ [] g ?_
  show ((k ≠ 0 → ((k ≠ 1 → ((k ≠ 2 → ((k ≠ 3 → ([(3, 1)] = [(3, 1)] ∧ (yTy zpZ g) ∧ (∀ (g5 : yM), (yTy zpZ g5) → (yWz g g5) → (K [] g5)))) ∧ (¬ (k ≠ 3) → ([(3, 1)] = [(3, 1)] ∧ (yTy zpZ (yset g 1 9 v)) ∧ (∀ (g7 : yM), (yTy zpZ g7) → (yWz (yset g 1 9 v) g7) → (K [] g7)))))) ∧ (¬ (k ≠ 2) → (∃ (v9 b10 : Int), [(1, o), (1, 6)] = [(1, v9), (1, b10)] ∧ (∀ (r11 : Int), ((r11 = 1 ∧ 0 ≤ v9 ∧ v9 < b10) ∨ (r11 = 0 ∧ (v9 < 0 ∨ b10 ≤ v9))) → ((r11 = 0 → ((k ≠ 3 → ([(3, 1)] = [(3, 1)] ∧ (yTy zpZ g) ∧ (∀ (g15 : yM), (yTy zpZ g15) → (yWz g g15) → (K [] g15)))) ∧ (¬ (k ≠ 3) → ([(3, 1)] = [(3, 1)] ∧ (yTy zpZ (yset g 1 9 v)) ∧ (∀ (g17 : yM), (yTy zpZ g17) → (yWz (yset g 1 9 v) g17) → (K [] g17)))))) ∧ (¬ (r11 = 0) → (((0 : Int) ≤ o ∧ o < ((6 : Nat) : Int)) ∧ ([(3, 1)] = [(3, 1)] ∧ (yTy zpZ (yset g 14 (Int.toNat o) v)) ∧ (∀ (g19 : yM), (yTy zpZ g19) → (yWz (yset g 14 (Int.toNat o) v) g19) → (K [] g19))))))))))) ∧ (¬ (k ≠ 1) → (∃ (v21 b22 : Int), [(1, o), (1, 6)] = [(1, v21), (1, b22)] ∧ (∀ (r23 : Int), ((r23 = 1 ∧ 0 ≤ v21 ∧ v21 < b22) ∨ (r23 = 0 ∧ (v21 < 0 ∨ b22 ≤ v21))) → ((r23 = 0 → ((k ≠ 2 → ((k ≠ 3 → ([(3, 1)] = [(3, 1)] ∧ (yTy zpZ g) ∧ (∀ (g28 : yM), (yTy zpZ g28) → (yWz g g28) → (K [] g28)))) ∧ (¬ (k ≠ 3) → ([(3, 1)] = [(3, 1)] ∧ (yTy zpZ (yset g 1 9 v)) ∧ (∀ (g30 : yM), (yTy zpZ g30) → (yWz (yset g 1 9 v) g30) → (K [] g30)))))) ∧ (¬ (k ≠ 2) → (∃ (v32 b33 : Int), [(1, o), (1, 6)] = [(1, v32), (1, b33)] ∧ (∀ (r34 : Int), ((r34 = 1 ∧ 0 ≤ v32 ∧ v32 < b33) ∨ (r34 = 0 ∧ (v32 < 0 ∨ b33 ≤ v32))) → ((r34 = 0 → ((k ≠ 3 → ([(3, 1)] = [(3, 1)] ∧ (yTy zpZ g) ∧ (∀ (g38 : yM), (yTy zpZ g38) → (yWz g g38) → (K [] g38)))) ∧ (¬ (k ≠ 3) → ([(3, 1)] = [(3, 1)] ∧ (yTy zpZ (yset g 1 9 v)) ∧ (∀ (g40 : yM), (yTy zpZ g40) → (yWz (yset g 1 9 v) g40) → (K [] g40)))))) ∧ (¬ (r34 = 0) → (((0 : Int) ≤ o ∧ o < ((6 : Nat) : Int)) ∧ ([(3, 1)] = [(3, 1)] ∧ (yTy zpZ (yset g 14 (Int.toNat o) v)) ∧ (∀ (g42 : yM), (yTy zpZ g42) → (yWz (yset g 14 (Int.toNat o) v) g42) → (K [] g42))))))))))) ∧ (¬ (r23 = 0) → (((0 : Int) ≤ o ∧ o < ((6 : Nat) : Int)) ∧ ([(3, 1)] = [(3, 1)] ∧ (yTy zpZ (yset g 13 (Int.toNat o) v)) ∧ (∀ (g44 : yM), (yTy zpZ g44) → (yWz (yset g 13 (Int.toNat o) v) g44) → (K [] g44))))))))))) ∧ (¬ (k ≠ 0) → (∃ (w46 : Int), [(3, 1), (1, o)] = [(3, 1), (1, w46)] ∧ (∀ (r47 : Int), ((r47 = 1 ∧ 0 ≤ w46 ∧ w46 < g 1 1) ∨ (r47 = 0 ∧ (w46 < 0 ∨ g 1 1 ≤ w46))) → ((r47 = 0 → ((k ≠ 1 → ((k ≠ 2 → ((k ≠ 3 → ([(3, 1)] = [(3, 1)] ∧ (yTy zpZ g) ∧ (∀ (g53 : yM), (yTy zpZ g53) → (yWz g g53) → (K [] g53)))) ∧ (¬ (k ≠ 3) → ([(3, 1)] = [(3, 1)] ∧ (yTy zpZ (yset g 1 9 v)) ∧ (∀ (g55 : yM), (yTy zpZ g55) → (yWz (yset g 1 9 v) g55) → (K [] g55)))))) ∧ (¬ (k ≠ 2) → (∃ (v57 b58 : Int), [(1, o), (1, 6)] = [(1, v57), (1, b58)] ∧ (∀ (r59 : Int), ((r59 = 1 ∧ 0 ≤ v57 ∧ v57 < b58) ∨ (r59 = 0 ∧ (v57 < 0 ∨ b58 ≤ v57))) → ((r59 = 0 → ((k ≠ 3 → ([(3, 1)] = [(3, 1)] ∧ (yTy zpZ g) ∧ (∀ (g63 : yM), (yTy zpZ g63) → (yWz g g63) → (K [] g63)))) ∧ (¬ (k ≠ 3) → ([(3, 1)] = [(3, 1)] ∧ (yTy zpZ (yset g 1 9 v)) ∧ (∀ (g65 : yM), (yTy zpZ g65) → (yWz (yset g 1 9 v) g65) → (K [] g65)))))) ∧ (¬ (r59 = 0) → (((0 : Int) ≤ o ∧ o < ((6 : Nat) : Int)) ∧ ([(3, 1)] = [(3, 1)] ∧ (yTy zpZ (yset g 14 (Int.toNat o) v)) ∧ (∀ (g67 : yM), (yTy zpZ g67) → (yWz (yset g 14 (Int.toNat o) v) g67) → (K [] g67))))))))))) ∧ (¬ (k ≠ 1) → (∃ (v69 b70 : Int), [(1, o), (1, 6)] = [(1, v69), (1, b70)] ∧ (∀ (r71 : Int), ((r71 = 1 ∧ 0 ≤ v69 ∧ v69 < b70) ∨ (r71 = 0 ∧ (v69 < 0 ∨ b70 ≤ v69))) → ((r71 = 0 → ((k ≠ 2 → ((k ≠ 3 → ([(3, 1)] = [(3, 1)] ∧ (yTy zpZ g) ∧ (∀ (g76 : yM), (yTy zpZ g76) → (yWz g g76) → (K [] g76)))) ∧ (¬ (k ≠ 3) → ([(3, 1)] = [(3, 1)] ∧ (yTy zpZ (yset g 1 9 v)) ∧ (∀ (g78 : yM), (yTy zpZ g78) → (yWz (yset g 1 9 v) g78) → (K [] g78)))))) ∧ (¬ (k ≠ 2) → (∃ (v80 b81 : Int), [(1, o), (1, 6)] = [(1, v80), (1, b81)] ∧ (∀ (r82 : Int), ((r82 = 1 ∧ 0 ≤ v80 ∧ v80 < b81) ∨ (r82 = 0 ∧ (v80 < 0 ∨ b81 ≤ v80))) → ((r82 = 0 → ((k ≠ 3 → ([(3, 1)] = [(3, 1)] ∧ (yTy zpZ g) ∧ (∀ (g86 : yM), (yTy zpZ g86) → (yWz g g86) → (K [] g86)))) ∧ (¬ (k ≠ 3) → ([(3, 1)] = [(3, 1)] ∧ (yTy zpZ (yset g 1 9 v)) ∧ (∀ (g88 : yM), (yTy zpZ g88) → (yWz (yset g 1 9 v) g88) → (K [] g88)))))) ∧ (¬ (r82 = 0) → (((0 : Int) ≤ o ∧ o < ((6 : Nat) : Int)) ∧ ([(3, 1)] = [(3, 1)] ∧ (yTy zpZ (yset g 14 (Int.toNat o) v)) ∧ (∀ (g90 : yM), (yTy zpZ g90) → (yWz (yset g 14 (Int.toNat o) v) g90) → (K [] g90))))))))))) ∧ (¬ (r71 = 0) → (((0 : Int) ≤ o ∧ o < ((6 : Nat) : Int)) ∧ ([(3, 1)] = [(3, 1)] ∧ (yTy zpZ (yset g 13 (Int.toNat o) v)) ∧ (∀ (g92 : yM), (yTy zpZ g92) → (yWz (yset g 13 (Int.toNat o) v) g92) → (K [] g92))))))))))) ∧ (¬ (r47 = 0) → (((0 : Int) ≤ o ∧ o < ((40 : Nat) : Int)) ∧ ([(3, 1)] = [(3, 1)] ∧ (yTy zpZ (yset g (50 + Int.toNat o) 1 v)) ∧ (∀ (g94 : yM), (yTy zpZ g94) → (yWz (yset g (50 + Int.toNat o) 1 v) g94) → (K [] g94))))))))))
  refine ⟨fun h1 => ?_, fun h1 => ?_⟩
  · refine ⟨fun h2 => ?_, fun h2 => ?_⟩
    · refine ⟨fun h3 => ?_, fun h3 => ?_⟩
      · refine ⟨fun h4 => ?_, fun h4 => ?_⟩
        · refine ⟨rfl, (hp0), ?_⟩
          intro g5 p60 p61
          unfold yok at hp2
          omega
        · refine ⟨rfl, (by have hp3 := hp2; unfold yok at hp2; obtain rfl : k = 3 := (by omega); have e := ysv_ty hp3 hp1 hp0; rw [ysv_3] at e; exact e), ?_⟩
          intro g7 p80 p81
          unfold yok at hp2
          obtain rfl : k = 3 := by omega
          exact hK _ p80 (by rw [ysv_3]; exact p81)
      · refine ⟨_, _, rfl, ?_⟩
        intro r11 p120
        refine ⟨fun h13 => ?_, fun h13 => ?_⟩
        · refine ⟨fun h14 => ?_, fun h14 => ?_⟩
          · refine ⟨rfl, (hp0), ?_⟩
            intro g15 p160 p161
            unfold yok at hp2
            omega
          · refine ⟨rfl, (by have hp3 := hp2; unfold yok at hp2; obtain rfl : k = 3 := (by omega); have e := ysv_ty hp3 hp1 hp0; rw [ysv_3] at e; exact e), ?_⟩
            intro g17 p180 p181
            unfold yok at hp2
            obtain rfl : k = 3 := by omega
            exact hK _ p180 (by rw [ysv_3]; exact p181)
        · refine ⟨(by unfold yok at hp2; omega), ?_⟩
          refine ⟨rfl, (by have hp3 := hp2; unfold yok at hp2; obtain rfl : k = 2 := (by omega); have e := ysv_ty hp3 hp1 hp0; rw [ysv_2] at e; exact e), ?_⟩
          intro g19 p200 p201
          unfold yok at hp2
          obtain rfl : k = 2 := by omega
          exact hK _ p200 (by rw [ysv_2]; exact p201)
    · refine ⟨_, _, rfl, ?_⟩
      intro r23 p240
      refine ⟨fun h25 => ?_, fun h25 => ?_⟩
      · refine ⟨fun h26 => ?_, fun h26 => ?_⟩
        · refine ⟨fun h27 => ?_, fun h27 => ?_⟩
          · refine ⟨rfl, (hp0), ?_⟩
            intro g28 p290 p291
            unfold yok at hp2
            omega
          · refine ⟨rfl, (by have hp3 := hp2; unfold yok at hp2; obtain rfl : k = 3 := (by omega); have e := ysv_ty hp3 hp1 hp0; rw [ysv_3] at e; exact e), ?_⟩
            intro g30 p310 p311
            unfold yok at hp2
            obtain rfl : k = 3 := by omega
            exact hK _ p310 (by rw [ysv_3]; exact p311)
        · refine ⟨_, _, rfl, ?_⟩
          intro r34 p350
          refine ⟨fun h36 => ?_, fun h36 => ?_⟩
          · refine ⟨fun h37 => ?_, fun h37 => ?_⟩
            · refine ⟨rfl, (hp0), ?_⟩
              intro g38 p390 p391
              unfold yok at hp2
              omega
            · refine ⟨rfl, (by have hp3 := hp2; unfold yok at hp2; obtain rfl : k = 3 := (by omega); have e := ysv_ty hp3 hp1 hp0; rw [ysv_3] at e; exact e), ?_⟩
              intro g40 p410 p411
              unfold yok at hp2
              obtain rfl : k = 3 := by omega
              exact hK _ p410 (by rw [ysv_3]; exact p411)
          · refine ⟨(by unfold yok at hp2; omega), ?_⟩
            refine ⟨rfl, (by have hp3 := hp2; unfold yok at hp2; obtain rfl : k = 2 := (by omega); have e := ysv_ty hp3 hp1 hp0; rw [ysv_2] at e; exact e), ?_⟩
            intro g42 p430 p431
            unfold yok at hp2
            obtain rfl : k = 2 := by omega
            exact hK _ p430 (by rw [ysv_2]; exact p431)
      · refine ⟨(by unfold yok at hp2; omega), ?_⟩
        refine ⟨rfl, (by have hp3 := hp2; unfold yok at hp2; obtain rfl : k = 1 := (by omega); have e := ysv_ty hp3 hp1 hp0; rw [ysv_1] at e; exact e), ?_⟩
        intro g44 p450 p451
        unfold yok at hp2
        obtain rfl : k = 1 := by omega
        exact hK _ p450 (by rw [ysv_1]; exact p451)
  · refine ⟨_, rfl, ?_⟩
    intro r47 p480
    refine ⟨fun h49 => ?_, fun h49 => ?_⟩
    · refine ⟨fun h50 => ?_, fun h50 => ?_⟩
      · refine ⟨fun h51 => ?_, fun h51 => ?_⟩
        · refine ⟨fun h52 => ?_, fun h52 => ?_⟩
          · refine ⟨rfl, (hp0), ?_⟩
            intro g53 p540 p541
            unfold yok at hp2
            omega
          · refine ⟨rfl, (by have hp3 := hp2; unfold yok at hp2; obtain rfl : k = 3 := (by omega); have e := ysv_ty hp3 hp1 hp0; rw [ysv_3] at e; exact e), ?_⟩
            intro g55 p560 p561
            unfold yok at hp2
            obtain rfl : k = 3 := by omega
            exact hK _ p560 (by rw [ysv_3]; exact p561)
        · refine ⟨_, _, rfl, ?_⟩
          intro r59 p600
          refine ⟨fun h61 => ?_, fun h61 => ?_⟩
          · refine ⟨fun h62 => ?_, fun h62 => ?_⟩
            · refine ⟨rfl, (hp0), ?_⟩
              intro g63 p640 p641
              unfold yok at hp2
              omega
            · refine ⟨rfl, (by have hp3 := hp2; unfold yok at hp2; obtain rfl : k = 3 := (by omega); have e := ysv_ty hp3 hp1 hp0; rw [ysv_3] at e; exact e), ?_⟩
              intro g65 p660 p661
              unfold yok at hp2
              obtain rfl : k = 3 := by omega
              exact hK _ p660 (by rw [ysv_3]; exact p661)
          · refine ⟨(by unfold yok at hp2; omega), ?_⟩
            refine ⟨rfl, (by have hp3 := hp2; unfold yok at hp2; obtain rfl : k = 2 := (by omega); have e := ysv_ty hp3 hp1 hp0; rw [ysv_2] at e; exact e), ?_⟩
            intro g67 p680 p681
            unfold yok at hp2
            obtain rfl : k = 2 := by omega
            exact hK _ p680 (by rw [ysv_2]; exact p681)
      · refine ⟨_, _, rfl, ?_⟩
        intro r71 p720
        refine ⟨fun h73 => ?_, fun h73 => ?_⟩
        · refine ⟨fun h74 => ?_, fun h74 => ?_⟩
          · refine ⟨fun h75 => ?_, fun h75 => ?_⟩
            · refine ⟨rfl, (hp0), ?_⟩
              intro g76 p770 p771
              unfold yok at hp2
              omega
            · refine ⟨rfl, (by have hp3 := hp2; unfold yok at hp2; obtain rfl : k = 3 := (by omega); have e := ysv_ty hp3 hp1 hp0; rw [ysv_3] at e; exact e), ?_⟩
              intro g78 p790 p791
              unfold yok at hp2
              obtain rfl : k = 3 := by omega
              exact hK _ p790 (by rw [ysv_3]; exact p791)
          · refine ⟨_, _, rfl, ?_⟩
            intro r82 p830
            refine ⟨fun h84 => ?_, fun h84 => ?_⟩
            · refine ⟨fun h85 => ?_, fun h85 => ?_⟩
              · refine ⟨rfl, (hp0), ?_⟩
                intro g86 p870 p871
                unfold yok at hp2
                omega
              · refine ⟨rfl, (by have hp3 := hp2; unfold yok at hp2; obtain rfl : k = 3 := (by omega); have e := ysv_ty hp3 hp1 hp0; rw [ysv_3] at e; exact e), ?_⟩
                intro g88 p890 p891
                unfold yok at hp2
                obtain rfl : k = 3 := by omega
                exact hK _ p890 (by rw [ysv_3]; exact p891)
            · refine ⟨(by unfold yok at hp2; omega), ?_⟩
              refine ⟨rfl, (by have hp3 := hp2; unfold yok at hp2; obtain rfl : k = 2 := (by omega); have e := ysv_ty hp3 hp1 hp0; rw [ysv_2] at e; exact e), ?_⟩
              intro g90 p910 p911
              unfold yok at hp2
              obtain rfl : k = 2 := by omega
              exact hK _ p910 (by rw [ysv_2]; exact p911)
        · refine ⟨(by unfold yok at hp2; omega), ?_⟩
          refine ⟨rfl, (by have hp3 := hp2; unfold yok at hp2; obtain rfl : k = 1 := (by omega); have e := ysv_ty hp3 hp1 hp0; rw [ysv_1] at e; exact e), ?_⟩
          intro g92 p930 p931
          unfold yok at hp2
          obtain rfl : k = 1 := by omega
          exact hK _ p930 (by rw [ysv_1]; exact p931)
    · refine ⟨(by unfold yok at hp2; omega), ?_⟩
      refine ⟨rfl, (by have hp3 := hp2; unfold yok at hp2; obtain rfl : k = 0 := (by omega); have e := ysv_ty hp3 hp1 hp0; rw [ysv_0] at e; exact e), ?_⟩
      intro g94 p950 p951
      unfold yok at hp2
      obtain rfl : k = 0 := by omega
      exact hK _ p950 (by rw [ysv_0]; exact p951)
theorem yM_BC {l : Launch} {Ts : List Cond} {cl : List vw_C} {RO : zRO} (H : zHyp Ts cl RO) : yMet l Ts cl zpZ RO zpMT yC_BC := ymet_of2 H.1 H.2.1 zpDj H.2.2.1 yRb H.p11 (ymets_cons (yM_HC H) (ymets_cons (yM_W H) (ymets_cons (yM_SE H) ymets_nil))) (zrc0 rfl) (plainFor_of_name zpy11) zpDk121 (fun as g K Y h hA hY => by
  obtain ⟨k, o, v, rfl, hp0, hp1, hp2, hK⟩ := h
  exact yv_BC hY (yAr1 hA (by simp)) (yAr1 hA (by simp)) (yAr1 hA (by simp)) hp0 hp1 hp2 hK)
def ydrp (g : yM) : yM := ycpy (ycpy (ycpy (ycpy (yset g 4 5 39) 19 19 1 0 39) 20 20 1 0 39) 21 21 1 0 39) 22 22 1 0 39
theorem ydrp_nc {g : yM} {a b : Nat} (h : ¬ (19 ≤ a ∧ a ≤ 22) ∧ ¬ (a = 4 ∧ b = 5)) : ydrp g a b = g a b := by
  unfold ydrp
  rw [ycpy_ap, if_neg (fun z => by omega), ycpy_ap, if_neg (fun z => by omega), ycpy_ap, if_neg (fun z => by omega), ycpy_ap, if_neg (fun z => by omega), yset_ne (fun z => by omega)]
theorem ydrp_45 (g : yM) : ydrp g 4 5 = 39 := by
  unfold ydrp
  rw [ycpy_ap, if_neg (fun z => by omega), ycpy_ap, if_neg (fun z => by omega), ycpy_ap, if_neg (fun z => by omega), ycpy_ap, if_neg (fun z => by omega), yset_eq]
theorem ydrp_in {g : yM} {a b : Nat} (h : 19 ≤ a ∧ a ≤ 22) (hb : b < 39) : ydrp g a b = g a (b + 1) := by
  unfold ydrp
  have ha : a = 19 ∨ a = 20 ∨ a = 21 ∨ a = 22 := by omega
  rcases ha with rfl | rfl | rfl | rfl
  · rw [ycpy_ap, if_neg (fun z => by omega), ycpy_ap, if_neg (fun z => by omega), ycpy_ap, if_neg (fun z => by omega), ycpy_ap, if_pos (by omega), yset_ne (fun z => by omega), show 1 + (b - 0) = b + 1 by omega]
  · rw [ycpy_ap, if_neg (fun z => by omega), ycpy_ap, if_neg (fun z => by omega), ycpy_ap, if_pos (by omega), ycpy_ap, if_neg (fun z => by omega), yset_ne (fun z => by omega), show 1 + (b - 0) = b + 1 by omega]
  · rw [ycpy_ap, if_neg (fun z => by omega), ycpy_ap, if_pos (by omega), ycpy_ap, if_neg (fun z => by omega), ycpy_ap, if_neg (fun z => by omega), yset_ne (fun z => by omega), show 1 + (b - 0) = b + 1 by omega]
  · rw [ycpy_ap, if_pos (by omega), ycpy_ap, if_neg (fun z => by omega), ycpy_ap, if_neg (fun z => by omega), ycpy_ap, if_neg (fun z => by omega), yset_ne (fun z => by omega), show 1 + (b - 0) = b + 1 by omega]
theorem ycpy_tyA {g : yM} {q t : Nat} {lo hi : Int} (hm : (q, q, (1, t, 40, [(0, lo, hi)])) ∈ zpZ.1) (h6 : y67 q = true) (h : yTy zpZ g) : yTy zpZ (ycpy g q q 1 0 39) := h.upA hm (Or.inl rfl) h6 (fun a b hab => by rw [ycpy_ap, if_neg (fun z => hab z.1)]) (fun j hj => by
  rw [ycpy_ap]
  split
  · exact h.fA hm (by omega)
  · exact h.fA hm hj)
theorem ydrp_ty {g : yM} (h : yTy zpZ g) : yTy zpZ (ydrp g) := by
  unfold ydrp
  refine ycpy_tyA (List.mem_of_getElem? (i := 21) rfl) (by decide +kernel) ?_
  refine ycpy_tyA (List.mem_of_getElem? (i := 20) rfl) (by decide +kernel) ?_
  refine ycpy_tyA (List.mem_of_getElem? (i := 19) rfl) (by decide +kernel) ?_
  refine ycpy_tyA (List.mem_of_getElem? (i := 18) rfl) (by decide +kernel) ?_
  exact h.sO (List.mem_of_getElem? (i := 4) rfl) rfl (by decide +kernel) ⟨by decide, by decide⟩
def yWHs : zWr := [(19, 22, 0, 0), (4, 4, 1, 5), (4, 4, 1, 6)]
theorem ydrp_un (g : yM) : yUn yWHs g (ydrp g) := fun a b hn => ydrp_nc ⟨fun z => hn (19, 22, 0, 0) (by decide) ⟨by show (19 : Int) ≤ a; omega, by show (a : Int) ≤ 22; omega, Or.inl rfl⟩, fun z => hn (4, 4, 1, 5) (by decide) (by rw [z.1, z.2]; exact ⟨by decide, by decide, Or.inr rfl⟩)⟩
/-- a change is put down at a place -/
def ylog (M : yM) (d k o was v : Int) : yM := yset (yset (yset (yset (yset (yset M 19 (Int.toNat d) k) 20 (Int.toNat d) o) 21 (Int.toNat d) was) 22 (Int.toNat d) v) 4 5 (d + 1)) 4 6 (d + 1)
theorem ylog_nc {M : yM} {d k o was v : Int} {a b : Nat} (h : ¬ (19 ≤ a ∧ a ≤ 22) ∧ ¬ (a = 4 ∧ (b = 5 ∨ b = 6))) : ylog M d k o was v a b = M a b := by
  unfold ylog
  rw [yset_ne (fun z => by omega), yset_ne (fun z => by omega), yset_ne (fun z => by omega), yset_ne (fun z => by omega), yset_ne (fun z => by omega), yset_ne (fun z => by omega)]
theorem ylog_5 {M : yM} {d k o was v : Int} : ylog M d k o was v 4 5 = d + 1 ∧ ylog M d k o was v 4 6 = d + 1 := by
  unfold ylog
  exact ⟨by rw [yset_ne (fun z => by omega), yset_eq], by rw [yset_eq]⟩
theorem ylog_d {M : yM} {d k o was v : Int} : ylog M d k o was v 19 (Int.toNat d) = k ∧ ylog M d k o was v 20 (Int.toNat d) = o ∧ ylog M d k o was v 21 (Int.toNat d) = was ∧ ylog M d k o was v 22 (Int.toNat d) = v := by
  unfold ylog
  refine ⟨?_, ?_, ?_, ?_⟩
  · rw [yset_nc (by decide), yset_nc (by decide), yset_nc (by decide), yset_nc (by decide), yset_nc (by decide), yset_eq]
  · rw [yset_nc (by decide), yset_nc (by decide), yset_nc (by decide), yset_nc (by decide), yset_eq]
  · rw [yset_nc (by decide), yset_nc (by decide), yset_nc (by decide), yset_eq]
  · rw [yset_nc (by decide), yset_nc (by decide), yset_eq]
theorem ylog_o {M : yM} {d k o was v : Int} {a b : Nat} (h : 19 ≤ a ∧ a ≤ 22) (hb : b ≠ Int.toNat d) : ylog M d k o was v a b = M a b := by
  unfold ylog
  rw [yset_ne (fun z => by omega), yset_ne (fun z => by omega), yset_ne (fun z => by omega), yset_ne (fun z => by omega), yset_ne (fun z => by omega), yset_ne (fun z => by omega)]
theorem ylog_ty {M : yM} {d k o was v : Int} (h : yTy zpZ M) (hd : 0 ≤ d ∧ d ≤ 39) (hk : -2147483648 ≤ k ∧ k ≤ 2147483647) (ho : -2147483648 ≤ o ∧ o ≤ 2147483647) (hw : -2147483648 ≤ was ∧ was ≤ 2147483647) (hv : -2147483648 ≤ v ∧ v ≤ 2147483647) : yTy zpZ (ylog M d k o was v) := by
  unfold ylog
  refine yTy.sO ?_ (List.mem_of_getElem? (i := 4) rfl) rfl (by decide +kernel) ⟨by omega, by omega⟩
  refine yTy.sO ?_ (List.mem_of_getElem? (i := 4) rfl) rfl (by decide +kernel) ⟨by omega, by omega⟩
  refine yTy.sA ?_ (List.mem_of_getElem? (i := 21) rfl) (by decide +kernel) hv
  refine yTy.sA ?_ (List.mem_of_getElem? (i := 20) rfl) (by decide +kernel) hw
  refine yTy.sA ?_ (List.mem_of_getElem? (i := 19) rfl) (by decide +kernel) ho
  exact yTy.sA h (List.mem_of_getElem? (i := 18) rfl) (by decide +kernel) hk
theorem ylog_un {g M : yM} {d k o was v : Int} (h : yUn yWHs g M) : yUn yWHs g (ylog M d k o was v) := by
  unfold ylog
  refine yUn.st ?_ ⟨(4, 4, 1, 6), by decide, by decide, by decide, Or.inr rfl⟩
  refine yUn.st ?_ ⟨(4, 4, 1, 5), by decide, by decide, by decide, Or.inr rfl⟩
  refine yUn.st ?_ ⟨(19, 22, 0, 0), by decide, by decide, by decide, Or.inl rfl⟩
  refine yUn.st ?_ ⟨(19, 22, 0, 0), by decide, by decide, by decide, Or.inl rfl⟩
  refine yUn.st ?_ ⟨(19, 22, 0, 0), by decide, by decide, by decide, Or.inl rfl⟩
  exact yUn.st h ⟨(19, 22, 0, 0), by decide, by decide, by decide, Or.inl rfl⟩
/-- where the next change stands -/
def ydn (g : yM) : Int := if 40 ≤ g 4 5 then 39 else g 4 5
def ydm (g : yM) : yM := if 40 ≤ g 4 5 then ydrp g else g
def ymk (g : yM) (k o v : Int) : yM := ysv (ylog (ydm g) (ydn g) k o (ykv g k o) v) k o v
def yP_DO : yPT := fun as g K => as = [(3, 4)] ∧ (∀ (g' : yM), (g' = ydrp g) → K [] g')
def yC_DO : yC := (49, (1, 1000), yP_DO)
set_option maxRecDepth 8000 in
theorem yv_DO {K : List yV → yM → Prop} {Y : yNx} {g : yM} (hY : yCl zpD49 (zpZ, zpRS, zpP2, zpMT, [], (1, 1000), 0) K Y) (hK : ∀ (g' : yM), (g' = ydrp g) → K [] g') : Y 0 [(3, 4)] [] g := by
  refine yrun_ok (sp := fun pc => false) hY 40 0 _ [] g ?_
  show (((0 : Int) ≤ ((yset g 4 5 39) 4 5) ∧ (0 : Int) ≤ 0 ∧ (0 : Int) ≤ 1 ∧ 1 + ((yset g 4 5 39) 4 5) ≤ ((40 : Nat) : Int) ∧ 0 + ((yset g 4 5 39) 4 5) ≤ ((40 : Nat) : Int)) ∧ (((0 : Int) ≤ ((ycpy (yset g 4 5 39) 19 19 (Int.toNat 1) (Int.toNat 0) (Int.toNat ((yset g 4 5 39) 4 5))) 4 5) ∧ (0 : Int) ≤ 0 ∧ (0 : Int) ≤ 1 ∧ 1 + ((ycpy (yset g 4 5 39) 19 19 (Int.toNat 1) (Int.toNat 0) (Int.toNat ((yset g 4 5 39) 4 5))) 4 5) ≤ ((40 : Nat) : Int) ∧ 0 + ((ycpy (yset g 4 5 39) 19 19 (Int.toNat 1) (Int.toNat 0) (Int.toNat ((yset g 4 5 39) 4 5))) 4 5) ≤ ((40 : Nat) : Int)) ∧ (((0 : Int) ≤ ((ycpy (ycpy (yset g 4 5 39) 19 19 (Int.toNat 1) (Int.toNat 0) (Int.toNat ((yset g 4 5 39) 4 5))) 20 20 (Int.toNat 1) (Int.toNat 0) (Int.toNat ((ycpy (yset g 4 5 39) 19 19 (Int.toNat 1) (Int.toNat 0) (Int.toNat ((yset g 4 5 39) 4 5))) 4 5))) 4 5) ∧ (0 : Int) ≤ 0 ∧ (0 : Int) ≤ 1 ∧ 1 + ((ycpy (ycpy (yset g 4 5 39) 19 19 (Int.toNat 1) (Int.toNat 0) (Int.toNat ((yset g 4 5 39) 4 5))) 20 20 (Int.toNat 1) (Int.toNat 0) (Int.toNat ((ycpy (yset g 4 5 39) 19 19 (Int.toNat 1) (Int.toNat 0) (Int.toNat ((yset g 4 5 39) 4 5))) 4 5))) 4 5) ≤ ((40 : Nat) : Int) ∧ 0 + ((ycpy (ycpy (yset g 4 5 39) 19 19 (Int.toNat 1) (Int.toNat 0) (Int.toNat ((yset g 4 5 39) 4 5))) 20 20 (Int.toNat 1) (Int.toNat 0) (Int.toNat ((ycpy (yset g 4 5 39) 19 19 (Int.toNat 1) (Int.toNat 0) (Int.toNat ((yset g 4 5 39) 4 5))) 4 5))) 4 5) ≤ ((40 : Nat) : Int)) ∧ (((0 : Int) ≤ ((ycpy (ycpy (ycpy (yset g 4 5 39) 19 19 (Int.toNat 1) (Int.toNat 0) (Int.toNat ((yset g 4 5 39) 4 5))) 20 20 (Int.toNat 1) (Int.toNat 0) (Int.toNat ((ycpy (yset g 4 5 39) 19 19 (Int.toNat 1) (Int.toNat 0) (Int.toNat ((yset g 4 5 39) 4 5))) 4 5))) 21 21 (Int.toNat 1) (Int.toNat 0) (Int.toNat ((ycpy (ycpy (yset g 4 5 39) 19 19 (Int.toNat 1) (Int.toNat 0) (Int.toNat ((yset g 4 5 39) 4 5))) 20 20 (Int.toNat 1) (Int.toNat 0) (Int.toNat ((ycpy (yset g 4 5 39) 19 19 (Int.toNat 1) (Int.toNat 0) (Int.toNat ((yset g 4 5 39) 4 5))) 4 5))) 4 5))) 4 5) ∧ (0 : Int) ≤ 0 ∧ (0 : Int) ≤ 1 ∧ 1 + ((ycpy (ycpy (ycpy (yset g 4 5 39) 19 19 (Int.toNat 1) (Int.toNat 0) (Int.toNat ((yset g 4 5 39) 4 5))) 20 20 (Int.toNat 1) (Int.toNat 0) (Int.toNat ((ycpy (yset g 4 5 39) 19 19 (Int.toNat 1) (Int.toNat 0) (Int.toNat ((yset g 4 5 39) 4 5))) 4 5))) 21 21 (Int.toNat 1) (Int.toNat 0) (Int.toNat ((ycpy (ycpy (yset g 4 5 39) 19 19 (Int.toNat 1) (Int.toNat 0) (Int.toNat ((yset g 4 5 39) 4 5))) 20 20 (Int.toNat 1) (Int.toNat 0) (Int.toNat ((ycpy (yset g 4 5 39) 19 19 (Int.toNat 1) (Int.toNat 0) (Int.toNat ((yset g 4 5 39) 4 5))) 4 5))) 4 5))) 4 5) ≤ ((40 : Nat) : Int) ∧ 0 + ((ycpy (ycpy (ycpy (yset g 4 5 39) 19 19 (Int.toNat 1) (Int.toNat 0) (Int.toNat ((yset g 4 5 39) 4 5))) 20 20 (Int.toNat 1) (Int.toNat 0) (Int.toNat ((ycpy (yset g 4 5 39) 19 19 (Int.toNat 1) (Int.toNat 0) (Int.toNat ((yset g 4 5 39) 4 5))) 4 5))) 21 21 (Int.toNat 1) (Int.toNat 0) (Int.toNat ((ycpy (ycpy (yset g 4 5 39) 19 19 (Int.toNat 1) (Int.toNat 0) (Int.toNat ((yset g 4 5 39) 4 5))) 20 20 (Int.toNat 1) (Int.toNat 0) (Int.toNat ((ycpy (yset g 4 5 39) 19 19 (Int.toNat 1) (Int.toNat 0) (Int.toNat ((yset g 4 5 39) 4 5))) 4 5))) 4 5))) 4 5) ≤ ((40 : Nat) : Int)) ∧ (K [] (ycpy (ycpy (ycpy (ycpy (yset g 4 5 39) 19 19 (Int.toNat 1) (Int.toNat 0) (Int.toNat ((yset g 4 5 39) 4 5))) 20 20 (Int.toNat 1) (Int.toNat 0) (Int.toNat ((ycpy (yset g 4 5 39) 19 19 (Int.toNat 1) (Int.toNat 0) (Int.toNat ((yset g 4 5 39) 4 5))) 4 5))) 21 21 (Int.toNat 1) (Int.toNat 0) (Int.toNat ((ycpy (ycpy (yset g 4 5 39) 19 19 (Int.toNat 1) (Int.toNat 0) (Int.toNat ((yset g 4 5 39) 4 5))) 20 20 (Int.toNat 1) (Int.toNat 0) (Int.toNat ((ycpy (yset g 4 5 39) 19 19 (Int.toNat 1) (Int.toNat 0) (Int.toNat ((yset g 4 5 39) 4 5))) 4 5))) 4 5))) 22 22 (Int.toNat 1) (Int.toNat 0) (Int.toNat ((ycpy (ycpy (ycpy (yset g 4 5 39) 19 19 (Int.toNat 1) (Int.toNat 0) (Int.toNat ((yset g 4 5 39) 4 5))) 20 20 (Int.toNat 1) (Int.toNat 0) (Int.toNat ((ycpy (yset g 4 5 39) 19 19 (Int.toNat 1) (Int.toNat 0) (Int.toNat ((yset g 4 5 39) 4 5))) 4 5))) 21 21 (Int.toNat 1) (Int.toNat 0) (Int.toNat ((ycpy (ycpy (yset g 4 5 39) 19 19 (Int.toNat 1) (Int.toNat 0) (Int.toNat ((yset g 4 5 39) 4 5))) 20 20 (Int.toNat 1) (Int.toNat 0) (Int.toNat ((ycpy (yset g 4 5 39) 19 19 (Int.toNat 1) (Int.toNat 0) (Int.toNat ((yset g 4 5 39) 4 5))) 4 5))) 4 5))) 4 5))))))))
  refine ⟨(by have := show ((yset g 4 5 39) 4 5) = 39 from (by simp [yset_ap, ycpy_ap]); omega), ?_⟩
  refine ⟨(by rw [show ((ycpy (yset g 4 5 39) 19 19 (Int.toNat 1) (Int.toNat 0) (Int.toNat ((yset g 4 5 39) 4 5))) 4 5) = 39 from by simp [yset_ap, ycpy_ap]]; have := show ((yset g 4 5 39) 4 5) = 39 from (by simp [yset_ap, ycpy_ap]); have := show ((ycpy (yset g 4 5 39) 19 19 (Int.toNat 1) (Int.toNat 0) (Int.toNat ((yset g 4 5 39) 4 5))) 4 5) = 39 from (by simp [yset_ap, ycpy_ap]); omega), ?_⟩
  refine ⟨(by rw [show ((ycpy (ycpy (yset g 4 5 39) 19 19 (Int.toNat 1) (Int.toNat 0) (Int.toNat ((yset g 4 5 39) 4 5))) 20 20 (Int.toNat 1) (Int.toNat 0) (Int.toNat ((ycpy (yset g 4 5 39) 19 19 (Int.toNat 1) (Int.toNat 0) (Int.toNat ((yset g 4 5 39) 4 5))) 4 5))) 4 5) = 39 from by simp [yset_ap, ycpy_ap]]; have := show ((yset g 4 5 39) 4 5) = 39 from (by simp [yset_ap, ycpy_ap]); have := show ((ycpy (yset g 4 5 39) 19 19 (Int.toNat 1) (Int.toNat 0) (Int.toNat ((yset g 4 5 39) 4 5))) 4 5) = 39 from (by simp [yset_ap, ycpy_ap]); have := show ((ycpy (ycpy (yset g 4 5 39) 19 19 (Int.toNat 1) (Int.toNat 0) (Int.toNat ((yset g 4 5 39) 4 5))) 20 20 (Int.toNat 1) (Int.toNat 0) (Int.toNat ((ycpy (yset g 4 5 39) 19 19 (Int.toNat 1) (Int.toNat 0) (Int.toNat ((yset g 4 5 39) 4 5))) 4 5))) 4 5) = 39 from (by simp [yset_ap, ycpy_ap]); omega), ?_⟩
  refine ⟨(by rw [show ((ycpy (ycpy (ycpy (yset g 4 5 39) 19 19 (Int.toNat 1) (Int.toNat 0) (Int.toNat ((yset g 4 5 39) 4 5))) 20 20 (Int.toNat 1) (Int.toNat 0) (Int.toNat ((ycpy (yset g 4 5 39) 19 19 (Int.toNat 1) (Int.toNat 0) (Int.toNat ((yset g 4 5 39) 4 5))) 4 5))) 21 21 (Int.toNat 1) (Int.toNat 0) (Int.toNat ((ycpy (ycpy (yset g 4 5 39) 19 19 (Int.toNat 1) (Int.toNat 0) (Int.toNat ((yset g 4 5 39) 4 5))) 20 20 (Int.toNat 1) (Int.toNat 0) (Int.toNat ((ycpy (yset g 4 5 39) 19 19 (Int.toNat 1) (Int.toNat 0) (Int.toNat ((yset g 4 5 39) 4 5))) 4 5))) 4 5))) 4 5) = 39 from by simp [yset_ap, ycpy_ap]]; have := show ((yset g 4 5 39) 4 5) = 39 from (by simp [yset_ap, ycpy_ap]); have := show ((ycpy (yset g 4 5 39) 19 19 (Int.toNat 1) (Int.toNat 0) (Int.toNat ((yset g 4 5 39) 4 5))) 4 5) = 39 from (by simp [yset_ap, ycpy_ap]); have := show ((ycpy (ycpy (yset g 4 5 39) 19 19 (Int.toNat 1) (Int.toNat 0) (Int.toNat ((yset g 4 5 39) 4 5))) 20 20 (Int.toNat 1) (Int.toNat 0) (Int.toNat ((ycpy (yset g 4 5 39) 19 19 (Int.toNat 1) (Int.toNat 0) (Int.toNat ((yset g 4 5 39) 4 5))) 4 5))) 4 5) = 39 from (by simp [yset_ap, ycpy_ap]); have := show ((ycpy (ycpy (ycpy (yset g 4 5 39) 19 19 (Int.toNat 1) (Int.toNat 0) (Int.toNat ((yset g 4 5 39) 4 5))) 20 20 (Int.toNat 1) (Int.toNat 0) (Int.toNat ((ycpy (yset g 4 5 39) 19 19 (Int.toNat 1) (Int.toNat 0) (Int.toNat ((yset g 4 5 39) 4 5))) 4 5))) 21 21 (Int.toNat 1) (Int.toNat 0) (Int.toNat ((ycpy (ycpy (yset g 4 5 39) 19 19 (Int.toNat 1) (Int.toNat 0) (Int.toNat ((yset g 4 5 39) 4 5))) 20 20 (Int.toNat 1) (Int.toNat 0) (Int.toNat ((ycpy (yset g 4 5 39) 19 19 (Int.toNat 1) (Int.toNat 0) (Int.toNat ((yset g 4 5 39) 4 5))) 4 5))) 4 5))) 4 5) = 39 from (by simp [yset_ap, ycpy_ap]); omega), ?_⟩
  have := show ((yset g 4 5 39) 4 5) = 39 from (by simp [yset_ap, ycpy_ap])
  have := show ((ycpy (yset g 4 5 39) 19 19 (Int.toNat 1) (Int.toNat 0) (Int.toNat ((yset g 4 5 39) 4 5))) 4 5) = 39 from (by simp [yset_ap, ycpy_ap])
  have := show ((ycpy (ycpy (yset g 4 5 39) 19 19 (Int.toNat 1) (Int.toNat 0) (Int.toNat ((yset g 4 5 39) 4 5))) 20 20 (Int.toNat 1) (Int.toNat 0) (Int.toNat ((ycpy (yset g 4 5 39) 19 19 (Int.toNat 1) (Int.toNat 0) (Int.toNat ((yset g 4 5 39) 4 5))) 4 5))) 4 5) = 39 from (by simp [yset_ap, ycpy_ap])
  have := show ((ycpy (ycpy (ycpy (yset g 4 5 39) 19 19 (Int.toNat 1) (Int.toNat 0) (Int.toNat ((yset g 4 5 39) 4 5))) 20 20 (Int.toNat 1) (Int.toNat 0) (Int.toNat ((ycpy (yset g 4 5 39) 19 19 (Int.toNat 1) (Int.toNat 0) (Int.toNat ((yset g 4 5 39) 4 5))) 4 5))) 21 21 (Int.toNat 1) (Int.toNat 0) (Int.toNat ((ycpy (ycpy (yset g 4 5 39) 19 19 (Int.toNat 1) (Int.toNat 0) (Int.toNat ((yset g 4 5 39) 4 5))) 20 20 (Int.toNat 1) (Int.toNat 0) (Int.toNat ((ycpy (yset g 4 5 39) 19 19 (Int.toNat 1) (Int.toNat 0) (Int.toNat ((yset g 4 5 39) 4 5))) 4 5))) 4 5))) 4 5) = 39 from (by simp [yset_ap, ycpy_ap])
  rw [show ((ycpy (ycpy (ycpy (yset g 4 5 39) 19 19 (Int.toNat 1) (Int.toNat 0) (Int.toNat ((yset g 4 5 39) 4 5))) 20 20 (Int.toNat 1) (Int.toNat 0) (Int.toNat ((ycpy (yset g 4 5 39) 19 19 (Int.toNat 1) (Int.toNat 0) (Int.toNat ((yset g 4 5 39) 4 5))) 4 5))) 21 21 (Int.toNat 1) (Int.toNat 0) (Int.toNat ((ycpy (ycpy (yset g 4 5 39) 19 19 (Int.toNat 1) (Int.toNat 0) (Int.toNat ((yset g 4 5 39) 4 5))) 20 20 (Int.toNat 1) (Int.toNat 0) (Int.toNat ((ycpy (yset g 4 5 39) 19 19 (Int.toNat 1) (Int.toNat 0) (Int.toNat ((yset g 4 5 39) 4 5))) 4 5))) 4 5))) 4 5) = 39 from by simp [yset_ap, ycpy_ap]]
  rw [show ((ycpy (ycpy (yset g 4 5 39) 19 19 (Int.toNat 1) (Int.toNat 0) (Int.toNat ((yset g 4 5 39) 4 5))) 20 20 (Int.toNat 1) (Int.toNat 0) (Int.toNat ((ycpy (yset g 4 5 39) 19 19 (Int.toNat 1) (Int.toNat 0) (Int.toNat ((yset g 4 5 39) 4 5))) 4 5))) 4 5) = 39 from by simp [yset_ap, ycpy_ap]]
  rw [show ((ycpy (yset g 4 5 39) 19 19 (Int.toNat 1) (Int.toNat 0) (Int.toNat ((yset g 4 5 39) 4 5))) 4 5) = 39 from by simp [yset_ap, ycpy_ap]]
  rw [show ((yset g 4 5 39) 4 5) = 39 from by simp [yset_ap, ycpy_ap]]
  exact hK _ (by first | omega | exact fun _ => rfl | exact fun h => absurd h (by omega) | exact rfl | exact fun _ _ => rfl | exact fun h _ => absurd h (by omega) | exact fun _ h => absurd h (by omega))
theorem yM_DO {l : Launch} {Ts : List Cond} {cl : List vw_C} {RO : zRO} (H : zHyp Ts cl RO) : yMet l Ts cl zpZ RO zpMT yC_DO := ymet_of2 H.1 H.2.1 zpDj H.2.2.1 yRb H.p2 ymets_nil (zrc0 rfl) (plainFor_of_name zpy2) zpDk49 (fun as g K Y h hA hY => by
  obtain ⟨rfl, hK⟩ := h
  exact yv_DO hY  hK)
theorem ysv_nc {g : yM} {k o v : Int} (h : yok g k o) {a b : Nat} (hn : ¬ (13 ≤ a ∧ a ≤ 14) ∧ ¬ ((50 ≤ a ∧ a ≤ 89) ∧ b = 1) ∧ ¬ (a = 1 ∧ b = 9)) : ysv g k o v a b = g a b := by
  rcases h with ⟨rfl, h⟩ | ⟨rfl, h⟩ | ⟨rfl, h⟩ | ⟨rfl, h⟩
  · rw [ysv_0]
    exact yset_ne (by omega)
  · rw [ysv_1]
    exact yset_ne (by omega)
  · rw [ysv_2]
    exact yset_ne (by omega)
  · rw [ysv_3]
    exact yset_ne (by omega)
theorem ykv_rng {g : yM} {k o : Int} (hT : yTy zpZ g) (h : yok g k o) : -2147483648 ≤ ykv g k o ∧ ykv g k o ≤ 2147483647 := by
  rcases h with ⟨rfl, h⟩ | ⟨rfl, h⟩ | ⟨rfl, h⟩ | ⟨rfl, h⟩
  · rw [ykv_0]
    exact hT.fR (List.mem_of_getElem? (i := 41) rfl) (by omega) (by omega) rfl
  · rw [ykv_1]
    exact hT.fA (List.mem_of_getElem? (i := 12) rfl) (by omega)
  · rw [ykv_2]
    exact hT.fA (List.mem_of_getElem? (i := 13) rfl) (by omega)
  · rw [ykv_3]
    exact hT.fO (List.mem_of_getElem? (i := 1) rfl) rfl
def yP_MAK : yPT := fun as g K => ∃ (k o v : Int), as = [(3, 4), (1, k), (1, o), (1, v)] ∧ (yTy zpZ g) ∧ (yok g k o) ∧ (0 ≤ g 4 5 ∧ g 4 5 ≤ 40) ∧ (∀ (r : Int) (g' : yM), (r = ykv g k o) → (r = v → g' = g) → (r ≠ v → yTy zpZ g' ∧ yWz (ymk g k o v) g') → K [(1, r)] g')
def yC_MAK : yC := (50, (5, 1020), yP_MAK)
set_option maxRecDepth 8000 in
theorem yv_MAK {K : List yV → yM → Prop} {Y : yNx} {g : yM} {k o v : Int} (hY : yCl zpD50 (zpZ, zpRS, zpP2, zpMT, [yC_NO, yC_DO, yC_BC], (5, 1020), 1) K Y) (hr_k : -2147483648 ≤ k ∧ k ≤ 2147483647) (hr_o : -2147483648 ≤ o ∧ o ≤ 2147483647) (hr_v : -2147483648 ≤ v ∧ v ≤ 2147483647) (hp0 : yTy zpZ g) (hp1 : yok g k o) (hp2 : 0 ≤ g 4 5 ∧ g 4 5 ≤ 40) (hK : ∀ (r : Int) (g' : yM), (r = ykv g k o) → (r = v → g' = g) → (r ≠ v → yTy zpZ g' ∧ yWz (ymk g k o v) g') → K [(1, r)] g') : Y 0 [(3, 4), (1, k), (1, o), (1, v), (0, 0)] [] g := by
  refine yrun_ok (sp := fun pc => false) hY 57 0 _ [] g ?_
  show (∃ (k1 o2 : Int), [(3, 1), (1, k), (1, o)] = [(3, 1), (1, k1), (1, o2)] ∧ (yok g k1 o2) ∧ (∀ (r3 : Int), (r3 = ykv g k1 o2) → ((r3 ≠ v → (((g 4 5) < 40 → (((0 : Int) ≤ (g 4 5) ∧ (g 4 5) < ((40 : Nat) : Int)) ∧ (((0 : Int) ≤ (g 4 5) ∧ (g 4 5) < ((40 : Nat) : Int)) ∧ (((0 : Int) ≤ (g 4 5) ∧ (g 4 5) < ((40 : Nat) : Int)) ∧ (((0 : Int) ≤ (g 4 5) ∧ (g 4 5) < ((40 : Nat) : Int)) ∧ (∃ (k7 o8 v9 : Int), [(3, 1), (1, k), (1, o), (1, v)] = [(3, 1), (1, k7), (1, o8), (1, v9)] ∧ (yTy zpZ (yset (yset (yset (yset (yset (yset g 19 (Int.toNat (g 4 5)) k) 20 (Int.toNat (g 4 5)) o) 21 (Int.toNat (g 4 5)) r3) 22 (Int.toNat (g 4 5)) v) 4 5 (yw ((g 4 5) + 1))) 4 6 (yw ((g 4 5) + 1)))) ∧ (-2147483648 ≤ v9 ∧ v9 ≤ 2147483647) ∧ (yok (yset (yset (yset (yset (yset (yset g 19 (Int.toNat (g 4 5)) k) 20 (Int.toNat (g 4 5)) o) 21 (Int.toNat (g 4 5)) r3) 22 (Int.toNat (g 4 5)) v) 4 5 (yw ((g 4 5) + 1))) 4 6 (yw ((g 4 5) + 1))) k7 o8) ∧ (∀ (g10 : yM), (yTy zpZ g10) → (yWz (ysv (yset (yset (yset (yset (yset (yset g 19 (Int.toNat (g 4 5)) k) 20 (Int.toNat (g 4 5)) o) 21 (Int.toNat (g 4 5)) r3) 22 (Int.toNat (g 4 5)) v) 4 5 (yw ((g 4 5) + 1))) 4 6 (yw ((g 4 5) + 1))) k7 o8 v9) g10) → (K [(1, r3)] g10)))))))) ∧ (¬ ((g 4 5) < 40) → ([(3, 4)] = [(3, 4)] ∧ (∀ (g12 : yM), (g12 = ydrp g) → (((0 : Int) ≤ (g12 4 5) ∧ (g12 4 5) < ((40 : Nat) : Int)) ∧ (((0 : Int) ≤ (g12 4 5) ∧ (g12 4 5) < ((40 : Nat) : Int)) ∧ (((0 : Int) ≤ (g12 4 5) ∧ (g12 4 5) < ((40 : Nat) : Int)) ∧ (((0 : Int) ≤ (g12 4 5) ∧ (g12 4 5) < ((40 : Nat) : Int)) ∧ (∃ (k14 o15 v16 : Int), [(3, 1), (1, k), (1, o), (1, v)] = [(3, 1), (1, k14), (1, o15), (1, v16)] ∧ (yTy zpZ (yset (yset (yset (yset (yset (yset g12 19 (Int.toNat (g12 4 5)) k) 20 (Int.toNat (g12 4 5)) o) 21 (Int.toNat (g12 4 5)) r3) 22 (Int.toNat (g12 4 5)) v) 4 5 (yw ((g12 4 5) + 1))) 4 6 (yw ((g12 4 5) + 1)))) ∧ (-2147483648 ≤ v16 ∧ v16 ≤ 2147483647) ∧ (yok (yset (yset (yset (yset (yset (yset g12 19 (Int.toNat (g12 4 5)) k) 20 (Int.toNat (g12 4 5)) o) 21 (Int.toNat (g12 4 5)) r3) 22 (Int.toNat (g12 4 5)) v) 4 5 (yw ((g12 4 5) + 1))) 4 6 (yw ((g12 4 5) + 1))) k14 o15) ∧ (∀ (g17 : yM), (yTy zpZ g17) → (yWz (ysv (yset (yset (yset (yset (yset (yset g12 19 (Int.toNat (g12 4 5)) k) 20 (Int.toNat (g12 4 5)) o) 21 (Int.toNat (g12 4 5)) r3) 22 (Int.toNat (g12 4 5)) v) 4 5 (yw ((g12 4 5) + 1))) 4 6 (yw ((g12 4 5) + 1))) k14 o15 v16) g17) → (K [(1, r3)] g17)))))))))))) ∧ (¬ (r3 ≠ v) → (K [(1, r3)] g)))))
  refine ⟨_, _, rfl, (hp1), ?_⟩
  intro r3 p40
  refine ⟨fun h5 => ?_, fun h5 => ?_⟩
  · refine ⟨fun h6 => ?_, fun h6 => ?_⟩
    · refine ⟨(by
      have hd := ydrp_45 g
      omega), ?_⟩
      refine ⟨(by
      have hd := ydrp_45 g
      omega), ?_⟩
      refine ⟨(by
      have hd := ydrp_45 g
      omega), ?_⟩
      refine ⟨(by
      have hd := ydrp_45 g
      omega), ?_⟩
      refine ⟨_, _, _, rfl, (by
      have hd := ydrp_45 g
      have hq : yw ((g 4 5) + 1) = (g 4 5) + 1 := by have := yw_s ((g 4 5) + 1); omega
      have hkb : 0 ≤ k ∧ k ≤ 3 ∧ 0 ≤ o ∧ o ≤ 40 := by unfold yok at hp1; omega
      rw [hq]
      exact ylog_ty (M := g) (d := (g 4 5)) hp0 ⟨by omega, by omega⟩ ⟨by omega, by omega⟩ ⟨by omega, by omega⟩ (by rw [p40]; exact ykv_rng hp0 hp1) hr_v), (hr_v), (by
      have hd := ydrp_45 g
      have hq : yw ((g 4 5) + 1) = (g 4 5) + 1 := by have := yw_s ((g 4 5) + 1); omega
      rw [hq]
      exact hp1.mono (ylog_nc (M := g) (d := g 4 5) (by omega))), ?_⟩
      intro g10 p110 p111
      have hd := ydrp_45 g
      have hq : yw ((g 4 5) + 1) = (g 4 5) + 1 := by have := yw_s ((g 4 5) + 1); omega
      rw [hq] at p111
      subst p40
      have hm : ydm g = g := if_neg (by omega)
      have hn : ydn g = g 4 5 := if_neg (by omega)
      refine hK _ _ rfl (fun h => absurd h (by assumption)) (fun _ => ⟨p110, ?_⟩)
      unfold ymk
      rw [hm, hn]
      exact p111
    · refine ⟨rfl, ?_⟩
      intro g12 p130
      subst p130
      refine ⟨(by
      have hd := ydrp_45 g
      omega), ?_⟩
      refine ⟨(by
      have hd := ydrp_45 g
      omega), ?_⟩
      refine ⟨(by
      have hd := ydrp_45 g
      omega), ?_⟩
      refine ⟨(by
      have hd := ydrp_45 g
      omega), ?_⟩
      refine ⟨_, _, _, rfl, (by
      have hd := ydrp_45 g
      have hq : yw (((ydrp g) 4 5) + 1) = ((ydrp g) 4 5) + 1 := by have := yw_s (((ydrp g) 4 5) + 1); omega
      have hkb : 0 ≤ k ∧ k ≤ 3 ∧ 0 ≤ o ∧ o ≤ 40 := by unfold yok at hp1; omega
      rw [hq]
      exact ylog_ty (M := (ydrp g)) (d := ((ydrp g) 4 5)) (ydrp_ty hp0) ⟨by omega, by omega⟩ ⟨by omega, by omega⟩ ⟨by omega, by omega⟩ (by rw [p40]; exact ykv_rng hp0 hp1) hr_v), (hr_v), (by
      have hd := ydrp_45 g
      have hq : yw (((ydrp g) 4 5) + 1) = ((ydrp g) 4 5) + 1 := by have := yw_s (((ydrp g) 4 5) + 1); omega
      rw [hq]
      exact hp1.mono ((ylog_nc (M := ydrp g) (d := ydrp g 4 5) (by omega)).trans (ydrp_nc (by omega)))), ?_⟩
      intro g17 p180 p181
      have hd := ydrp_45 g
      have hq : yw (((ydrp g) 4 5) + 1) = ((ydrp g) 4 5) + 1 := by have := yw_s (((ydrp g) 4 5) + 1); omega
      rw [hq] at p181
      subst p40
      rw [hd] at p181
      have hm : ydm g = ydrp g := if_pos (by omega)
      have hn : ydn g = 39 := if_pos (by omega)
      refine hK _ _ rfl (fun h => absurd h (by assumption)) (fun _ => ⟨p180, ?_⟩)
      unfold ymk
      rw [hm, hn]
      exact p181
  · exact hK _ _ p40 (fun _ => rfl) (fun h => absurd (by omega) h)
theorem yM_MAK {l : Launch} {Ts : List Cond} {cl : List vw_C} {RO : zRO} (H : zHyp Ts cl RO) : yMet l Ts cl zpZ RO zpMT yC_MAK := ymet_of2 H.1 H.2.1 zpDj H.2.2.1 yRb H.p2 (ymets_cons (yM_NO H) (ymets_cons (yM_DO H) (ymets_cons (yM_BC H) ymets_nil))) (zrc1 rfl) (plainFor_of_name zpy2) zpDk50 (fun as g K Y h hA hY => by
  obtain ⟨k, o, v, rfl, hp0, hp1, hp2, hK⟩ := h
  exact yv_MAK hY (yAr1 hA (by simp)) (yAr1 hA (by simp)) (yAr1 hA (by simp)) hp0 hp1 hp2 hK)
def yP_BKC : yPT := fun as g K => as = [(3, 4)] ∧ (yTy zpZ g) ∧ (0 ≤ g 4 5 ∧ g 4 5 ≤ 40) ∧ (0 < g 4 5 → yok g (g 19 (Int.toNat (g 4 5 - 1))) (g 20 (Int.toNat (g 4 5 - 1)))) ∧ (∀ (g' : yM), (g 4 5 = 0 → g' = g) → (0 < g 4 5 → yTy zpZ g' ∧ yWz (ysv (yset g 4 5 (g 4 5 - 1)) (g 19 (Int.toNat (g 4 5 - 1))) (g 20 (Int.toNat (g 4 5 - 1))) (g 21 (Int.toNat (g 4 5 - 1)))) g') → K [] g')
def yC_BKC : yC := (48, (5, 133), yP_BKC)
set_option maxRecDepth 8000 in
theorem yv_BKC {K : List yV → yM → Prop} {Y : yNx} {g : yM} (hY : yCl zpD48 (zpZ, zpRS, zpP2, zpMT, [yC_BC], (5, 133), 0) K Y) (hp0 : yTy zpZ g) (hp1 : 0 ≤ g 4 5 ∧ g 4 5 ≤ 40) (hp2 : 0 < g 4 5 → yok g (g 19 (Int.toNat (g 4 5 - 1))) (g 20 (Int.toNat (g 4 5 - 1)))) (hK : ∀ (g' : yM), (g 4 5 = 0 → g' = g) → (0 < g 4 5 → yTy zpZ g' ∧ yWz (ysv (yset g 4 5 (g 4 5 - 1)) (g 19 (Int.toNat (g 4 5 - 1))) (g 20 (Int.toNat (g 4 5 - 1))) (g 21 (Int.toNat (g 4 5 - 1)))) g') → K [] g') : Y 0 [(3, 4)] [] g := by
  refine yrun_ok (sp := fun pc => false) hY 28 0 _ [] g ?_
  show (((g 4 5) ≤ 0 → (K [] g)) ∧ (¬ ((g 4 5) ≤ 0) → (((0 : Int) ≤ (yw ((g 4 5) - 1)) ∧ (yw ((g 4 5) - 1)) < ((40 : Nat) : Int)) ∧ (((0 : Int) ≤ (yw ((g 4 5) - 1)) ∧ (yw ((g 4 5) - 1)) < ((40 : Nat) : Int)) ∧ (((0 : Int) ≤ (yw ((g 4 5) - 1)) ∧ (yw ((g 4 5) - 1)) < ((40 : Nat) : Int)) ∧ (∃ (k2 o3 v4 : Int), [(3, 1), (1, (g 19 (Int.toNat (yw ((g 4 5) - 1))))), (1, (g 20 (Int.toNat (yw ((g 4 5) - 1))))), (1, (g 21 (Int.toNat (yw ((g 4 5) - 1)))))] = [(3, 1), (1, k2), (1, o3), (1, v4)] ∧ (yTy zpZ (yset g 4 5 (yw ((g 4 5) - 1)))) ∧ (-2147483648 ≤ v4 ∧ v4 ≤ 2147483647) ∧ (yok (yset g 4 5 (yw ((g 4 5) - 1))) k2 o3) ∧ (∀ (g5 : yM), (yTy zpZ g5) → (yWz (ysv (yset g 4 5 (yw ((g 4 5) - 1))) k2 o3 v4) g5) → (K [] g5))))))))
  refine ⟨fun h1 => ?_, fun h1 => ?_⟩
  · exact hK _ (fun _ => rfl) (fun h => absurd h (by omega))
  · refine ⟨(by
      have hq : yw ((g 4 5) - 1) = g 4 5 - 1 := by have := yw_s (g 4 5 - 1); omega
      omega), ?_⟩
    refine ⟨(by
      have hq : yw ((g 4 5) - 1) = g 4 5 - 1 := by have := yw_s (g 4 5 - 1); omega
      omega), ?_⟩
    refine ⟨(by
      have hq : yw ((g 4 5) - 1) = g 4 5 - 1 := by have := yw_s (g 4 5 - 1); omega
      omega), ?_⟩
    refine ⟨_, _, _, rfl, (by
      have hq : yw ((g 4 5) - 1) = g 4 5 - 1 := by have := yw_s (g 4 5 - 1); omega
      rw [hq]
      exact hp0.sO (List.mem_of_getElem? (i := 4) rfl) rfl (by decide +kernel) ⟨by omega, by omega⟩), (by
      have hq : yw ((g 4 5) - 1) = g 4 5 - 1 := by have := yw_s (g 4 5 - 1); omega
      rw [hq]
      exact hp0.fA (List.mem_of_getElem? (i := 20) rfl) (by omega)), (by
      have hq : yw ((g 4 5) - 1) = g 4 5 - 1 := by have := yw_s (g 4 5 - 1); omega
      rw [hq]
      exact (hp2 (by omega)).mono (yset_nc (by decide))), ?_⟩
    intro g5 p60 p61
    have hq : yw ((g 4 5) - 1) = g 4 5 - 1 := by have := yw_s (g 4 5 - 1); omega
    rw [hq] at p61
    exact hK _ (fun h => absurd h (by omega)) (fun _ => ⟨p60, p61⟩)
theorem yM_BKC {l : Launch} {Ts : List Cond} {cl : List vw_C} {RO : zRO} (H : zHyp Ts cl RO) : yMet l Ts cl zpZ RO zpMT yC_BKC := ymet_of2 H.1 H.2.1 zpDj H.2.2.1 yRb H.p2 (ymets_cons (yM_BC H) ymets_nil) (zrc0 rfl) (plainFor_of_name zpy2) zpDk48 (fun as g K Y h hA hY => by
  obtain ⟨rfl, hp0, hp1, hp2, hK⟩ := h
  exact yv_BKC hY  hp0 hp1 hp2 hK)
def yP_AGC : yPT := fun as g K => as = [(3, 4)] ∧ (yTy zpZ g) ∧ (0 ≤ g 4 5 ∧ g 4 5 ≤ g 4 6 ∧ g 4 6 ≤ 40) ∧ (g 4 5 < g 4 6 → yok g (g 19 (Int.toNat (g 4 5))) (g 20 (Int.toNat (g 4 5)))) ∧ (∀ (g' : yM), (g 4 5 = g 4 6 → g' = g) → (g 4 5 < g 4 6 → yTy zpZ g' ∧ ∃ M, yWz (ysv g (g 19 (Int.toNat (g 4 5))) (g 20 (Int.toNat (g 4 5))) (g 22 (Int.toNat (g 4 5)))) M ∧ g' = yset M 4 5 (g 4 5 + 1)) → K [] g')
def yC_AGC : yC := (47, (5, 133), yP_AGC)
set_option maxRecDepth 8000 in
theorem yv_AGC {K : List yV → yM → Prop} {Y : yNx} {g : yM} (hY : yCl zpD47 (zpZ, zpRS, zpP2, zpMT, [yC_BC], (5, 133), 0) K Y) (hp0 : yTy zpZ g) (hp1 : 0 ≤ g 4 5 ∧ g 4 5 ≤ g 4 6 ∧ g 4 6 ≤ 40) (hp2 : g 4 5 < g 4 6 → yok g (g 19 (Int.toNat (g 4 5))) (g 20 (Int.toNat (g 4 5)))) (hK : ∀ (g' : yM), (g 4 5 = g 4 6 → g' = g) → (g 4 5 < g 4 6 → yTy zpZ g' ∧ ∃ M, yWz (ysv g (g 19 (Int.toNat (g 4 5))) (g 20 (Int.toNat (g 4 5))) (g 22 (Int.toNat (g 4 5)))) M ∧ g' = yset M 4 5 (g 4 5 + 1)) → K [] g') : Y 0 [(3, 4)] [] g := by
  refine yrun_ok (sp := fun pc => false) hY 30 0 _ [] g ?_
  show (((g 4 6) ≤ (g 4 5) → (K [] g)) ∧ (¬ ((g 4 6) ≤ (g 4 5)) → (((0 : Int) ≤ (g 4 5) ∧ (g 4 5) < ((40 : Nat) : Int)) ∧ (((0 : Int) ≤ (g 4 5) ∧ (g 4 5) < ((40 : Nat) : Int)) ∧ (((0 : Int) ≤ (g 4 5) ∧ (g 4 5) < ((40 : Nat) : Int)) ∧ (∃ (k2 o3 v4 : Int), [(3, 1), (1, (g 19 (Int.toNat (g 4 5)))), (1, (g 20 (Int.toNat (g 4 5)))), (1, (g 22 (Int.toNat (g 4 5))))] = [(3, 1), (1, k2), (1, o3), (1, v4)] ∧ (yTy zpZ g) ∧ (-2147483648 ≤ v4 ∧ v4 ≤ 2147483647) ∧ (yok g k2 o3) ∧ (∀ (g5 : yM), (yTy zpZ g5) → (yWz (ysv g k2 o3 v4) g5) → (K [] (yset g5 4 5 (yw ((g5 4 5) + 1)))))))))))
  refine ⟨fun h1 => ?_, fun h1 => ?_⟩
  · exact hK _ (fun _ => rfl) (fun h => absurd h (by omega))
  · refine ⟨(by omega), ?_⟩
    refine ⟨(by omega), ?_⟩
    refine ⟨(by omega), ?_⟩
    refine ⟨_, _, _, rfl, (hp0), (hp0.fA (List.mem_of_getElem? (i := 21) rfl) (by omega)), (hp2 (by omega)), ?_⟩
    intro g5 p60 p61
    have e5 : g5 4 5 = g 4 5 := by rw [p61.1 4 5 (by omega)]; exact ysv_nc (hp2 (by omega)) (by omega)
    have hq : yw ((g5 4 5) + 1) = g 4 5 + 1 := by rw [e5]; have := yw_s (g 4 5 + 1); omega
    rw [hq]
    exact hK _ (fun h => absurd h (by omega)) (fun _ => ⟨p60.sO (List.mem_of_getElem? (i := 4) rfl) rfl (by decide +kernel) ⟨by omega, by omega⟩, _, p61, rfl⟩)
theorem yM_AGC {l : Launch} {Ts : List Cond} {cl : List vw_C} {RO : zRO} (H : zHyp Ts cl RO) : yMet l Ts cl zpZ RO zpMT yC_AGC := ymet_of2 H.1 H.2.1 zpDj H.2.2.1 yRb H.p2 (ymets_cons (yM_BC H) ymets_nil) (zrc0 rfl) (plainFor_of_name zpy2) zpDk47 (fun as g K Y h hA hY => by
  obtain ⟨rfl, hp0, hp1, hp2, hK⟩ := h
  exact yv_AGC hY  hp0 hp1 hp2 hK)
def yP_CMA : yPT := fun as g K => ∃ (a b v : Int), as = [(3, 0), (1, a), (1, b), (1, v)] ∧ (yTy zpZ g) ∧ (0 ≤ g 4 5 ∧ g 4 5 ≤ 40) ∧ (∀ (r : Int) (g' : yM), (¬ (0 ≤ a ∧ a < 6 ∧ 0 ≤ b ∧ b ≤ 1 ∧ 1 ≤ v ∧ v ≤ 99 ∧ (b = 0 → v ≤ g 14 (Int.toNat a)) ∧ (b = 1 → g 13 (Int.toNat a) ≤ v)) → r = -1 ∧ g' = g) → ((0 ≤ a ∧ a < 6 ∧ 0 ≤ b ∧ b ≤ 1 ∧ 1 ≤ v ∧ v ≤ 99 ∧ (b = 0 → v ≤ g 14 (Int.toNat a)) ∧ (b = 1 → g 13 (Int.toNat a) ≤ v)) → b = 0 → r = ykv g 1 a ∧ (r = v → g' = g) ∧ (r ≠ v → yTy zpZ g' ∧ yWz (ymk g 1 a v) g')) → ((0 ≤ a ∧ a < 6 ∧ 0 ≤ b ∧ b ≤ 1 ∧ 1 ≤ v ∧ v ≤ 99 ∧ (b = 0 → v ≤ g 14 (Int.toNat a)) ∧ (b = 1 → g 13 (Int.toNat a) ≤ v)) → b = 1 → r = ykv g 2 a ∧ (r = v → g' = g) ∧ (r ≠ v → yTy zpZ g' ∧ yWz (ymk g 2 a v) g')) → K [(1, r)] g')
def yC_CMA : yC := (21, (6, 1044), yP_CMA)
set_option maxRecDepth 8000 in
theorem yv_CMA {K : List yV → yM → Prop} {Y : yNx} {g : yM} {a b v : Int} (hY : yCl zpD21 (zpZ, zpRS, zpP0, zpMT, [yC_W, yC_MAK], (6, 1044), 1) K Y) (hr_a : -2147483648 ≤ a ∧ a ≤ 2147483647) (hr_b : -2147483648 ≤ b ∧ b ≤ 2147483647) (hr_v : -2147483648 ≤ v ∧ v ≤ 2147483647) (hp0 : yTy zpZ g) (hp1 : 0 ≤ g 4 5 ∧ g 4 5 ≤ 40) (hK : ∀ (r : Int) (g' : yM), (¬ (0 ≤ a ∧ a < 6 ∧ 0 ≤ b ∧ b ≤ 1 ∧ 1 ≤ v ∧ v ≤ 99 ∧ (b = 0 → v ≤ g 14 (Int.toNat a)) ∧ (b = 1 → g 13 (Int.toNat a) ≤ v)) → r = -1 ∧ g' = g) → ((0 ≤ a ∧ a < 6 ∧ 0 ≤ b ∧ b ≤ 1 ∧ 1 ≤ v ∧ v ≤ 99 ∧ (b = 0 → v ≤ g 14 (Int.toNat a)) ∧ (b = 1 → g 13 (Int.toNat a) ≤ v)) → b = 0 → r = ykv g 1 a ∧ (r = v → g' = g) ∧ (r ≠ v → yTy zpZ g' ∧ yWz (ymk g 1 a v) g')) → ((0 ≤ a ∧ a < 6 ∧ 0 ≤ b ∧ b ≤ 1 ∧ 1 ≤ v ∧ v ≤ 99 ∧ (b = 0 → v ≤ g 14 (Int.toNat a)) ∧ (b = 1 → g 13 (Int.toNat a) ≤ v)) → b = 1 → r = ykv g 2 a ∧ (r = v → g' = g) ∧ (r ≠ v → yTy zpZ g' ∧ yWz (ymk g 2 a v) g')) → K [(1, r)] g') : Y 0 [(3, 0), (1, a), (1, b), (1, v)] [] g := by
  refine yrun_ok (sp := fun pc => false) hY 30 0 _ [] g ?_
  show (∃ (v1 b2 : Int), [(1, a), (1, 6)] = [(1, v1), (1, b2)] ∧ (∀ (r3 : Int), ((r3 = 1 ∧ 0 ≤ v1 ∧ v1 < b2) ∨ (r3 = 0 ∧ (v1 < 0 ∨ b2 ≤ v1))) → ((r3 = 0 → (K [(1, (-1))] g)) ∧ (¬ (r3 = 0) → (∃ (v6 b7 : Int), [(1, b), (1, 2)] = [(1, v6), (1, b7)] ∧ (∀ (r8 : Int), ((r8 = 1 ∧ 0 ≤ v6 ∧ v6 < b7) ∨ (r8 = 0 ∧ (v6 < 0 ∨ b7 ≤ v6))) → ((r8 = 0 → (K [(1, (-1))] g)) ∧ (¬ (r8 = 0) → ((v < 1 → (K [(1, (-1))] g)) ∧ (¬ (v < 1) → ((v ≤ 99 → ((b ≠ 0 → (((0 : Int) ≤ a ∧ a < ((6 : Nat) : Int)) ∧ (((g 13 (Int.toNat a)) ≤ v → (∃ (k15 o16 v17 : Int), [(3, 4), (1, 2), (1, a), (1, v)] = [(3, 4), (1, k15), (1, o16), (1, v17)] ∧ (yTy zpZ g) ∧ (yok g k15 o16) ∧ (0 ≤ g 4 5 ∧ g 4 5 ≤ 40) ∧ (∀ (r18 : Int) (g19 : yM), (r18 = ykv g k15 o16) → (r18 = v17 → g19 = g) → (r18 ≠ v17 → yTy zpZ g19 ∧ yWz (ymk g k15 o16 v17) g19) → (K [(1, r18)] g19)))) ∧ (¬ ((g 13 (Int.toNat a)) ≤ v) → (K [(1, (-1))] g))))) ∧ (¬ (b ≠ 0) → (((0 : Int) ≤ a ∧ a < ((6 : Nat) : Int)) ∧ ((v ≤ (g 14 (Int.toNat a)) → (∃ (k22 o23 v24 : Int), [(3, 4), (1, 1), (1, a), (1, v)] = [(3, 4), (1, k22), (1, o23), (1, v24)] ∧ (yTy zpZ g) ∧ (yok g k22 o23) ∧ (0 ≤ g 4 5 ∧ g 4 5 ≤ 40) ∧ (∀ (r25 : Int) (g26 : yM), (r25 = ykv g k22 o23) → (r25 = v24 → g26 = g) → (r25 ≠ v24 → yTy zpZ g26 ∧ yWz (ymk g k22 o23 v24) g26) → (K [(1, r25)] g26)))) ∧ (¬ (v ≤ (g 14 (Int.toNat a))) → (K [(1, (-1))] g))))))) ∧ (¬ (v ≤ 99) → (K [(1, (-1))] g)))))))))))))
  refine ⟨_, _, rfl, ?_⟩
  intro r3 p40
  refine ⟨fun h5 => ?_, fun h5 => ?_⟩
  · exact hK _ _ (fun _ => ⟨rfl, rfl⟩) (fun h => absurd h (by omega)) (fun h => absurd h (by omega))
  · refine ⟨_, _, rfl, ?_⟩
    intro r8 p90
    refine ⟨fun h10 => ?_, fun h10 => ?_⟩
    · exact hK _ _ (fun _ => ⟨rfl, rfl⟩) (fun h => absurd h (by omega)) (fun h => absurd h (by omega))
    · refine ⟨fun h11 => ?_, fun h11 => ?_⟩
      · exact hK _ _ (fun _ => ⟨rfl, rfl⟩) (fun h => absurd h (by omega)) (fun h => absurd h (by omega))
      · refine ⟨fun h12 => ?_, fun h12 => ?_⟩
        · refine ⟨fun h13 => ?_, fun h13 => ?_⟩
          · refine ⟨(by omega), ?_⟩
            refine ⟨fun h14 => ?_, fun h14 => ?_⟩
            · refine ⟨_, _, _, rfl, (hp0), (by unfold yok; omega), (by omega), ?_⟩
              intro r18 g19 p200 p201 p202
              exact hK _ _ (fun h => absurd (by omega) h) (fun _ h => absurd h (by omega)) (fun _ _ => ⟨p200, p201, p202⟩)
            · exact hK _ _ (fun _ => ⟨rfl, rfl⟩) (fun h => absurd h (by omega)) (fun h => absurd h (by omega))
          · refine ⟨(by omega), ?_⟩
            refine ⟨fun h21 => ?_, fun h21 => ?_⟩
            · refine ⟨_, _, _, rfl, (hp0), (by unfold yok; omega), (by omega), ?_⟩
              intro r25 g26 p270 p271 p272
              exact hK _ _ (fun h => absurd (by omega) h) (fun _ _ => ⟨p270, p271, p272⟩) (fun _ h => absurd h (by omega))
            · exact hK _ _ (fun _ => ⟨rfl, rfl⟩) (fun h => absurd h (by omega)) (fun h => absurd h (by omega))
        · exact hK _ _ (fun _ => ⟨rfl, rfl⟩) (fun h => absurd h (by omega)) (fun h => absurd h (by omega))
theorem yM_CMA {l : Launch} {Ts : List Cond} {cl : List vw_C} {RO : zRO} (H : zHyp Ts cl RO) : yMet l Ts cl zpZ RO zpMT yC_CMA := ymet_of2 H.1 H.2.1 zpDj H.2.2.1 yRb H.p0 (ymets_cons (yM_W H) (ymets_cons (yM_MAK H) ymets_nil)) (zrc1 rfl) (plainFor_of_name zpy0) zpDk21 (fun as g K Y h hA hY => by
  obtain ⟨a, b, v, rfl, hp0, hp1, hK⟩ := h
  exact yv_CMA hY (yAr1 hA (by simp)) (yAr1 hA (by simp)) (yAr1 hA (by simp)) hp0 hp1 hK)
def yP_CYA : yPT := fun as g K => ∃ (a v : Int), as = [(3, 0), (1, a), (1, v)] ∧ (yTy zpZ g) ∧ (0 ≤ g 4 5 ∧ g 4 5 ≤ 40) ∧ (0 ≤ g 1 10 ∧ g 1 10 ≤ 1) ∧ (∀ (r : Int) (g' : yM), (¬ (0 ≤ a ∧ a ≤ 2 ∧ 0 ≤ v ∧ v ≤ 30 ∧ (a = 0 → v ≤ 3) ∧ (a = 2 → v ≤ 1)) → r = -1 ∧ g' = g) → ((0 ≤ a ∧ a ≤ 2 ∧ 0 ≤ v ∧ v ≤ 30 ∧ (a = 0 → v ≤ 3) ∧ (a = 2 → v ≤ 1)) → a = 0 → r = g 1 8 ∧ g' = yset g 1 8 v) → ((0 ≤ a ∧ a ≤ 2 ∧ 0 ≤ v ∧ v ≤ 30 ∧ (a = 0 → v ≤ 3) ∧ (a = 2 → v ≤ 1)) → a = 2 → r = g 1 10 ∧ g' = yset g 1 10 v) → ((0 ≤ a ∧ a ≤ 2 ∧ 0 ≤ v ∧ v ≤ 30 ∧ (a = 0 → v ≤ 3) ∧ (a = 2 → v ≤ 1)) → a = 1 → r = ykv g 3 0 ∧ (r = v → g' = g) ∧ (r ≠ v → yTy zpZ g' ∧ yWz (ymk g 3 0 v) g')) → K [(1, r)] g')
def yC_CYA : yC := (40, (6, 1044), yP_CYA)
set_option maxRecDepth 8000 in
theorem yv_CYA {K : List yV → yM → Prop} {Y : yNx} {g : yM} {a v : Int} (hY : yCl zpD40 (zpZ, zpRS, zpP0, zpMT, [yC_W, yC_MAK], (6, 1044), 1) K Y) (hr_a : -2147483648 ≤ a ∧ a ≤ 2147483647) (hr_v : -2147483648 ≤ v ∧ v ≤ 2147483647) (hp0 : yTy zpZ g) (hp1 : 0 ≤ g 4 5 ∧ g 4 5 ≤ 40) (hp2 : 0 ≤ g 1 10 ∧ g 1 10 ≤ 1) (hK : ∀ (r : Int) (g' : yM), (¬ (0 ≤ a ∧ a ≤ 2 ∧ 0 ≤ v ∧ v ≤ 30 ∧ (a = 0 → v ≤ 3) ∧ (a = 2 → v ≤ 1)) → r = -1 ∧ g' = g) → ((0 ≤ a ∧ a ≤ 2 ∧ 0 ≤ v ∧ v ≤ 30 ∧ (a = 0 → v ≤ 3) ∧ (a = 2 → v ≤ 1)) → a = 0 → r = g 1 8 ∧ g' = yset g 1 8 v) → ((0 ≤ a ∧ a ≤ 2 ∧ 0 ≤ v ∧ v ≤ 30 ∧ (a = 0 → v ≤ 3) ∧ (a = 2 → v ≤ 1)) → a = 2 → r = g 1 10 ∧ g' = yset g 1 10 v) → ((0 ≤ a ∧ a ≤ 2 ∧ 0 ≤ v ∧ v ≤ 30 ∧ (a = 0 → v ≤ 3) ∧ (a = 2 → v ≤ 1)) → a = 1 → r = ykv g 3 0 ∧ (r = v → g' = g) ∧ (r ≠ v → yTy zpZ g' ∧ yWz (ymk g 3 0 v) g')) → K [(1, r)] g') : Y 0 [(3, 0), (1, a), (1, v), (0, 0)] [] g := by
  refine yrun_ok (sp := fun pc => false) hY 23 0 _ [] g ?_
  show (((3 : Nat) : Int) = (2 : Int) - 0 + 1 ∧ (a < 0 ∨ 2 < a → (K [(1, (-1))] g)) ∧ (a = 0 → (∃ (v2 b3 : Int), [(1, v), (1, 4)] = [(1, v2), (1, b3)] ∧ (∀ (r4 : Int), ((r4 = 1 ∧ 0 ≤ v2 ∧ v2 < b3) ∨ (r4 = 0 ∧ (v2 < 0 ∨ b3 ≤ v2))) → ((r4 ≠ 0 → (K [(1, (g 1 8))] (yset g 1 8 v))) ∧ (¬ (r4 ≠ 0) → (K [(1, (-1))] g)))))) ∧ (a = 0 + 1 → (∃ (v7 b8 : Int), [(1, v), (1, 31)] = [(1, v7), (1, b8)] ∧ (∀ (r9 : Int), ((r9 = 1 ∧ 0 ≤ v7 ∧ v7 < b8) ∨ (r9 = 0 ∧ (v7 < 0 ∨ b8 ≤ v7))) → ((r9 = 0 → (K [(1, (-1))] g)) ∧ (¬ (r9 = 0) → (∃ (k12 o13 v14 : Int), [(3, 4), (1, 3), (1, 0), (1, v)] = [(3, 4), (1, k12), (1, o13), (1, v14)] ∧ (yTy zpZ g) ∧ (yok g k12 o13) ∧ (0 ≤ g 4 5 ∧ g 4 5 ≤ 40) ∧ (∀ (r15 : Int) (g16 : yM), (r15 = ykv g k12 o13) → (r15 = v14 → g16 = g) → (r15 ≠ v14 → yTy zpZ g16 ∧ yWz (ymk g k12 o13 v14) g16) → (K [(1, r15)] g16)))))))) ∧ (a = 0 + 1 + 1 → (∃ (v18 b19 : Int), [(1, v), (1, 2)] = [(1, v18), (1, b19)] ∧ (∀ (r20 : Int), ((r20 = 1 ∧ 0 ≤ v18 ∧ v18 < b19) ∨ (r20 = 0 ∧ (v18 < 0 ∨ b19 ≤ v18))) → ((r20 ≠ 0 → (((g 1 10) = 0 → ((v ≠ 1 → (((0 : Int) ≤ 0 ∧ 0 ≤ (1 : Int)) ∧ (K [(1, 0)] (yset g 1 10 0)))) ∧ (¬ (v ≠ 1) → (((0 : Int) ≤ 1 ∧ 1 ≤ (1 : Int)) ∧ (K [(1, 0)] (yset g 1 10 1)))))) ∧ (¬ ((g 1 10) = 0) → ((v ≠ 1 → (((0 : Int) ≤ 0 ∧ 0 ≤ (1 : Int)) ∧ (K [(1, 1)] (yset g 1 10 0)))) ∧ (¬ (v ≠ 1) → (((0 : Int) ≤ 1 ∧ 1 ≤ (1 : Int)) ∧ (K [(1, 1)] (yset g 1 10 1)))))))) ∧ (¬ (r20 ≠ 0) → (K [(1, (-1))] g)))))) ∧ True)
  refine ⟨by decide, fun h1 => ?_, fun h1 => ?_, fun h1 => ?_, fun h1 => ?_, trivial⟩
  · exact hK _ _ (fun _ => ⟨rfl, rfl⟩) (fun h => absurd h (by omega)) (fun h => absurd h (by omega)) (fun h => absurd h (by omega))
  · refine ⟨_, _, rfl, ?_⟩
    intro r4 p50
    refine ⟨fun h6 => ?_, fun h6 => ?_⟩
    · exact hK _ _ (fun h => absurd (by omega) h) (fun _ _ => ⟨rfl, rfl⟩) (fun _ h => absurd h (by omega)) (fun _ h => absurd h (by omega))
    · exact hK _ _ (fun _ => ⟨rfl, rfl⟩) (fun h => absurd h (by omega)) (fun h => absurd h (by omega)) (fun h => absurd h (by omega))
  · refine ⟨_, _, rfl, ?_⟩
    intro r9 p100
    refine ⟨fun h11 => ?_, fun h11 => ?_⟩
    · exact hK _ _ (fun _ => ⟨rfl, rfl⟩) (fun h => absurd h (by omega)) (fun h => absurd h (by omega)) (fun h => absurd h (by omega))
    · refine ⟨_, _, _, rfl, (hp0), (by unfold yok; omega), (by omega), ?_⟩
      intro r15 g16 p170 p171 p172
      exact hK _ _ (fun h => absurd (by omega) h) (fun _ h => absurd h (by omega)) (fun _ h => absurd h (by omega)) (fun _ _ => ⟨p170, p171, p172⟩)
  · refine ⟨_, _, rfl, ?_⟩
    intro r20 p210
    refine ⟨fun h22 => ?_, fun h22 => ?_⟩
    · refine ⟨fun h23 => ?_, fun h23 => ?_⟩
      · refine ⟨fun h24 => ?_, fun h24 => ?_⟩
        · refine ⟨(by omega), ?_⟩
          first
            | omega
            | (have e : v = 0 := by omega
               have e2 : g 1 10 = 0 := by omega
               exact hK _ _ (fun h => absurd (by omega) h) (fun _ h => absurd h (by omega)) (fun _ _ => ⟨e2.symm, by rw [e]⟩) (fun _ h => absurd h (by omega)))
        · refine ⟨(by omega), ?_⟩
          first
            | omega
            | (have e : v = 1 := by omega
               have e2 : g 1 10 = 0 := by omega
               exact hK _ _ (fun h => absurd (by omega) h) (fun _ h => absurd h (by omega)) (fun _ _ => ⟨e2.symm, by rw [e]⟩) (fun _ h => absurd h (by omega)))
      · refine ⟨fun h25 => ?_, fun h25 => ?_⟩
        · refine ⟨(by omega), ?_⟩
          first
            | omega
            | (have e : v = 0 := by omega
               have e2 : g 1 10 = 1 := by omega
               exact hK _ _ (fun h => absurd (by omega) h) (fun _ h => absurd h (by omega)) (fun _ _ => ⟨e2.symm, by rw [e]⟩) (fun _ h => absurd h (by omega)))
        · refine ⟨(by omega), ?_⟩
          first
            | omega
            | (have e : v = 1 := by omega
               have e2 : g 1 10 = 1 := by omega
               exact hK _ _ (fun h => absurd (by omega) h) (fun _ h => absurd h (by omega)) (fun _ _ => ⟨e2.symm, by rw [e]⟩) (fun _ h => absurd h (by omega)))
    · exact hK _ _ (fun _ => ⟨rfl, rfl⟩) (fun h => absurd h (by omega)) (fun h => absurd h (by omega)) (fun h => absurd h (by omega))
theorem yM_CYA {l : Launch} {Ts : List Cond} {cl : List vw_C} {RO : zRO} (H : zHyp Ts cl RO) : yMet l Ts cl zpZ RO zpMT yC_CYA := ymet_of2 H.1 H.2.1 zpDj H.2.2.1 yRb H.p0 (ymets_cons (yM_W H) (ymets_cons (yM_MAK H) ymets_nil)) (zrc1 rfl) (plainFor_of_name zpy0) zpDk40 (fun as g K Y h hA hY => by
  obtain ⟨a, v, rfl, hp0, hp1, hp2, hK⟩ := h
  exact yv_CYA hY (yAr1 hA (by simp)) (yAr1 hA (by simp)) hp0 hp1 hp2 hK)
def yP_CCA : yPT := fun as g K => ∃ (w v : Int), as = [(3, 0), (1, w), (1, v)] ∧ (yTy zpZ g) ∧ (0 ≤ g 4 5 ∧ g 4 5 ≤ 40) ∧ (0 ≤ g 1 1 ∧ g 1 1 ≤ 40) ∧ (∀ (r : Int) (g' : yM), (¬ (0 ≤ w ∧ w < g 1 1 ∧ 0 ≤ v ∧ v < g (50 + Int.toNat w) 2) → r = -1 ∧ g' = g) → ((0 ≤ w ∧ w < g 1 1 ∧ 0 ≤ v ∧ v < g (50 + Int.toNat w) 2) → r = ykv g 0 w ∧ (r = v → g' = g) ∧ (r ≠ v → yTy zpZ g' ∧ yWz (ymk g 0 w v) g')) → K [(1, r)] g')
def yC_CCA : yC := (4, (6, 1044), yP_CCA)
set_option maxRecDepth 8000 in
theorem yv_CCA {K : List yV → yM → Prop} {Y : yNx} {g : yM} {w v : Int} (hY : yCl zpD4 (zpZ, zpRS, zpP0, zpMT, [yC_W, yC_HC, yC_MAK], (6, 1044), 1) K Y) (hr_w : -2147483648 ≤ w ∧ w ≤ 2147483647) (hr_v : -2147483648 ≤ v ∧ v ≤ 2147483647) (hp0 : yTy zpZ g) (hp1 : 0 ≤ g 4 5 ∧ g 4 5 ≤ 40) (hp2 : 0 ≤ g 1 1 ∧ g 1 1 ≤ 40) (hK : ∀ (r : Int) (g' : yM), (¬ (0 ≤ w ∧ w < g 1 1 ∧ 0 ≤ v ∧ v < g (50 + Int.toNat w) 2) → r = -1 ∧ g' = g) → ((0 ≤ w ∧ w < g 1 1 ∧ 0 ≤ v ∧ v < g (50 + Int.toNat w) 2) → r = ykv g 0 w ∧ (r = v → g' = g) ∧ (r ≠ v → yTy zpZ g' ∧ yWz (ymk g 0 w v) g')) → K [(1, r)] g') : Y 0 [(3, 0), (1, w), (1, v)] [] g := by
  refine yrun_ok (sp := fun pc => false) hY 21 0 _ [] g ?_
  show (∃ (w1 : Int), [(3, 1), (1, w)] = [(3, 1), (1, w1)] ∧ (∀ (r2 : Int), ((r2 = 1 ∧ 0 ≤ w1 ∧ w1 < g 1 1) ∨ (r2 = 0 ∧ (w1 < 0 ∨ g 1 1 ≤ w1))) → ((r2 = 0 → (K [(1, (-1))] g)) ∧ (¬ (r2 = 0) → (((0 : Int) ≤ w ∧ w < ((40 : Nat) : Int)) ∧ (∃ (v5 b6 : Int), [(1, v), (1, (g (50 + Int.toNat w) 2))] = [(1, v5), (1, b6)] ∧ (∀ (r7 : Int), ((r7 = 1 ∧ 0 ≤ v5 ∧ v5 < b6) ∨ (r7 = 0 ∧ (v5 < 0 ∨ b6 ≤ v5))) → ((r7 ≠ 0 → (∃ (k10 o11 v12 : Int), [(3, 4), (1, 0), (1, w), (1, v)] = [(3, 4), (1, k10), (1, o11), (1, v12)] ∧ (yTy zpZ g) ∧ (yok g k10 o11) ∧ (0 ≤ g 4 5 ∧ g 4 5 ≤ 40) ∧ (∀ (r13 : Int) (g14 : yM), (r13 = ykv g k10 o11) → (r13 = v12 → g14 = g) → (r13 ≠ v12 → yTy zpZ g14 ∧ yWz (ymk g k10 o11 v12) g14) → (K [(1, r13)] g14)))) ∧ (¬ (r7 ≠ 0) → (K [(1, (-1))] g))))))))))
  refine ⟨_, rfl, ?_⟩
  intro r2 p30
  refine ⟨fun h4 => ?_, fun h4 => ?_⟩
  · exact hK _ _ (fun _ => ⟨rfl, rfl⟩) (fun h => absurd h (by omega))
  · refine ⟨(by omega), ?_⟩
    refine ⟨_, _, rfl, ?_⟩
    intro r7 p80
    refine ⟨fun h9 => ?_, fun h9 => ?_⟩
    · refine ⟨_, _, _, rfl, (hp0), (by unfold yok; omega), (by omega), ?_⟩
      intro r13 g14 p150 p151 p152
      exact hK _ _ (fun h => absurd (by omega) h) (fun _ => ⟨p150, p151, p152⟩)
    · exact hK _ _ (fun _ => ⟨rfl, rfl⟩) (fun h => absurd h (by omega))
theorem yM_CCA {l : Launch} {Ts : List Cond} {cl : List vw_C} {RO : zRO} (H : zHyp Ts cl RO) : yMet l Ts cl zpZ RO zpMT yC_CCA := ymet_of2 H.1 H.2.1 zpDj H.2.2.1 yRb H.p0 (ymets_cons (yM_W H) (ymets_cons (yM_HC H) (ymets_cons (yM_MAK H) ymets_nil))) (zrc1 rfl) (plainFor_of_name zpy0) zpDk4 (fun as g K Y h hA hY => by
  obtain ⟨w, v, rfl, hp0, hp1, hp2, hK⟩ := h
  exact yv_CCA hY (yAr1 hA (by simp)) (yAr1 hA (by simp)) hp0 hp1 hp2 hK)
def yP_CUN : yPT := fun as g K => as = [(3, 0)] ∧ (yTy zpZ g) ∧ (0 ≤ g 4 5 ∧ g 4 5 ≤ 40) ∧ (0 < g 4 5 → yok g (g 19 (Int.toNat (g 4 5 - 1))) (g 20 (Int.toNat (g 4 5 - 1)))) ∧ (∀ (r : Int) (g' : yM), ((r = -5 ∧ g 4 5 = 0) ∨ (r = g 4 5 - 1 ∧ 0 < g 4 5)) → (g 4 5 = 0 → g' = g) → (0 < g 4 5 → yTy zpZ g' ∧ yWz (ysv (yset g 4 5 (g 4 5 - 1)) (g 19 (Int.toNat (g 4 5 - 1))) (g 20 (Int.toNat (g 4 5 - 1))) (g 21 (Int.toNat (g 4 5 - 1)))) g') → K [(1, r)] g')
def yC_CUN : yC := (37, (6, 153), yP_CUN)
set_option maxRecDepth 8000 in
theorem yv_CUN {K : List yV → yM → Prop} {Y : yNx} {g : yM} (hY : yCl zpD37 (zpZ, zpRS, zpP0, zpMT, [yC_BKC], (6, 153), 1) K Y) (hp0 : yTy zpZ g) (hp1 : 0 ≤ g 4 5 ∧ g 4 5 ≤ 40) (hp2 : 0 < g 4 5 → yok g (g 19 (Int.toNat (g 4 5 - 1))) (g 20 (Int.toNat (g 4 5 - 1)))) (hK : ∀ (r : Int) (g' : yM), ((r = -5 ∧ g 4 5 = 0) ∨ (r = g 4 5 - 1 ∧ 0 < g 4 5)) → (g 4 5 = 0 → g' = g) → (0 < g 4 5 → yTy zpZ g' ∧ yWz (ysv (yset g 4 5 (g 4 5 - 1)) (g 19 (Int.toNat (g 4 5 - 1))) (g 20 (Int.toNat (g 4 5 - 1))) (g 21 (Int.toNat (g 4 5 - 1)))) g') → K [(1, r)] g') : Y 0 [(3, 0)] [] g := by
  refine yrun_ok (sp := fun pc => false) hY 11 0 _ [] g ?_
  show (((g 4 5) ≠ 0 → ([(3, 4)] = [(3, 4)] ∧ (yTy zpZ g) ∧ (0 ≤ g 4 5 ∧ g 4 5 ≤ 40) ∧ (0 < g 4 5 → yok g (g 19 (Int.toNat (g 4 5 - 1))) (g 20 (Int.toNat (g 4 5 - 1)))) ∧ (∀ (g2 : yM), (g 4 5 = 0 → g2 = g) → (0 < g 4 5 → yTy zpZ g2 ∧ yWz (ysv (yset g 4 5 (g 4 5 - 1)) (g 19 (Int.toNat (g 4 5 - 1))) (g 20 (Int.toNat (g 4 5 - 1))) (g 21 (Int.toNat (g 4 5 - 1)))) g2) → (K [(1, (g2 4 5))] g2)))) ∧ (¬ ((g 4 5) ≠ 0) → (K [(1, (-5))] g)))
  refine ⟨fun h1 => ?_, fun h1 => ?_⟩
  · refine ⟨rfl, (hp0), (hp1), (hp2), ?_⟩
    intro g2 p30 p31
    have e5 : g2 4 5 = g 4 5 - 1 := by
      rw [(p31 (by omega)).2.1 4 5 (by omega), ysv_nc ((hp2 (by omega)).mono (yset_nc (by decide))) (by omega), yset_eq]
    exact hK _ _ (by omega) (fun h => absurd h (by omega)) p31
  · exact hK _ _ (by omega) (fun _ => rfl) (fun h => absurd h (by omega))
theorem yM_CUN {l : Launch} {Ts : List Cond} {cl : List vw_C} {RO : zRO} (H : zHyp Ts cl RO) : yMet l Ts cl zpZ RO zpMT yC_CUN := ymet_of2 H.1 H.2.1 zpDj H.2.2.1 yRb H.p0 (ymets_cons (yM_BKC H) ymets_nil) (zrc1 rfl) (plainFor_of_name zpy0) zpDk37 (fun as g K Y h hA hY => by
  obtain ⟨rfl, hp0, hp1, hp2, hK⟩ := h
  exact yv_CUN hY  hp0 hp1 hp2 hK)
def yP_CRE : yPT := fun as g K => as = [(3, 0)] ∧ (yTy zpZ g) ∧ (0 ≤ g 4 5 ∧ g 4 5 ≤ g 4 6 ∧ g 4 6 ≤ 40) ∧ (g 4 5 < g 4 6 → yok g (g 19 (Int.toNat (g 4 5))) (g 20 (Int.toNat (g 4 5)))) ∧ (∀ (r : Int) (g' : yM), ((r = -5 ∧ g 4 5 = g 4 6) ∨ (r = g 4 6 - (g 4 5 + 1) ∧ g 4 5 < g 4 6)) → (g 4 5 = g 4 6 → g' = g) → (g 4 5 < g 4 6 → yTy zpZ g' ∧ ∃ M, yWz (ysv g (g 19 (Int.toNat (g 4 5))) (g 20 (Int.toNat (g 4 5))) (g 22 (Int.toNat (g 4 5)))) M ∧ g' = yset M 4 5 (g 4 5 + 1)) → K [(1, r)] g')
def yC_CRE : yC := (27, (6, 153), yP_CRE)
set_option maxRecDepth 8000 in
theorem yv_CRE {K : List yV → yM → Prop} {Y : yNx} {g : yM} (hY : yCl zpD27 (zpZ, zpRS, zpP0, zpMT, [yC_AGC], (6, 153), 1) K Y) (hp0 : yTy zpZ g) (hp1 : 0 ≤ g 4 5 ∧ g 4 5 ≤ g 4 6 ∧ g 4 6 ≤ 40) (hp2 : g 4 5 < g 4 6 → yok g (g 19 (Int.toNat (g 4 5))) (g 20 (Int.toNat (g 4 5)))) (hK : ∀ (r : Int) (g' : yM), ((r = -5 ∧ g 4 5 = g 4 6) ∨ (r = g 4 6 - (g 4 5 + 1) ∧ g 4 5 < g 4 6)) → (g 4 5 = g 4 6 → g' = g) → (g 4 5 < g 4 6 → yTy zpZ g' ∧ ∃ M, yWz (ysv g (g 19 (Int.toNat (g 4 5))) (g 20 (Int.toNat (g 4 5))) (g 22 (Int.toNat (g 4 5)))) M ∧ g' = yset M 4 5 (g 4 5 + 1)) → K [(1, r)] g') : Y 0 [(3, 0)] [] g := by
  refine yrun_ok (sp := fun pc => false) hY 18 0 _ [] g ?_
  show (((g 4 5) ≠ (g 4 6) → ([(3, 4)] = [(3, 4)] ∧ (yTy zpZ g) ∧ (0 ≤ g 4 5 ∧ g 4 5 ≤ g 4 6 ∧ g 4 6 ≤ 40) ∧ (g 4 5 < g 4 6 → yok g (g 19 (Int.toNat (g 4 5))) (g 20 (Int.toNat (g 4 5)))) ∧ (∀ (g2 : yM), (g 4 5 = g 4 6 → g2 = g) → (g 4 5 < g 4 6 → yTy zpZ g2 ∧ ∃ M, yWz (ysv g (g 19 (Int.toNat (g 4 5))) (g 20 (Int.toNat (g 4 5))) (g 22 (Int.toNat (g 4 5)))) M ∧ g2 = yset M 4 5 (g 4 5 + 1)) → (K [(1, (yw ((g2 4 6) - (g2 4 5))))] g2)))) ∧ (¬ ((g 4 5) ≠ (g 4 6)) → (K [(1, (-5))] g)))
  refine ⟨fun h1 => ?_, fun h1 => ?_⟩
  · refine ⟨rfl, (hp0), (hp1), (hp2), ?_⟩
    intro g2 p30 p31
    obtain ⟨_, M, m1, m2⟩ := p31 (by omega)
    have e5 : g2 4 5 = g 4 5 + 1 := by rw [m2, yset_eq]
    have e6 : g2 4 6 = g 4 6 := by
      rw [m2, yset_ne (by omega), m1.1 4 6 (by omega)]
      exact ysv_nc (hp2 (by omega)) (by omega)
    have e7 := yw_s (g2 4 6 - g2 4 5)
    exact hK _ _ (by omega) (fun h => absurd h (by omega)) p31
  · exact hK _ _ (by omega) (fun _ => rfl) (fun h => absurd h (by omega))
theorem yM_CRE {l : Launch} {Ts : List Cond} {cl : List vw_C} {RO : zRO} (H : zHyp Ts cl RO) : yMet l Ts cl zpZ RO zpMT yC_CRE := ymet_of2 H.1 H.2.1 zpDj H.2.2.1 yRb H.p0 (ymets_cons (yM_AGC H) ymets_nil) (zrc1 rfl) (plainFor_of_name zpy0) zpDk27 (fun as g K Y h hA hY => by
  obtain ⟨rfl, hp0, hp1, hp2, hK⟩ := h
  exact yv_CRE hY  hp0 hp1 hp2 hK)
