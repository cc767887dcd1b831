/-! TEXTS: THE PIECES -/
def yP_Og_11 (lv : Nat) : yPT := fun as g K => ∃ (o : Int), as = [(3, 11), (1, o)] ∧ (yPe 11 g) ∧ (o + (lv : Int) = 6 ∧ 0 ≤ o) ∧ (∀ (g' : yM), (yPo 11 g g' (yOn (yTs g) lv (g 2 1))) → K [] g')
def yC_Og_11 (lv : Nat) : yC := (115, (26 + 6 * lv, 1210 + 150 * lv), yP_Og_11 lv)
def yP_Pg_11 (lv : Nat) : yPT := fun as g K => ∃ (o : Int), as = [(3, 11), (1, o)] ∧ (yPe 11 g) ∧ (o + (lv : Int) = 6 ∧ 0 ≤ o) ∧ (∀ (g' : yM), (yPo 11 g g' (yPro (yTs g) (yOn (yTs g) lv) (g 2 1))) → K [] g')
def yC_Pg_11 (lv : Nat) : yC := (116, (27 + 6 * lv, 1235 + 150 * lv), yP_Pg_11 lv)
def yP_Sg_11 (lv : Nat) : yPT := fun as g K => ∃ (o : Int), as = [(3, 11), (1, o)] ∧ (yPe 11 g) ∧ (o + (lv : Int) = 6 ∧ 0 ≤ o) ∧ (∀ (g' : yM), (yPo 11 g g' (ySum (yTs g) (yOn (yTs g) lv) (g 2 1))) → K [] g')
def yC_Sg_11 (lv : Nat) : yC := (117, (28 + 6 * lv, 1260 + 150 * lv), yP_Sg_11 lv)
def yP_Cg_11 (lv : Nat) : yPT := fun as g K => ∃ (o : Int), as = [(3, 11), (1, o)] ∧ (yPe 11 g) ∧ (o + (lv : Int) = 6 ∧ 0 ≤ o) ∧ (∀ (g' : yM), (yPo 11 g g' (yCmp (yTs g) (yOn (yTs g) lv) (g 2 1))) → K [] g')
def yC_Cg_11 (lv : Nat) : yC := (112, (29 + 6 * lv, 1285 + 150 * lv), yP_Cg_11 lv)
def yP_Bg_11 (lv : Nat) : yPT := fun as g K => ∃ (o : Int), as = [(3, 11), (1, o)] ∧ (yPe 11 g) ∧ (o + (lv : Int) = 6 ∧ 0 ≤ o) ∧ (∀ (g' : yM), (yPo 11 g g' (yBot (yTs g) (yOn (yTs g) lv) (g 2 1))) → K [] g')
def yC_Bg_11 (lv : Nat) : yC := (111, (30 + 6 * lv, 1310 + 150 * lv), yP_Bg_11 lv)
def yP_Eg_11 (lv : Nat) : yPT := fun as g K => ∃ (o : Int), as = [(3, 11), (1, o)] ∧ (yPe 11 g) ∧ (o + (lv : Int) = 6 ∧ 0 ≤ o) ∧ (∀ (g' : yM), (yPo 11 g g' (yEit (yTs g) (yOn (yTs g) lv) (g 2 1))) → K [] g')
def yC_Eg_11 (lv : Nat) : yC := (113, (31 + 6 * lv, 1335 + 150 * lv), yP_Eg_11 lv)
set_option maxRecDepth 8000 in
theorem yt_Oz_11 {K : List yV → yM → Prop} {Y : yNx} {g : yM} {s z : Int} {w3 : yV} (hY : yCl zpD115 (zpZ, zpRS, zpP10, zpMT, [yC_SG3, yC_AP3, yC_RN4, yC_ID, yC_SP, yC_AS11], (50, 5000), 0) K Y) (hp : yPe 11 g) (hs : (s = -1 ∧ yTs g (g 2 1) = 0 ∧ z = -1) ∨ (s = yTs g (g 2 1) ∧ 0 ≤ s ∧ s ≤ 255 ∧ g 2 1 < g 2 2 ∧ z = yKx (yTs g (g 2 1)))) (hK : ∀ g' : yM, yPo 11 g g' (yOn (yTs g) 0 (g 2 1)) → K [] g') : Y 24 [(3, 11), (1, 6), (1, s), w3] [(1, z)] g := by
  obtain ⟨hT0, hf, hpl, hle, hk0, hk1⟩ := id hp
  have tg := yTs_tg hle
  have kb := yKx_b (yTs g (g 2 1))
  have tb := yTs_b g (g 2 1)
  have k0 : yTs g (g 2 1) = 0 → yKx (yTs g (g 2 1)) = -1 := fun e => by rw [e]; decide
  have kn : 0 ≤ yKx (yTs g (g 2 1)) → 97 ≤ yTs g (g 2 1) ∧ yTs g (g 2 1) ≤ 119 := yKx_n
  have h60 : yTs g (g 2 1) ≠ 0 → g 2 1 < 60 := tg (g 2 1) hpl.1
  have gd : 48 ≤ yTs g (g 2 1) ∧ yTs g (g 2 1) ≤ 57 → g 2 1 < (yNm (yTs g) 4 (g 2 1) 0).1 ∧ (yNm (yTs g) 4 (g 2 1) 0).1 ≤ 60 := fun h => by
    have z1 := (yOn_gd tg 0 (g 2 1) hpl.1 hpl.2).1 (by rw [yOn_d h])
    rw [yOn_d h] at z1
    exact ⟨z1.1, z1.2.1⟩
  refine yrun_ok (sp := fun pc => false) hY 18 24 _ [(1, z)] g ?_
  show (∃ (v1 : Int), [(1, s)] = [(1, v1)] ∧ (∀ (r2 : Int), ((r2 = 1 ∧ 48 ≤ v1 ∧ v1 ≤ 57) ∨ (r2 = 0 ∧ (v1 < 48 ∨ 57 < v1))) → ((r2 = 0 → ((z = (-1) → (((6 : Int) < 6 → _) ∧ (¬ (6 : Int) < 6 → ([(3, 2)] = [(3, 2)] ∧ (0 ≤ g 2 1 ∧ g 2 1 ≤ 60) ∧ (∀ (g7 : yM), (g 2 3 = -1 → g7 = yset g 2 3 (g 2 1)) → (g 2 3 ≠ -1 → g7 = g) → (K [] g7)))))) ∧ (¬ (z = (-1)) → (∃ (c9 : Int), [(3, 2), (1, s)] = [(3, 2), (1, c9)] ∧ (0 ≤ g 2 1 ∧ g 2 1 ≤ 60) ∧ (g 2 2 ≤ 60) ∧ (1 ≤ c9) ∧ (∀ (r10 : Int) (g11 : yM), ((r10 = 1 ∧ g 2 3 = -1 ∧ yTs g (g 2 1) = c9 ∧ g11 = yset g 2 1 (g 2 1 + 1)) ∨ (r10 = 0 ∧ (g 2 3 ≠ -1 ∨ yTs g (g 2 1) ≠ c9) ∧ g11 = g)) → (∃ (s13 n14 : Int), [(3, 11), (1, 78), (1, z)] = [(3, 11), (1, s13), (1, n14)] ∧ (yTy zpZ g11) ∧ (0 ≤ g11 11 4 ∧ g11 11 4 ≤ 61) ∧ (s13 = 78 → 0 ≤ n14 ∧ n14 ≤ 7) ∧ (s13 = 63 → 0 ≤ n14) ∧ (∀ (g15 : yM), (yAs 11 g11 g15 s13 n14) → (K [] g15)))))))) ∧ (¬ (r2 = 0) → ([(3, 2), (1, 4), (1, 0), (1, 9999)] = [(3, 2), (1, 4), (1, 0), (1, 9999)] ∧ (g 2 3 = -1) ∧ (0 ≤ g 2 1 ∧ g 2 1 ≤ 60) ∧ (g 2 2 ≤ 60) ∧ (48 ≤ yTs g (g 2 1) ∧ yTs g (g 2 1) ≤ 57) ∧ (∀ (r17 : Int) (g18 : yM), (r17 = (yNm (yTs g) 4 (g 2 1) 0).2) → (g18 = yset g 2 1 (yNm (yTs g) 4 (g 2 1) 0).1) → (0 ≤ r17 ∧ r17 ≤ 9999) → (∃ (s20 n21 : Int), [(3, 11), (1, 86), (1, r17)] = [(3, 11), (1, s20), (1, n21)] ∧ (yTy zpZ g18) ∧ (0 ≤ g18 11 4 ∧ g18 11 4 ≤ 61) ∧ (s20 = 78 → 0 ≤ n21 ∧ n21 ≤ 7) ∧ (s20 = 63 → 0 ≤ n21) ∧ (∀ (g22 : yM), (yAs 11 g18 g22 s20 n21) → (K [] g22)))))))))
  refine ⟨_, rfl, ?_⟩
  intro r2 p30
  refine ⟨fun h4 => ?_, fun h4 => ?_⟩
  · refine ⟨fun h5 => ?_, fun h5 => ?_⟩
    · refine ⟨fun h6 => absurd h6 (by decide), fun _ => ?_⟩
      refine ⟨rfl, (by omega), ?_⟩
      intro g7 p80 p81
      have n1 : ¬ (48 ≤ yTs g (g 2 1) ∧ yTs g (g 2 1) ≤ 57) := by omega
      have n2 : ¬ 0 ≤ yKx (yTs g (g 2 1)) := by omega
      have e := p80 hf
      subst e
      refine hK _ ?_
      rw [yOn_0 n1 n2]
      exact yPo.bad (Or.inr rfl) hp rfl
    · refine ⟨_, rfl, (by omega), (by omega), (by omega), ?_⟩
      intro r10 g11 p120
      refine ⟨_, _, rfl, (by
      have ep120 : g11 = (yset g 2 1 (g 2 1 + 1)) := by
        rcases p120 with ⟨-, -, -, z1⟩ | ⟨z1, z2, -⟩
        · exact z1
        · omega
      subst ep120
      have h61 := h60 (by omega)
      exact hT0.sO (List.mem_of_getElem? (i := 2) rfl) rfl (by decide +kernel) ⟨by omega, by omega⟩), (by
      have ep120 : g11 = (yset g 2 1 (g 2 1 + 1)) := by
        rcases p120 with ⟨-, -, -, z1⟩ | ⟨z1, z2, -⟩
        · exact z1
        · omega
      subst ep120
      rw [yset_nc (by decide)]
      omega), (by
      have ep120 : g11 = (yset g 2 1 (g 2 1 + 1)) := by
        rcases p120 with ⟨-, -, -, z1⟩ | ⟨z1, z2, -⟩
        · exact z1
        · omega
      subst ep120
      omega), (by
      have ep120 : g11 = (yset g 2 1 (g 2 1 + 1)) := by
        rcases p120 with ⟨-, -, -, z1⟩ | ⟨z1, z2, -⟩
        · exact z1
        · omega
      subst ep120
      omega), ?_⟩
      intro g15 p160
      have ep120 : g11 = (yset g 2 1 (g 2 1 + 1)) := by
        rcases p120 with ⟨-, -, -, z1⟩ | ⟨z1, z2, -⟩
        · exact z1
        · omega
      subst ep120
      have hk : 0 ≤ yKx (yTs g (g 2 1)) := by omega
      have ez : z = yKx (yTs g (g 2 1)) := by omega
      have h61 := h60 (by omega)
      rw [ez] at p160
      refine hK _ ?_
      rw [yOn_k hk]
      exact yPo.one (Or.inr rfl) hp ⟨by omega, by omega⟩ p160
  · refine ⟨rfl, (by omega), (by omega), (by omega), (by omega), ?_⟩
    intro r17 g18 p190 p191 p192
    subst p190
    subst p191
    refine ⟨_, _, rfl, (by
      have gd1 := gd (by omega)
      exact hT0.sO (List.mem_of_getElem? (i := 2) rfl) rfl (by decide +kernel) ⟨by omega, by omega⟩), (by
      rw [yset_nc (by decide)]
      omega), (by omega), (by omega), ?_⟩
    intro g22 p230
    have hd : 48 ≤ yTs g (g 2 1) ∧ yTs g (g 2 1) ≤ 57 := by omega
    refine hK _ ?_
    rw [yOn_d hd]
    exact yPo.one (Or.inr rfl) hp (gd hd) p230
set_option maxRecDepth 8000 in
theorem yv_Oz_11 {K : List yV → yM → Prop} {Y : yNx} {g : yM} (hY : yCl zpD115 (zpZ, zpRS, zpP10, zpMT, [yC_SG3, yC_AP3, yC_RN4, yC_ID, yC_SP, yC_AS11], (50, 5000), 0) K Y) (hX : ∀ (L : List yV) (g : yM) (v : Int), 0 ≤ v → v ≤ 255 → L[2]? = some (1, v) → (∀ r : Int, yNX v r → Y 24 L [(1, r)] g) → Y 17 L [] g) (hp0 : yPe 11 g) (hK : ∀ g' : yM, yPo 11 g g' (yOn (yTs g) 0 (g 2 1)) → K [] g') : Y 0 [(3, 11), (1, 6), (0, 0), (0, 0)] [] g := by
  have hp := hp0
  obtain ⟨hT0, hf, hpl, hle, hk0, hk1⟩ := id hp
  have tg := yTs_tg hle
  refine yrun_ok (sp := fun pc => Nat.beq pc 17 || Nat.beq pc 24) hY 10 0 _ [] g ?_
  show ([(3, 2)] = [(3, 2)] ∧ (0 ≤ g 2 1) ∧ (g 2 2 ≤ 60) ∧ (∀ (r1 : Int), (g 2 3 = -1 → (r1 = -1 ∧ g 2 2 ≤ g 2 1) ∨ (g 2 1 < g 2 2 ∧ r1 = yTs g (g 2 1))) → (g 2 3 ≠ -1 → r1 = -1) → (-1 ≤ r1 ∧ r1 ≤ 255) → ((r1 ≠ (-1) → (Y 17 [(3, 11), (1, 6), (1, r1), (0, 0)] [] g)) ∧ (¬ (r1 ≠ (-1)) → (Y 24 [(3, 11), (1, 6), (1, r1), (0, 0)] [(1, (-1))] g)))))
  refine ⟨rfl, (by omega), (by omega), ?_⟩
  intro r1 p20 p21 p22
  refine ⟨fun h3 => ?_, fun h3 => ?_⟩
  · have q0 := p20 hf
    have q1 := p22
    have q2 : g 2 1 < g 2 2 ∧ r1 = yTs g (g 2 1) := by omega
    refine hX _ _ r1 (by have := yTs_b g (g 2 1); omega) q1.2 rfl (fun z hz => ?_)
    have ez := yKx_of hz
    rw [q2.2] at ez
    exact yt_Oz_11 hY hp (Or.inr ⟨q2.2, by have := yTs_b g (g 2 1); omega, q1.2, q2.1, ez⟩) hK
  · have q0 := p20 hf
    have tb := yTs_b g (g 2 1)
    refine yt_Oz_11 hY hp (Or.inl ⟨by omega, yTs_z (by omega), rfl⟩) hK
theorem yR_Oz_11 : yRl zpMT (26 + 6 * 0, 1210 + 150 * 0) [yC_SG3, yC_AP3, yC_RN4, yC_ID, yC_SP, yC_AS11] [yC_SG3, yC_AP3, yC_RN4, yC_ID, yC_SP, yC_AS11] := (yRl_cons rfl rfl (by show 1 + 1 ≤ 26 + 6 * 0; omega) (by show 8 + (1 + 11) + (40) ≤ 1210 + 150 * 0; omega) (yRl_cons rfl rfl (by show 2 + 1 ≤ 26 + 6 * 0; omega) (by show 8 + (2 + 11) + (60) ≤ 1210 + 150 * 0; omega) (yRl_cons rfl rfl (by show 2 + 1 ≤ 26 + 6 * 0; omega) (by show 8 + (7 + 11) + (60) ≤ 1210 + 150 * 0; omega) (yRl_cons rfl rfl (by show 1 + 1 ≤ 26 + 6 * 0; omega) (by show 8 + (1 + 11) + (40) ≤ 1210 + 150 * 0; omega) (yRl_cons rfl rfl (by show 1 + 1 ≤ 26 + 6 * 0; omega) (by show 8 + (1 + 11) + (40) ≤ 1210 + 150 * 0; omega) (yRl_cons rfl rfl (by show 1 + 1 ≤ 26 + 6 * 0; omega) (by show 8 + (3 + 11) + (40) ≤ 1210 + 150 * 0; omega) yRl_nil))))))
theorem yM_Oz_11 {l : Launch} (H : zHyp zpTs zpcl zpRO) : yMet l zpTs zpcl zpZ zpRO zpMT (yC_Og_11 0) := ymet_ofX2 H.1 H.2.1 zpDj H.2.2.1 yRb H.p10 (ymets_cons (yM_SG3 H) (ymets_cons (yM_AP3 H) (ymets_cons (yM_RN4 H) (ymets_cons (yM_ID H) (ymets_cons (yM_SP H) (ymets_cons (yM_AS11 H) ymets_nil)))))) (zrc0 rfl) (plainFor_of_name zpy10) (i1 := 78) (i2 := 80) zpRSt zpStWk (zmT4 (i := 8) rfl rfl) (by decide) (by show 20 ≤ 26 + 6 * 0 ∧ 1000 ≤ 1210 + 150 * 0; omega) (zpDk115 17 _ rfl) (zpDk115 19 _ rfl) (zpDk115 20 _ rfl) (zpDk115 21 _ rfl) zpDk115 (fun as g K Y h hA hY hX => by
  obtain ⟨o, rfl, hp0, hp1, hK⟩ := h
  obtain rfl : o = 6 := by omega
  exact yv_Oz_11 (yCl.rl (rm := (50, 5000)) (yR_Oz_11) (by show 1 ≤ 26 + 6 * 0; omega) (by show 1000 ≤ 1210 + 150 * 0; omega) hY) hX hp0 hK)
set_option maxRecDepth 8000 in
theorem yt_Os_11 {K : List yV → yM → Prop} {Y : yNx} {g : yM} {s z : Int} {w3 : yV} {lv : Nat} {o : Int} (ho : o + (lv : Int) + 1 = 6 ∧ 0 ≤ o) (hY : yCl zpD115 (zpZ, zpRS, zpP10, zpMT, [yC_SG3, yC_AP3, yC_RN4, yC_ID, yC_SP, yC_AS11, (115, (40, 4000), yP_Og_11 lv), (113, (40, 4000), yP_Eg_11 lv)], (50, 5000), 0) K Y) (hp : yPe 11 g) (hs : (s = -1 ∧ yTs g (g 2 1) = 0 ∧ z = -1) ∨ (s = yTs g (g 2 1) ∧ 0 ≤ s ∧ s ≤ 255 ∧ g 2 1 < g 2 2 ∧ z = yKx (yTs g (g 2 1)))) (hK : ∀ g' : yM, yPo 11 g g' (yOn (yTs g) (lv + 1) (g 2 1)) → K [] g') : Y 24 [(3, 11), (1, o), (1, s), w3] [(1, z)] g := by
  obtain ⟨hT0, hf, hpl, hle, hk0, hk1⟩ := id hp
  have tg := yTs_tg hle
  have kb := yKx_b (yTs g (g 2 1))
  have tb := yTs_b g (g 2 1)
  have k0 : yTs g (g 2 1) = 0 → yKx (yTs g (g 2 1)) = -1 := fun e => by rw [e]; decide
  have kn : 0 ≤ yKx (yTs g (g 2 1)) → 97 ≤ yTs g (g 2 1) ∧ yTs g (g 2 1) ≤ 119 := yKx_n
  have h60 : yTs g (g 2 1) ≠ 0 → g 2 1 < 60 := tg (g 2 1) hpl.1
  have gd : 48 ≤ yTs g (g 2 1) ∧ yTs g (g 2 1) ≤ 57 → g 2 1 < (yNm (yTs g) 4 (g 2 1) 0).1 ∧ (yNm (yTs g) 4 (g 2 1) 0).1 ≤ 60 := fun h => by
    have z1 := (yOn_gd tg 0 (g 2 1) hpl.1 hpl.2).1 (by rw [yOn_d h])
    rw [yOn_d h] at z1
    exact ⟨z1.1, z1.2.1⟩
  refine yrun_ok (sp := fun pc => false) hY 40 24 _ [(1, z)] g ?_
  show (∃ (v1 : Int), [(1, s)] = [(1, v1)] ∧ (∀ (r2 : Int), ((r2 = 1 ∧ 48 ≤ v1 ∧ v1 ≤ 57) ∨ (r2 = 0 ∧ (v1 < 48 ∨ 57 < v1))) → ((r2 = 0 → ((z = (-1) → ((o < 6 → (∃ (c7 : Int), [(3, 2), (1, 40)] = [(3, 2), (1, c7)] ∧ (0 ≤ g 2 1 ∧ g 2 1 ≤ 60) ∧ (g 2 2 ≤ 60) ∧ (1 ≤ c7) ∧ (∀ (r8 : Int) (g9 : yM), ((r8 = 1 ∧ g 2 3 = -1 ∧ yTs g (g 2 1) = c7 ∧ g9 = yset g 2 1 (g 2 1 + 1)) ∨ (r8 = 0 ∧ (g 2 3 ≠ -1 ∨ yTs g (g 2 1) ≠ c7) ∧ g9 = g)) → ((r8 = 0 → (∃ (c12 : Int), [(3, 2), (1, 33)] = [(3, 2), (1, c12)] ∧ (0 ≤ g9 2 1 ∧ g9 2 1 ≤ 60) ∧ (g9 2 2 ≤ 60) ∧ (1 ≤ c12) ∧ (∀ (r13 : Int) (g14 : yM), ((r13 = 1 ∧ g9 2 3 = -1 ∧ yTs g9 (g9 2 1) = c12 ∧ g14 = yset g9 2 1 (g9 2 1 + 1)) ∨ (r13 = 0 ∧ (g9 2 3 ≠ -1 ∨ yTs g9 (g9 2 1) ≠ c12) ∧ g14 = g9)) → ((r13 ≠ 0 → (∃ (o17 : Int), [(3, 11), (1, (yw (o + 1)))] = [(3, 11), (1, o17)] ∧ (yPe 11 g14) ∧ (o17 + (lv : Int) = 6 ∧ 0 ≤ o17) ∧ (∀ (g18 : yM), (yPo 11 g14 g18 (yOn (yTs g14) lv (g14 2 1))) → ((s ≠ 45 → (∃ (s21 n22 : Int), [(3, 11), (1, s), (1, 0)] = [(3, 11), (1, s21), (1, n22)] ∧ (yTy zpZ g18) ∧ (0 ≤ g18 11 4 ∧ g18 11 4 ≤ 61) ∧ (s21 = 78 → 0 ≤ n22 ∧ n22 ≤ 7) ∧ (s21 = 63 → 0 ≤ n22) ∧ (∀ (g23 : yM), (yAs 11 g18 g23 s21 n22) → (K [] g23)))) ∧ (¬ (s ≠ 45) → (∃ (s25 n26 : Int), [(3, 11), (1, 77), (1, 0)] = [(3, 11), (1, s25), (1, n26)] ∧ (yTy zpZ g18) ∧ (0 ≤ g18 11 4 ∧ g18 11 4 ≤ 61) ∧ (s25 = 78 → 0 ≤ n26 ∧ n26 ≤ 7) ∧ (s25 = 63 → 0 ≤ n26) ∧ (∀ (g27 : yM), (yAs 11 g18 g27 s25 n26) → (K [] g27)))))))) ∧ (¬ (r13 ≠ 0) → (∃ (c29 : Int), [(3, 2), (1, 45)] = [(3, 2), (1, c29)] ∧ (0 ≤ g14 2 1 ∧ g14 2 1 ≤ 60) ∧ (g14 2 2 ≤ 60) ∧ (1 ≤ c29) ∧ (∀ (r30 : Int) (g31 : yM), ((r30 = 1 ∧ g14 2 3 = -1 ∧ yTs g14 (g14 2 1) = c29 ∧ g31 = yset g14 2 1 (g14 2 1 + 1)) ∨ (r30 = 0 ∧ (g14 2 3 ≠ -1 ∨ yTs g14 (g14 2 1) ≠ c29) ∧ g31 = g14)) → ((r30 = 0 → ([(3, 2)] = [(3, 2)] ∧ (0 ≤ g31 2 1 ∧ g31 2 1 ≤ 60) ∧ (∀ (g34 : yM), (g31 2 3 = -1 → g34 = yset g31 2 3 (g31 2 1)) → (g31 2 3 ≠ -1 → g34 = g31) → (K [] g34)))) ∧ (¬ (r30 = 0) → (∃ (o36 : Int), [(3, 11), (1, (yw (o + 1)))] = [(3, 11), (1, o36)] ∧ (yPe 11 g31) ∧ (o36 + (lv : Int) = 6 ∧ 0 ≤ o36) ∧ (∀ (g37 : yM), (yPo 11 g31 g37 (yOn (yTs g31) lv (g31 2 1))) → ((s ≠ 45 → (∃ (s40 n41 : Int), [(3, 11), (1, s), (1, 0)] = [(3, 11), (1, s40), (1, n41)] ∧ (yTy zpZ g37) ∧ (0 ≤ g37 11 4 ∧ g37 11 4 ≤ 61) ∧ (s40 = 78 → 0 ≤ n41 ∧ n41 ≤ 7) ∧ (s40 = 63 → 0 ≤ n41) ∧ (∀ (g42 : yM), (yAs 11 g37 g42 s40 n41) → (K [] g42)))) ∧ (¬ (s ≠ 45) → (∃ (s44 n45 : Int), [(3, 11), (1, 77), (1, 0)] = [(3, 11), (1, s44), (1, n45)] ∧ (yTy zpZ g37) ∧ (0 ≤ g37 11 4 ∧ g37 11 4 ≤ 61) ∧ (s44 = 78 → 0 ≤ n45 ∧ n45 ≤ 7) ∧ (s44 = 63 → 0 ≤ n45) ∧ (∀ (g46 : yM), (yAs 11 g37 g46 s44 n45) → (K [] g46)))))))))))))))) ∧ (¬ (r8 = 0) → (∃ (o48 : Int), [(3, 11), (1, (yw (o + 1)))] = [(3, 11), (1, o48)] ∧ (yPe 11 g9) ∧ (o48 + (lv : Int) = 6 ∧ 0 ≤ o48) ∧ (∀ (g49 : yM), (yPo 11 g9 g49 (yEit (yTs g9) (yOn (yTs g9) lv) (g9 2 1))) → (∃ (c51 : Int), [(3, 2), (1, 41)] = [(3, 2), (1, c51)] ∧ (0 ≤ g49 2 1 ∧ g49 2 1 ≤ 60) ∧ (g49 2 2 ≤ 60) ∧ (1 ≤ c51) ∧ (∀ (r52 : Int) (g53 : yM), ((r52 = 1 ∧ g49 2 3 = -1 ∧ yTs g49 (g49 2 1) = c51 ∧ g53 = yset g49 2 1 (g49 2 1 + 1)) ∨ (r52 = 0 ∧ (g49 2 3 ≠ -1 ∨ yTs g49 (g49 2 1) ≠ c51) ∧ g53 = g49)) → ((r52 ≠ 0 → (K [] g53)) ∧ (¬ (r52 ≠ 0) → ([(3, 2)] = [(3, 2)] ∧ (0 ≤ g53 2 1 ∧ g53 2 1 ≤ 60) ∧ (∀ (g56 : yM), (g53 2 3 = -1 → g56 = yset g53 2 3 (g53 2 1)) → (g53 2 3 ≠ -1 → g56 = g53) → (K [] g56)))))))))))))) ∧ (¬ (o < 6) → ([(3, 2)] = [(3, 2)] ∧ (0 ≤ g 2 1 ∧ g 2 1 ≤ 60) ∧ (∀ (g58 : yM), (g 2 3 = -1 → g58 = yset g 2 3 (g 2 1)) → (g 2 3 ≠ -1 → g58 = g) → (K [] g58)))))) ∧ (¬ (z = (-1)) → (∃ (c60 : Int), [(3, 2), (1, s)] = [(3, 2), (1, c60)] ∧ (0 ≤ g 2 1 ∧ g 2 1 ≤ 60) ∧ (g 2 2 ≤ 60) ∧ (1 ≤ c60) ∧ (∀ (r61 : Int) (g62 : yM), ((r61 = 1 ∧ g 2 3 = -1 ∧ yTs g (g 2 1) = c60 ∧ g62 = yset g 2 1 (g 2 1 + 1)) ∨ (r61 = 0 ∧ (g 2 3 ≠ -1 ∨ yTs g (g 2 1) ≠ c60) ∧ g62 = g)) → (∃ (s64 n65 : Int), [(3, 11), (1, 78), (1, z)] = [(3, 11), (1, s64), (1, n65)] ∧ (yTy zpZ g62) ∧ (0 ≤ g62 11 4 ∧ g62 11 4 ≤ 61) ∧ (s64 = 78 → 0 ≤ n65 ∧ n65 ≤ 7) ∧ (s64 = 63 → 0 ≤ n65) ∧ (∀ (g66 : yM), (yAs 11 g62 g66 s64 n65) → (K [] g66)))))))) ∧ (¬ (r2 = 0) → ([(3, 2), (1, 4), (1, 0), (1, 9999)] = [(3, 2), (1, 4), (1, 0), (1, 9999)] ∧ (g 2 3 = -1) ∧ (0 ≤ g 2 1 ∧ g 2 1 ≤ 60) ∧ (g 2 2 ≤ 60) ∧ (48 ≤ yTs g (g 2 1) ∧ yTs g (g 2 1) ≤ 57) ∧ (∀ (r68 : Int) (g69 : yM), (r68 = (yNm (yTs g) 4 (g 2 1) 0).2) → (g69 = yset g 2 1 (yNm (yTs g) 4 (g 2 1) 0).1) → (0 ≤ r68 ∧ r68 ≤ 9999) → (∃ (s71 n72 : Int), [(3, 11), (1, 86), (1, r68)] = [(3, 11), (1, s71), (1, n72)] ∧ (yTy zpZ g69) ∧ (0 ≤ g69 11 4 ∧ g69 11 4 ≤ 61) ∧ (s71 = 78 → 0 ≤ n72 ∧ n72 ≤ 7) ∧ (s71 = 63 → 0 ≤ n72) ∧ (∀ (g73 : yM), (yAs 11 g69 g73 s71 n72) → (K [] g73)))))))))
  refine ⟨_, rfl, ?_⟩
  intro r2 p30
  refine ⟨fun h4 => ?_, fun h4 => ?_⟩
  · refine ⟨fun h5 => ?_, fun h5 => ?_⟩
    · refine ⟨fun h6 => ?_, fun h6 => ?_⟩
      · refine ⟨_, rfl, (by omega), (by omega), (by omega), ?_⟩
        intro r8 g9 p100
        refine ⟨fun h11 => ?_, fun h11 => ?_⟩
        · obtain ⟨bp100, ep100⟩ : (g 2 3 ≠ -1 ∨ yTs g (g 2 1) ≠ 40) ∧ g = g9 := by
            rcases p100 with ⟨z, -⟩ | ⟨-, z1, z2⟩
            · omega
            · exact ⟨z1, z2.symm⟩
          subst ep100
          refine ⟨_, rfl, (by omega), (by omega), (by omega), ?_⟩
          intro r13 g14 p150
          refine ⟨fun h16 => ?_, fun h16 => ?_⟩
          · obtain ⟨ap150, bp150, ep150⟩ : g 2 3 = -1 ∧ yTs g (g 2 1) = 33 ∧ g14 = (yset g 2 1 (g 2 1 + 1)) := by
              rcases p150 with ⟨-, z⟩ | ⟨z, -⟩
              · exact z
              · omega
            subst ep150
            refine ⟨_, rfl, (by exact yPe.up (Or.inr rfl) hp (h60 (by omega))), (by
      have := yw_s (o + 1) (by omega) (by omega)
      omega), ?_⟩
            intro g18 p190
            rw [yTs_pl g 1 (g 2 1 + 1) (by decide), yset_eq] at p190
            have t_p190 := yPo.te (Or.inr rfl) p190
            obtain ⟨x1_p190, x2_p190, x3_p190, x4_p190, x5_p190, x6_p190, x7_p190⟩ := id p190
            rw [yTs_pl g 1 (g 2 1 + 1) (by decide), yset_nj (by decide)] at t_p190
            refine ⟨fun h20 => ?_, fun h20 => ?_⟩
            · refine ⟨_, _, rfl, (x1_p190), (x5_p190), (by omega), (by omega), ?_⟩
              intro g23 p240
              have h61 := h60 (by omega)
              have hxr := yOn_gd tg lv (g 2 1 + 1) (by omega) (by omega)
              have una := yPo.una (Or.inr rfl) hp p190 hxr p240
              have es : (if yTs g (g 2 1) = 45 then (77 : Int) else yTs g (g 2 1)) = s := by
                rw [if_neg (by omega)]
                omega
              refine hK _ ?_
              rw [yOn_u (by omega), es]
              exact una
            · refine ⟨_, _, rfl, (x1_p190), (x5_p190), (by omega), (by omega), ?_⟩
              intro g27 p280
              have h61 := h60 (by omega)
              omega
          · obtain ⟨bp150, ep150⟩ : (g 2 3 ≠ -1 ∨ yTs g (g 2 1) ≠ 33) ∧ g = g14 := by
              rcases p150 with ⟨z, -⟩ | ⟨-, z1, z2⟩
              · omega
              · exact ⟨z1, z2.symm⟩
            subst ep150
            refine ⟨_, rfl, (by omega), (by omega), (by omega), ?_⟩
            intro r30 g31 p320
            refine ⟨fun h33 => ?_, fun h33 => ?_⟩
            · obtain ⟨bp320, ep320⟩ : (g 2 3 ≠ -1 ∨ yTs g (g 2 1) ≠ 45) ∧ g = g31 := by
                rcases p320 with ⟨z, -⟩ | ⟨-, z1, z2⟩
                · omega
                · exact ⟨z1, z2.symm⟩
              subst ep320
              refine ⟨rfl, (by omega), ?_⟩
              intro g34 p350 p351
              have n1 : ¬ (48 ≤ yTs g (g 2 1) ∧ yTs g (g 2 1) ≤ 57) := by omega
              have n2 : ¬ 0 ≤ yKx (yTs g (g 2 1)) := by omega
              have e := p350 hf
              subst e
              refine hK _ ?_
              rw [yOn_x n1 n2 (by omega) (by omega) (by omega)]
              exact yPo.bad (Or.inr rfl) hp rfl
            · obtain ⟨ap320, bp320, ep320⟩ : g 2 3 = -1 ∧ yTs g (g 2 1) = 45 ∧ g31 = (yset g 2 1 (g 2 1 + 1)) := by
                rcases p320 with ⟨-, z⟩ | ⟨z, -⟩
                · exact z
                · omega
              subst ep320
              refine ⟨_, rfl, (by exact yPe.up (Or.inr rfl) hp (h60 (by omega))), (by
      have := yw_s (o + 1) (by omega) (by omega)
      omega), ?_⟩
              intro g37 p380
              rw [yTs_pl g 1 (g 2 1 + 1) (by decide), yset_eq] at p380
              have t_p380 := yPo.te (Or.inr rfl) p380
              obtain ⟨x1_p380, x2_p380, x3_p380, x4_p380, x5_p380, x6_p380, x7_p380⟩ := id p380
              rw [yTs_pl g 1 (g 2 1 + 1) (by decide), yset_nj (by decide)] at t_p380
              refine ⟨fun h39 => ?_, fun h39 => ?_⟩
              · refine ⟨_, _, rfl, (x1_p380), (x5_p380), (by omega), (by omega), ?_⟩
                intro g42 p430
                have h61 := h60 (by omega)
                omega
              · refine ⟨_, _, rfl, (x1_p380), (x5_p380), (by omega), (by omega), ?_⟩
                intro g46 p470
                have h61 := h60 (by omega)
                have hxr := yOn_gd tg lv (g 2 1 + 1) (by omega) (by omega)
                have una := yPo.una (Or.inr rfl) hp p380 hxr p470
                have es : (if yTs g (g 2 1) = 45 then (77 : Int) else yTs g (g 2 1)) = 77 := by
                  rw [if_pos (by omega)]
                refine hK _ ?_
                rw [yOn_u (by omega), es]
                exact una
        · obtain ⟨ap100, bp100, ep100⟩ : g 2 3 = -1 ∧ yTs g (g 2 1) = 40 ∧ g9 = (yset g 2 1 (g 2 1 + 1)) := by
            rcases p100 with ⟨-, z⟩ | ⟨z, -⟩
            · exact z
            · omega
          subst ep100
          refine ⟨_, rfl, (by exact yPe.up (Or.inr rfl) hp (h60 (by omega))), (by
      have := yw_s (o + 1) (by omega) (by omega)
      omega), ?_⟩
          intro g49 p500
          rw [yTs_pl g 1 (g 2 1 + 1) (by decide), yset_eq] at p500
          have t_p500 := yPo.te (Or.inr rfl) p500
          obtain ⟨x1_p500, x2_p500, x3_p500, x4_p500, x5_p500, x6_p500, x7_p500⟩ := id p500
          rw [yTs_pl g 1 (g 2 1 + 1) (by decide), yset_nj (by decide)] at t_p500
          refine ⟨_, rfl, (x4_p500), (by have e22 := t_p500.2; omega), (by omega), ?_⟩
          intro r52 g53 p540
          refine ⟨fun h55 => ?_, fun h55 => ?_⟩
          · obtain ⟨ap540, bp540, ep540⟩ : g49 2 3 = -1 ∧ yTs g49 (g49 2 1) = 41 ∧ g53 = (yset g49 2 1 (g49 2 1 + 1)) := by
              rcases p540 with ⟨-, z⟩ | ⟨z, -⟩
              · exact z
              · omega
            subst ep540
            have h61 := h60 (by omega)
            have hxr := yEit_gd tg (yOn_gd tg lv) (g 2 1 + 1) (by omega) (by omega)
            have brc := yPo.brc (Or.inr rfl) hp p500 hxr
            rw [t_p500.1] at bp540
            have e1 : (yEit (yTs g) (yOn (yTs g) lv) (g 2 1 + 1)).1 = -1 := x3_p500.symm.trans ap540
            have e2 := (x6_p500 e1).1
            rw [e2] at bp540
            have e3 := hxr.1 e1
            have h62 := tg (yEit (yTs g) (yOn (yTs g) lv) (g 2 1 + 1)).2.1 (by omega) (by omega)
            refine hK _ ?_
            rw [yOn_b bp100, if_pos e1, if_pos bp540]
            exact brc.1 e1 h62
          · obtain ⟨bp540, ep540⟩ : (g49 2 3 ≠ -1 ∨ yTs g49 (g49 2 1) ≠ 41) ∧ g49 = g53 := by
              rcases p540 with ⟨z, -⟩ | ⟨-, z1, z2⟩
              · omega
              · exact ⟨z1, z2.symm⟩
            subst ep540
            refine ⟨rfl, (by omega), ?_⟩
            intro g56 p570 p571
            have h61 := h60 (by omega)
            have hxr := yEit_gd tg (yOn_gd tg lv) (g 2 1 + 1) (by omega) (by omega)
            have brc := yPo.brc (Or.inr rfl) hp p500 hxr
            rw [t_p500.1] at bp540
            by_cases e1 : (yEit (yTs g) (yOn (yTs g) lv) (g 2 1 + 1)).1 = -1
            · have e := p570 (x3_p500.trans e1)
              subst e
              have e2 := (x6_p500 e1).1
              have e3 : yTs g (yEit (yTs g) (yOn (yTs g) lv) (g 2 1 + 1)).2.1 ≠ 41 := by
                rw [← e2]
                rcases bp540 with z1 | z1
                · exact absurd (x3_p500.trans e1) z1
                · exact z1
              refine hK _ ?_
              rw [yOn_b bp100, if_pos e1, if_neg e3]
              exact brc.2.1 e1
            · have e := (p571 (fun z1 => e1 (x3_p500.symm.trans z1))).symm
              subst e
              refine hK _ ?_
              rw [yOn_b bp100, if_neg e1]
              exact brc.2.2 e1
      · refine ⟨rfl, (by omega), ?_⟩
        intro g58 p590 p591
        omega
    · refine ⟨_, rfl, (by omega), (by omega), (by omega), ?_⟩
      intro r61 g62 p630
      refine ⟨_, _, rfl, (by
      have ep630 : g62 = (yset g 2 1 (g 2 1 + 1)) := by
        rcases p630 with ⟨-, -, -, z1⟩ | ⟨z1, z2, -⟩
        · exact z1
        · omega
      subst ep630
      have h61 := h60 (by omega)
      exact hT0.sO (List.mem_of_getElem? (i := 2) rfl) rfl (by decide +kernel) ⟨by omega, by omega⟩), (by
      have ep630 : g62 = (yset g 2 1 (g 2 1 + 1)) := by
        rcases p630 with ⟨-, -, -, z1⟩ | ⟨z1, z2, -⟩
        · exact z1
        · omega
      subst ep630
      rw [yset_nc (by decide)]
      omega), (by
      have ep630 : g62 = (yset g 2 1 (g 2 1 + 1)) := by
        rcases p630 with ⟨-, -, -, z1⟩ | ⟨z1, z2, -⟩
        · exact z1
        · omega
      subst ep630
      omega), (by
      have ep630 : g62 = (yset g 2 1 (g 2 1 + 1)) := by
        rcases p630 with ⟨-, -, -, z1⟩ | ⟨z1, z2, -⟩
        · exact z1
        · omega
      subst ep630
      omega), ?_⟩
      intro g66 p670
      have ep630 : g62 = (yset g 2 1 (g 2 1 + 1)) := by
        rcases p630 with ⟨-, -, -, z1⟩ | ⟨z1, z2, -⟩
        · exact z1
        · omega
      subst ep630
      have hk : 0 ≤ yKx (yTs g (g 2 1)) := by omega
      have ez : z = yKx (yTs g (g 2 1)) := by omega
      have h61 := h60 (by omega)
      rw [ez] at p670
      refine hK _ ?_
      rw [yOn_k hk]
      exact yPo.one (Or.inr rfl) hp ⟨by omega, by omega⟩ p670
  · refine ⟨rfl, (by omega), (by omega), (by omega), (by omega), ?_⟩
    intro r68 g69 p700 p701 p702
    subst p700
    subst p701
    refine ⟨_, _, rfl, (by
      have gd1 := gd (by omega)
      exact hT0.sO (List.mem_of_getElem? (i := 2) rfl) rfl (by decide +kernel) ⟨by omega, by omega⟩), (by
      rw [yset_nc (by decide)]
      omega), (by omega), (by omega), ?_⟩
    intro g73 p740
    have hd : 48 ≤ yTs g (g 2 1) ∧ yTs g (g 2 1) ≤ 57 := by omega
    refine hK _ ?_
    rw [yOn_d hd]
    exact yPo.one (Or.inr rfl) hp (gd hd) p740
set_option maxRecDepth 8000 in
theorem yv_Os_11 {K : List yV → yM → Prop} {Y : yNx} {g : yM} {lv : Nat} {o : Int} (hY : yCl zpD115 (zpZ, zpRS, zpP10, zpMT, [yC_SG3, yC_AP3, yC_RN4, yC_ID, yC_SP, yC_AS11, (115, (40, 4000), yP_Og_11 lv), (113, (40, 4000), yP_Eg_11 lv)], (50, 5000), 0) K Y) (hX : ∀ (L : List yV) (g : yM) (v : Int), 0 ≤ v → v ≤ 255 → L[2]? = some (1, v) → (∀ r : Int, yNX v r → Y 24 L [(1, r)] g) → Y 17 L [] g) (hp0 : yPe 11 g) (hp1 : o + (lv : Int) + 1 = 6 ∧ 0 ≤ o) (hK : ∀ g' : yM, yPo 11 g g' (yOn (yTs g) (lv + 1) (g 2 1)) → K [] g') : Y 0 [(3, 11), (1, o), (0, 0), (0, 0)] [] g := by
  have hp := hp0
  obtain ⟨hT0, hf, hpl, hle, hk0, hk1⟩ := id hp
  have tg := yTs_tg hle
  refine yrun_ok (sp := fun pc => Nat.beq pc 17 || Nat.beq pc 24) hY 10 0 _ [] g ?_
  show ([(3, 2)] = [(3, 2)] ∧ (0 ≤ g 2 1) ∧ (g 2 2 ≤ 60) ∧ (∀ (r1 : Int), (g 2 3 = -1 → (r1 = -1 ∧ g 2 2 ≤ g 2 1) ∨ (g 2 1 < g 2 2 ∧ r1 = yTs g (g 2 1))) → (g 2 3 ≠ -1 → r1 = -1) → (-1 ≤ r1 ∧ r1 ≤ 255) → ((r1 ≠ (-1) → (Y 17 [(3, 11), (1, o), (1, r1), (0, 0)] [] g)) ∧ (¬ (r1 ≠ (-1)) → (Y 24 [(3, 11), (1, o), (1, r1), (0, 0)] [(1, (-1))] g)))))
  refine ⟨rfl, (by omega), (by omega), ?_⟩
  intro r1 p20 p21 p22
  refine ⟨fun h3 => ?_, fun h3 => ?_⟩
  · have q0 := p20 hf
    have q1 := p22
    have q2 : g 2 1 < g 2 2 ∧ r1 = yTs g (g 2 1) := by omega
    refine hX _ _ r1 (by have := yTs_b g (g 2 1); omega) q1.2 rfl (fun z hz => ?_)
    have ez := yKx_of hz
    rw [q2.2] at ez
    exact yt_Os_11 hp1 hY hp (Or.inr ⟨q2.2, by have := yTs_b g (g 2 1); omega, q1.2, q2.1, ez⟩) hK
  · have q0 := p20 hf
    have tb := yTs_b g (g 2 1)
    refine yt_Os_11 hp1 hY hp (Or.inl ⟨by omega, yTs_z (by omega), rfl⟩) hK
theorem yR_Os_11 {lv lw : Nat} (hl : lw = lv + 1) : yRl zpMT (26 + 6 * lw, 1210 + 150 * lw) [yC_SG3, yC_AP3, yC_RN4, yC_ID, yC_SP, yC_AS11, (115, (40, 4000), yP_Og_11 lv), (113, (40, 4000), yP_Eg_11 lv)] [yC_SG3, yC_AP3, yC_RN4, yC_ID, yC_SP, yC_AS11, yC_Og_11 lv, yC_Eg_11 lv] := (yRl_cons rfl rfl (by show 1 + 1 ≤ 26 + 6 * lw; omega) (by show 8 + (1 + 11) + (40) ≤ 1210 + 150 * lw; omega) (yRl_cons rfl rfl (by show 2 + 1 ≤ 26 + 6 * lw; omega) (by show 8 + (2 + 11) + (60) ≤ 1210 + 150 * lw; omega) (yRl_cons rfl rfl (by show 2 + 1 ≤ 26 + 6 * lw; omega) (by show 8 + (7 + 11) + (60) ≤ 1210 + 150 * lw; omega) (yRl_cons rfl rfl (by show 1 + 1 ≤ 26 + 6 * lw; omega) (by show 8 + (1 + 11) + (40) ≤ 1210 + 150 * lw; omega) (yRl_cons rfl rfl (by show 1 + 1 ≤ 26 + 6 * lw; omega) (by show 8 + (1 + 11) + (40) ≤ 1210 + 150 * lw; omega) (yRl_cons rfl rfl (by show 1 + 1 ≤ 26 + 6 * lw; omega) (by show 8 + (3 + 11) + (40) ≤ 1210 + 150 * lw; omega) (yRl_cons rfl rfl (by show 26 + 6 * lv + 1 ≤ 26 + 6 * lw; omega) (by show 8 + (4 + 11) + (1210 + 150 * lv) ≤ 1210 + 150 * lw; omega) (yRl_cons rfl rfl (by show 31 + 6 * lv + 1 ≤ 26 + 6 * lw; omega) (by show 8 + (3 + 11) + (1335 + 150 * lv) ≤ 1210 + 150 * lw; omega) yRl_nil))))))))
theorem yM_Os_11 {l : Launch} {lv lw : Nat} (hl : lw = lv + 1) (H : zHyp zpTs zpcl zpRO) (hO : yMet l zpTs zpcl zpZ zpRO zpMT (yC_Og_11 lv)) (hE : yMet l zpTs zpcl zpZ zpRO zpMT (yC_Eg_11 lv)) : yMet l zpTs zpcl zpZ zpRO zpMT (yC_Og_11 lw) := ymet_ofX2 H.1 H.2.1 zpDj H.2.2.1 yRb H.p10 (ymets_cons (yM_SG3 H) (ymets_cons (yM_AP3 H) (ymets_cons (yM_RN4 H) (ymets_cons (yM_ID H) (ymets_cons (yM_SP H) (ymets_cons (yM_AS11 H) (ymets_cons hO (ymets_cons hE ymets_nil)))))))) (zrc0 rfl) (plainFor_of_name zpy10) (i1 := 78) (i2 := 80) zpRSt zpStWk (zmT4 (i := 8) rfl rfl) (by decide) (by show 20 ≤ 26 + 6 * lw ∧ 1000 ≤ 1210 + 150 * lw; omega) (zpDk115 17 _ rfl) (zpDk115 19 _ rfl) (zpDk115 20 _ rfl) (zpDk115 21 _ rfl) zpDk115 (fun as g K Y h hA hY hX => by
  obtain ⟨o, rfl, hp0, hp1, hK⟩ := h
  have hp1 : o + (lv : Int) + 1 = 6 ∧ 0 ≤ o := by omega
  rw [hl] at hK
  exact yv_Os_11 (yCl.rl (rm := (50, 5000)) (yR_Os_11 hl) (by show 1 ≤ 26 + 6 * lw; omega) (by show 1000 ≤ 1210 + 150 * lw; omega) hY) hX hp0 hp1 hK)
