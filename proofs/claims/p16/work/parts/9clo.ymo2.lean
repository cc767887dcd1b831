/-! START, AWAY, TEXT, COUNT -/
def yP_CST : yPT := fun as g K => ∃ (w v : Int), as = [(3, 0), (1, w), (1, v)] ∧ (0 ≤ g 1 1 ∧ g 1 1 ≤ 40) ∧ (∀ (r : Int) (g' : yM), ((r = -1 ∧ ¬ (0 ≤ w ∧ w < g 1 1 ∧ -1 ≤ v ∧ v ≤ 719)) ∨ (r = 1 ∧ (0 ≤ w ∧ w < g 1 1 ∧ -1 ≤ v ∧ v ≤ 719))) → (r ≠ 1 → g' = g) → (r = 1 → g' = yset g (50 + Int.toNat w) 8 v) → K [(1, r)] g')
def yC_CST : yC := (33, (3, 82), yP_CST)
set_option maxRecDepth 8000 in
theorem yv_CST {K : List yV → yM → Prop} {Y : yNx} {g : yM} {w v : Int} (hY : yCl zpD33 (zpZ, zpRS, zpP0, zpMT, [yC_HC, yC_W], (3, 82), 1) K Y) (hr_w : -2147483648 ≤ w ∧ w ≤ 2147483647) (hr_v : -2147483648 ≤ v ∧ v ≤ 2147483647) (hp0 : 0 ≤ g 1 1 ∧ g 1 1 ≤ 40) (hK : ∀ (r : Int) (g' : yM), ((r = -1 ∧ ¬ (0 ≤ w ∧ w < g 1 1 ∧ -1 ≤ v ∧ v ≤ 719)) ∨ (r = 1 ∧ (0 ≤ w ∧ w < g 1 1 ∧ -1 ≤ v ∧ v ≤ 719))) → (r ≠ 1 → g' = g) → (r = 1 → g' = yset g (50 + Int.toNat w) 8 v) → K [(1, r)] g') : Y 0 [(3, 0), (1, w), (1, v)] [] g := by
  refine yrun_ok (sp := fun pc => false) hY 21 0 _ [] g ?_
  show (∃ (w1 : Int), [(3, 1), (1, w)] = [(3, 1), (1, w1)] ∧ (∀ (r2 : Int), ((r2 = 1 ∧ 0 ≤ w1 ∧ w1 < g 1 1) ∨ (r2 = 0 ∧ (w1 < 0 ∨ g 1 1 ≤ w1))) → ((r2 = 0 → (K [(1, (-1))] g)) ∧ (¬ (r2 = 0) → ((v = (-1) → (((0 : Int) ≤ w ∧ w < ((40 : Nat) : Int)) ∧ (K [(1, 1)] (yset g (50 + Int.toNat w) 8 v)))) ∧ (¬ (v = (-1)) → (∃ (v6 b7 : Int), [(1, v), (1, 720)] = [(1, v6), (1, b7)] ∧ (∀ (r8 : Int), ((r8 = 1 ∧ 0 ≤ v6 ∧ v6 < b7) ∨ (r8 = 0 ∧ (v6 < 0 ∨ b7 ≤ v6))) → ((r8 ≠ 0 → (((0 : Int) ≤ w ∧ w < ((40 : Nat) : Int)) ∧ (K [(1, 1)] (yset g (50 + Int.toNat w) 8 v)))) ∧ (¬ (r8 ≠ 0) → (K [(1, (-1))] g)))))))))))
  refine ⟨_, rfl, ?_⟩
  intro r2 p30
  refine ⟨fun h4 => ?_, fun h4 => ?_⟩
  · exact hK _ _ (by omega) (fun _ => rfl) (fun h => absurd h (by omega))
  · refine ⟨fun h5 => ?_, fun h5 => ?_⟩
    · refine ⟨(by omega), ?_⟩
      exact hK _ _ (by omega) (fun h => absurd (by omega) h) (fun _ => rfl)
    · refine ⟨_, _, rfl, ?_⟩
      intro r8 p90
      refine ⟨fun h10 => ?_, fun h10 => ?_⟩
      · refine ⟨(by omega), ?_⟩
        exact hK _ _ (by omega) (fun h => absurd (by omega) h) (fun _ => rfl)
      · exact hK _ _ (by omega) (fun _ => rfl) (fun h => absurd h (by omega))
theorem yM_CST {l : Launch} {Ts : List Cond} {cl : List vw_C} {RO : zRO} (H : zHyp Ts cl RO) : yMet l Ts cl zpZ RO zpMT yC_CST := ymet_of2 H.1 H.2.1 zpDj H.2.2.1 yRb H.p0 (ymets_cons (yM_HC H) (ymets_cons (yM_W H) ymets_nil)) (zrc1 rfl) (plainFor_of_name zpy0) zpDk33 (fun as g K Y h hA hY => by
  obtain ⟨w, v, rfl, hp0, hK⟩ := h
  exact yv_CST hY (yAr1 hA (by simp)) (yAr1 hA (by simp)) hp0 hK)
def yP_ICX : yPT := fun as g K => ∃ (w : Int), as = [(3, 90), (1, w)] ∧ (0 ≤ g 90 22 ∧ g 90 22 ≤ 40) ∧ (∀ (r : Int), ((r = 1 ∧ 0 ≤ w ∧ w < g 90 22) ∨ (r = 0 ∧ (w < 0 ∨ g 90 22 ≤ w))) → K [(1, r)] g)
def yC_ICX : yC := (164, (2, 65), yP_ICX)
set_option maxRecDepth 8000 in
theorem yv_ICX {K : List yV → yM → Prop} {Y : yNx} {g : yM} {w : Int} (hY : yCl zpD164 (zpZ, zpRS, zpP12, zpMT, [yC_WM], (2, 65), 2) K Y) (hr_w : -2147483648 ≤ w ∧ w ≤ 2147483647) (hp0 : 0 ≤ g 90 22 ∧ g 90 22 ≤ 40) (hK : ∀ (r : Int), ((r = 1 ∧ 0 ≤ w ∧ w < g 90 22) ∨ (r = 0 ∧ (w < 0 ∨ g 90 22 ≤ w))) → K [(1, r)] g) : Y 0 [(3, 90), (1, w)] [] g := by
  refine yrun_ok (sp := fun pc => false) hY 10 0 _ [] g ?_
  show (∃ (v1 a2 b3 : Int), [(2, w), (2, 0), (2, (yw ((g 90 22) - 1)))] = [(2, v1), (2, a2), (2, b3)] ∧ (∀ (r4 : Int), ((r4 = 1 ∧ a2 ≤ v1 ∧ v1 ≤ b3) ∨ (r4 = 0 ∧ (v1 < a2 ∨ b3 < v1))) → (((0 : Int) ≤ r4 ∧ r4 ≤ (1 : Int)) ∧ (K [(1, r4)] g))))
  refine ⟨_, _, _, rfl, ?_⟩
  intro r4 p50
  refine ⟨(by have := yw_s ((g 90 22) - 1); omega), ?_⟩
  have := yw_s ((g 90 22) - 1)
  exact hK _ (by first | omega | exact fun _ => rfl | exact fun h => absurd h (by omega) | exact rfl | exact fun _ _ => rfl | exact fun h _ => absurd h (by omega) | exact fun _ h => absurd h (by omega))
theorem yM_ICX {l : Launch} {Ts : List Cond} {cl : List vw_C} {RO : zRO} (H : zHyp Ts cl RO) : yMet l Ts cl zpZ RO zpMT yC_ICX := ymet_of2 H.1 H.2.1 zpDj H.2.2.1 yRb H.p12 (ymets_cons (yM_WM H) ymets_nil) (zrc2 rfl) (plainFor_of_name zpy12) zpDk164 (fun as g K Y h hA hY => by
  obtain ⟨w, rfl, hp0, hK⟩ := h
  exact yv_ICX hY (yAr1 hA (by simp)) hp0 hK)
def yP_MST : yPT := fun as g K => ∃ (w v : Int), as = [(3, 90), (1, w), (1, v)] ∧ (0 ≤ g 90 22 ∧ g 90 22 ≤ 40) ∧ (∀ (r : Int) (g' : yM), ((r = -1 ∧ ¬ (0 ≤ w ∧ w < g 90 22 ∧ -1 ≤ v ∧ v ≤ 719)) ∨ (r = 1 ∧ (0 ≤ w ∧ w < g 90 22 ∧ -1 ≤ v ∧ v ≤ 719))) → (r ≠ 1 → g' = g) → (r = 1 → g' = yset g 108 (Int.toNat w) v) → K [(1, r)] g')
def yC_MST : yC := (199, (3, 86), yP_MST)
set_option maxRecDepth 8000 in
theorem yv_MST {K : List yV → yM → Prop} {Y : yNx} {g : yM} {w v : Int} (hY : yCl zpD199 (zpZ, zpRS, zpP12, zpMT, [yC_ICX, yC_WM], (3, 86), 1) K Y) (hr_w : -2147483648 ≤ w ∧ w ≤ 2147483647) (hr_v : -2147483648 ≤ v ∧ v ≤ 2147483647) (hp0 : 0 ≤ g 90 22 ∧ g 90 22 ≤ 40) (hK : ∀ (r : Int) (g' : yM), ((r = -1 ∧ ¬ (0 ≤ w ∧ w < g 90 22 ∧ -1 ≤ v ∧ v ≤ 719)) ∨ (r = 1 ∧ (0 ≤ w ∧ w < g 90 22 ∧ -1 ≤ v ∧ v ≤ 719))) → (r ≠ 1 → g' = g) → (r = 1 → g' = yset g 108 (Int.toNat w) v) → K [(1, r)] g') : Y 0 [(3, 90), (1, w), (1, v)] [] g := by
  refine yrun_ok (sp := fun pc => false) hY 17 0 _ [] g ?_
  show (∃ (w1 : Int), [(3, 90), (1, w)] = [(3, 90), (1, w1)] ∧ (0 ≤ g 90 22 ∧ g 90 22 ≤ 40) ∧ (∀ (r2 : Int), ((r2 = 1 ∧ 0 ≤ w1 ∧ w1 < g 90 22) ∨ (r2 = 0 ∧ (w1 < 0 ∨ g 90 22 ≤ w1))) → ((r2 = 0 → (K [(1, (-1))] g)) ∧ (¬ (r2 = 0) → (∃ (v5 a6 b7 : Int), [(2, v), (2, (-1)), (2, 719)] = [(2, v5), (2, a6), (2, b7)] ∧ (∀ (r8 : Int), ((r8 = 1 ∧ a6 ≤ v5 ∧ v5 ≤ b7) ∨ (r8 = 0 ∧ (v5 < a6 ∨ b7 < v5))) → ((r8 ≠ 0 → (((0 : Int) ≤ w ∧ w < ((40 : Nat) : Int)) ∧ (K [(1, 1)] (yset g 108 (Int.toNat w) v)))) ∧ (¬ (r8 ≠ 0) → (K [(1, (-1))] g)))))))))
  refine ⟨_, rfl, (by omega), ?_⟩
  intro r2 p30
  refine ⟨fun h4 => ?_, fun h4 => ?_⟩
  · exact hK _ _ (by omega) (fun _ => rfl) (fun h => absurd h (by omega))
  · refine ⟨_, _, _, rfl, ?_⟩
    intro r8 p90
    refine ⟨fun h10 => ?_, fun h10 => ?_⟩
    · refine ⟨(by omega), ?_⟩
      exact hK _ _ (by omega) (fun h => absurd (by omega) h) (fun _ => rfl)
    · exact hK _ _ (by omega) (fun _ => rfl) (fun h => absurd h (by omega))
theorem yM_MST {l : Launch} {Ts : List Cond} {cl : List vw_C} {RO : zRO} (H : zHyp Ts cl RO) : yMet l Ts cl zpZ RO zpMT yC_MST := ymet_of2 H.1 H.2.1 zpDj H.2.2.1 yRb H.p12 (ymets_cons (yM_ICX H) (ymets_cons (yM_WM H) ymets_nil)) (zrc1 rfl) (plainFor_of_name zpy12) zpDk199 (fun as g K Y h hA hY => by
  obtain ⟨w, v, rfl, hp0, hK⟩ := h
  exact yv_MST hY (yAr1 hA (by simp)) (yAr1 hA (by simp)) hp0 hK)
theorem yq0 {v : Int} (h0 : 0 ≤ v) (h1 : v ≤ 2147483647) : 0 ≤ yb (fun x y => x / y) v 1000 := by
  show 0 ≤ (Int32.ofInt v / Int32.ofInt 1000).toInt
  rw [zdivI (by decide), zofI (by omega) h1]
  exact ((ztdiv_bd (by decide)).1 h0).1
/-- one more telling -/
def yaw (q f a b c : Nat) (g : yM) (x y z : Int) : yM := yset (yset (yset (yset g a (Int.toNat (g q f)) x) b (Int.toNat (g q f)) y) c (Int.toNat (g q f)) z) q f (g q f + 1)
theorem yawc_ty {g : yM} {x y z : Int} (h : yTy zpZ g) (hn : 0 ≤ g 1 7 ∧ g 1 7 < 12) (hx : -2147483648 ≤ x ∧ x ≤ 2147483647) (hy : -2147483648 ≤ y ∧ y ≤ 2147483647) (hz : -2147483648 ≤ z ∧ z ≤ 2147483647) : yTy zpZ (yaw 1 7 15 16 17 g x y z) := by
  unfold yaw
  refine yTy.sO ?_ (List.mem_of_getElem? (i := 1) rfl) rfl (by decide +kernel) ⟨by omega, by omega⟩
  refine yTy.sA ?_ (List.mem_of_getElem? (i := 16) rfl) (by decide +kernel) hz
  refine yTy.sA ?_ (List.mem_of_getElem? (i := 15) rfl) (by decide +kernel) hy
  exact yTy.sA h (List.mem_of_getElem? (i := 14) rfl) (by decide +kernel) hx
theorem yawm_ty {g : yM} {x y z : Int} (h : yTy zpZ g) (hn : 0 ≤ g 90 6 ∧ g 90 6 < 12) (hx : -2147483648 ≤ x ∧ x ≤ 2147483647) (hy : -2147483648 ≤ y ∧ y ≤ 2147483647) (hz : -2147483648 ≤ z ∧ z ≤ 2147483647) : yTy zpZ (yaw 90 6 95 96 97 g x y z) := by
  unfold yaw
  refine yTy.sO ?_ (List.mem_of_getElem? (i := 42) rfl) rfl (by decide +kernel) ⟨by omega, by omega⟩
  refine yTy.sA ?_ (List.mem_of_getElem? (i := 49) rfl) (by decide +kernel) hz
  refine yTy.sA ?_ (List.mem_of_getElem? (i := 48) rfl) (by decide +kernel) hy
  exact yTy.sA h (List.mem_of_getElem? (i := 47) rfl) (by decide +kernel) hx
theorem yaw_nc {q f a b c : Nat} {g : yM} {x y z : Int} {s j : Nat} (h : s ≠ a ∧ s ≠ b ∧ s ≠ c ∧ ¬ (s = q ∧ j = f)) : yaw q f a b c g x y z s j = g s j := by
  unfold yaw
  rw [yset_ne h.2.2.2, yset_nc h.2.2.1, yset_nc h.2.1, yset_nc h.1]
def yP_CAA : yPT := fun as g K => ∃ (d a b : Int), as = [(3, 1), (1, d), (1, a), (1, b)] ∧ (yTy zpZ g) ∧ (0 ≤ g 1 7 ∧ g 1 7 < 12) ∧ (-2147483648 ≤ d ∧ d ≤ 2147483647) ∧ (-2147483648 ≤ a ∧ a ≤ 2147483647) ∧ (-2147483648 ≤ b ∧ b ≤ 2147483647) ∧ (∀ (g' : yM), (yTy zpZ g') → (yWz (yaw 1 7 15 16 17 g d a b) g') → K [] g')
def yC_CAA : yC := (119, (4, 110), yP_CAA)
set_option maxRecDepth 8000 in
theorem yv_CAA {K : List yV → yM → Prop} {Y : yNx} {g : yM} {d a b : Int} (hY : yCl zpD119 (zpZ, zpRS, zpP11, zpMT, [yC_SE], (4, 110), 0) K Y) (hr_d : -2147483648 ≤ d ∧ d ≤ 2147483647) (hr_a : -2147483648 ≤ a ∧ a ≤ 2147483647) (hr_b : -2147483648 ≤ b ∧ b ≤ 2147483647) (hp0 : yTy zpZ g) (hp1 : 0 ≤ g 1 7 ∧ g 1 7 < 12) (hp2 : -2147483648 ≤ d ∧ d ≤ 2147483647) (hp3 : -2147483648 ≤ a ∧ a ≤ 2147483647) (hp4 : -2147483648 ≤ b ∧ b ≤ 2147483647) (hK : ∀ (g' : yM), (yTy zpZ g') → (yWz (yaw 1 7 15 16 17 g d a b) g') → K [] g') : Y 0 [(3, 1), (1, d), (1, a), (1, b)] [] g := by
  refine yrun_ok (sp := fun pc => false) hY 31 0 _ [] g ?_
  show (((g 1 7) < 12 → (((0 : Int) ≤ (g 1 7) ∧ (g 1 7) < ((12 : Nat) : Int)) ∧ (((0 : Int) ≤ (g 1 7) ∧ (g 1 7) < ((12 : Nat) : Int)) ∧ (((0 : Int) ≤ (g 1 7) ∧ (g 1 7) < ((12 : Nat) : Int)) ∧ ([(3, 1)] = [(3, 1)] ∧ (yTy zpZ (yset (yset (yset (yset g 15 (Int.toNat (g 1 7)) d) 16 (Int.toNat (g 1 7)) a) 17 (Int.toNat (g 1 7)) b) 1 7 (yw ((g 1 7) + 1)))) ∧ (∀ (g2 : yM), (yTy zpZ g2) → (yWz (yset (yset (yset (yset g 15 (Int.toNat (g 1 7)) d) 16 (Int.toNat (g 1 7)) a) 17 (Int.toNat (g 1 7)) b) 1 7 (yw ((g 1 7) + 1))) g2) → (K [] g2))))))) ∧ (¬ ((g 1 7) < 12) → (K [] g)))
  refine ⟨fun h1 => ?_, fun h1 => ?_⟩
  · refine ⟨(by have hq : yw ((g 1 7) + 1) = g 1 7 + 1 := yw_s (g 1 7 + 1) (by omega) (by omega); omega), ?_⟩
    refine ⟨(by have hq : yw ((g 1 7) + 1) = g 1 7 + 1 := yw_s (g 1 7 + 1) (by omega) (by omega); omega), ?_⟩
    refine ⟨(by have hq : yw ((g 1 7) + 1) = g 1 7 + 1 := yw_s (g 1 7 + 1) (by omega) (by omega); omega), ?_⟩
    refine ⟨rfl, (by have hq : yw ((g 1 7) + 1) = g 1 7 + 1 := yw_s (g 1 7 + 1) (by omega) (by omega); rw [hq]; exact yawc_ty hp0 hp1 hp2 hp3 hp4), ?_⟩
    intro g2 p30 p31
    have hq : yw ((g 1 7) + 1) = g 1 7 + 1 := yw_s (g 1 7 + 1) (by omega) (by omega)
    rw [hq] at p31
    exact hK _ p30 p31
  · omega
theorem yM_CAA {l : Launch} {Ts : List Cond} {cl : List vw_C} {RO : zRO} (H : zHyp Ts cl RO) : yMet l Ts cl zpZ RO zpMT yC_CAA := ymet_of2 H.1 H.2.1 zpDj H.2.2.1 yRb H.p11 (ymets_cons (yM_SE H) ymets_nil) (zrc0 rfl) (plainFor_of_name zpy11) zpDk119 (fun as g K Y h hA hY => by
  obtain ⟨d, a, b, rfl, hp0, hp1, hp2, hp3, hp4, hK⟩ := h
  exact yv_CAA hY (yAr1 hA (by simp)) (yAr1 hA (by simp)) (yAr1 hA (by simp)) hp0 hp1 hp2 hp3 hp4 hK)
def yP_CAW : yPT := fun as g K => ∃ (d v : Int), as = [(3, 0), (1, d), (1, v)] ∧ (yTy zpZ g) ∧ (0 ≤ g 1 7 ∧ g 1 7 ≤ 12) ∧ (∀ (r : Int) (g' : yM), (¬ (0 ≤ d ∧ d < 4 ∧ 0 ≤ v ∧ 0 ≤ (yb (fun x y => x - x / y * y) v 1000) ∧ (yb (fun x y => x - x / y * y) v 1000) < 720 ∧ 0 ≤ (yb (fun x y => x / y) v 1000) ∧ (yb (fun x y => x / y) v 1000) ≤ (yb (fun x y => x - x / y * y) v 1000)) → r = -1 ∧ g' = g) → ((0 ≤ d ∧ d < 4 ∧ 0 ≤ v ∧ 0 ≤ (yb (fun x y => x - x / y * y) v 1000) ∧ (yb (fun x y => x - x / y * y) v 1000) < 720 ∧ 0 ≤ (yb (fun x y => x / y) v 1000) ∧ (yb (fun x y => x / y) v 1000) ≤ (yb (fun x y => x - x / y * y) v 1000)) → g 1 7 = 12 → r = -3 ∧ g' = g) → ((0 ≤ d ∧ d < 4 ∧ 0 ≤ v ∧ 0 ≤ (yb (fun x y => x - x / y * y) v 1000) ∧ (yb (fun x y => x - x / y * y) v 1000) < 720 ∧ 0 ≤ (yb (fun x y => x / y) v 1000) ∧ (yb (fun x y => x / y) v 1000) ≤ (yb (fun x y => x - x / y * y) v 1000)) → g 1 7 < 12 → r = g 1 7 + 1 ∧ yTy zpZ g' ∧ yWz (yaw 1 7 15 16 17 g d (yb (fun x y => x / y) v 1000) (yb (fun x y => x - x / y * y) v 1000)) g') → K [(1, r)] g')
def yC_CAW : yC := (2, (5, 133), yP_CAW)
set_option maxRecDepth 8000 in
theorem yv_CAW {K : List yV → yM → Prop} {Y : yNx} {g : yM} {d v : Int} (hY : yCl zpD2 (zpZ, zpRS, zpP0, zpMT, [yC_W, yC_CAA], (5, 133), 1) K Y) (hr_d : -2147483648 ≤ d ∧ d ≤ 2147483647) (hr_v : -2147483648 ≤ v ∧ v ≤ 2147483647) (hp0 : yTy zpZ g) (hp1 : 0 ≤ g 1 7 ∧ g 1 7 ≤ 12) (hK : ∀ (r : Int) (g' : yM), (¬ (0 ≤ d ∧ d < 4 ∧ 0 ≤ v ∧ 0 ≤ (yb (fun x y => x - x / y * y) v 1000) ∧ (yb (fun x y => x - x / y * y) v 1000) < 720 ∧ 0 ≤ (yb (fun x y => x / y) v 1000) ∧ (yb (fun x y => x / y) v 1000) ≤ (yb (fun x y => x - x / y * y) v 1000)) → r = -1 ∧ g' = g) → ((0 ≤ d ∧ d < 4 ∧ 0 ≤ v ∧ 0 ≤ (yb (fun x y => x - x / y * y) v 1000) ∧ (yb (fun x y => x - x / y * y) v 1000) < 720 ∧ 0 ≤ (yb (fun x y => x / y) v 1000) ∧ (yb (fun x y => x / y) v 1000) ≤ (yb (fun x y => x - x / y * y) v 1000)) → g 1 7 = 12 → r = -3 ∧ g' = g) → ((0 ≤ d ∧ d < 4 ∧ 0 ≤ v ∧ 0 ≤ (yb (fun x y => x - x / y * y) v 1000) ∧ (yb (fun x y => x - x / y * y) v 1000) < 720 ∧ 0 ≤ (yb (fun x y => x / y) v 1000) ∧ (yb (fun x y => x / y) v 1000) ≤ (yb (fun x y => x - x / y * y) v 1000)) → g 1 7 < 12 → r = g 1 7 + 1 ∧ yTy zpZ g' ∧ yWz (yaw 1 7 15 16 17 g d (yb (fun x y => x / y) v 1000) (yb (fun x y => x - x / y * y) v 1000)) g') → K [(1, r)] g') : Y 0 [(3, 0), (1, d), (1, v), (0, 0), (0, 0)] [] g := by
  refine yrun_ok (sp := fun pc => false) hY 36 0 _ [] g ?_
  show ((1000 : Int) ≠ 0 ∧ ((1000 : Int) ≠ 0 ∧ (∃ (v1 b2 : Int), [(1, d), (1, 4)] = [(1, v1), (1, b2)] ∧ (∀ (r3 : Int), ((r3 = 1 ∧ 0 ≤ v1 ∧ v1 < b2) ∨ (r3 = 0 ∧ (v1 < 0 ∨ b2 ≤ v1))) → ((r3 = 0 → (K [(1, (-1))] g)) ∧ (¬ (r3 = 0) → ((v < 0 → (K [(1, (-1))] g)) ∧ (¬ (v < 0) → (∃ (v7 b8 : Int), [(1, (yb (fun x y => x - x / y * y) v 1000)), (1, 720)] = [(1, v7), (1, b8)] ∧ (∀ (r9 : Int), ((r9 = 1 ∧ 0 ≤ v7 ∧ v7 < b8) ∨ (r9 = 0 ∧ (v7 < 0 ∨ b8 ≤ v7))) → ((r9 = 0 → (K [(1, (-1))] g)) ∧ (¬ (r9 = 0) → (((yb (fun x y => x / y) v 1000) ≤ (yb (fun x y => x - x / y * y) v 1000) → (((g 1 7) < 12 → (∃ (d14 a15 b16 : Int), [(3, 1), (1, d), (1, (yb (fun x y => x / y) v 1000)), (1, (yb (fun x y => x - x / y * y) v 1000))] = [(3, 1), (1, d14), (1, a15), (1, b16)] ∧ (yTy zpZ g) ∧ (0 ≤ g 1 7 ∧ g 1 7 < 12) ∧ (-2147483648 ≤ d14 ∧ d14 ≤ 2147483647) ∧ (-2147483648 ≤ a15 ∧ a15 ≤ 2147483647) ∧ (-2147483648 ≤ b16 ∧ b16 ≤ 2147483647) ∧ (∀ (g17 : yM), (yTy zpZ g17) → (yWz (yaw 1 7 15 16 17 g d14 a15 b16) g17) → (K [(1, (g17 1 7))] g17)))) ∧ (¬ ((g 1 7) < 12) → (K [(1, (-3))] g)))) ∧ (¬ ((yb (fun x y => x / y) v 1000) ≤ (yb (fun x y => x - x / y * y) v 1000)) → (K [(1, (-1))] g)))))))))))))))
  refine ⟨(by have q1 := yb_rng (fun x y => x / y) v 1000; have q2 := yb_rng (fun x y => x - x / y * y) v 1000; omega), ?_⟩
  refine ⟨(by have q1 := yb_rng (fun x y => x / y) v 1000; have q2 := yb_rng (fun x y => x - x / y * y) v 1000; omega), ?_⟩
  refine ⟨_, _, rfl, ?_⟩
  intro r3 p40
  refine ⟨fun h5 => ?_, fun h5 => ?_⟩
  · have q1 := yb_rng (fun x y => x / y) v 1000
    have q2 := yb_rng (fun x y => x - x / y * y) v 1000
    have q3 : 0 ≤ v → 0 ≤ (yb (fun x y => x / y) v 1000) := fun h => yq0 h hr_v.2
    exact hK _ _ (fun _ => ⟨rfl, rfl⟩) (fun h => absurd h (by omega)) (fun h => absurd h (by omega))
  · refine ⟨fun h6 => ?_, fun h6 => ?_⟩
    · have q1 := yb_rng (fun x y => x / y) v 1000
      have q2 := yb_rng (fun x y => x - x / y * y) v 1000
      have q3 : 0 ≤ v → 0 ≤ (yb (fun x y => x / y) v 1000) := fun h => yq0 h hr_v.2
      exact hK _ _ (fun _ => ⟨rfl, rfl⟩) (fun h => absurd h (by omega)) (fun h => absurd h (by omega))
    · refine ⟨_, _, rfl, ?_⟩
      intro r9 p100
      refine ⟨fun h11 => ?_, fun h11 => ?_⟩
      · have q1 := yb_rng (fun x y => x / y) v 1000
        have q2 := yb_rng (fun x y => x - x / y * y) v 1000
        have q3 : 0 ≤ v → 0 ≤ (yb (fun x y => x / y) v 1000) := fun h => yq0 h hr_v.2
        exact hK _ _ (fun _ => ⟨rfl, rfl⟩) (fun h => absurd h (by omega)) (fun h => absurd h (by omega))
      · refine ⟨fun h12 => ?_, fun h12 => ?_⟩
        · refine ⟨fun h13 => ?_, fun h13 => ?_⟩
          · refine ⟨_, _, _, rfl, (hp0), (by have q1 := yb_rng (fun x y => x / y) v 1000; have q2 := yb_rng (fun x y => x - x / y * y) v 1000; omega), (by have q1 := yb_rng (fun x y => x / y) v 1000; have q2 := yb_rng (fun x y => x - x / y * y) v 1000; omega), (by have q1 := yb_rng (fun x y => x / y) v 1000; have q2 := yb_rng (fun x y => x - x / y * y) v 1000; omega), (by have q1 := yb_rng (fun x y => x / y) v 1000; have q2 := yb_rng (fun x y => x - x / y * y) v 1000; omega), ?_⟩
            intro g17 p180 p181
            have q1 := yb_rng (fun x y => x / y) v 1000
            have q2 := yb_rng (fun x y => x - x / y * y) v 1000
            have q3 : 0 ≤ v → 0 ≤ (yb (fun x y => x / y) v 1000) := fun h => yq0 h hr_v.2
            have e7 : g17 1 7 = g 1 7 + 1 := by rw [p181.1 1 7 (by omega)]; exact yset_eq
            exact hK _ _ (fun h => absurd (by omega) h) (fun _ h => absurd h (by omega)) (fun _ _ => ⟨e7, p180, p181⟩)
          · have q1 := yb_rng (fun x y => x / y) v 1000
            have q2 := yb_rng (fun x y => x - x / y * y) v 1000
            have q3 : 0 ≤ v → 0 ≤ (yb (fun x y => x / y) v 1000) := fun h => yq0 h hr_v.2
            exact hK _ _ (fun h => absurd (by omega) h) (fun _ _ => ⟨rfl, rfl⟩) (fun _ h => absurd h (by omega))
        · have q1 := yb_rng (fun x y => x / y) v 1000
          have q2 := yb_rng (fun x y => x - x / y * y) v 1000
          have q3 : 0 ≤ v → 0 ≤ (yb (fun x y => x / y) v 1000) := fun h => yq0 h hr_v.2
          exact hK _ _ (fun _ => ⟨rfl, rfl⟩) (fun h => absurd h (by omega)) (fun h => absurd h (by omega))
theorem yM_CAW {l : Launch} {Ts : List Cond} {cl : List vw_C} {RO : zRO} (H : zHyp Ts cl RO) : yMet l Ts cl zpZ RO zpMT yC_CAW := ymet_of2 H.1 H.2.1 zpDj H.2.2.1 yRb H.p0 (ymets_cons (yM_W H) (ymets_cons (yM_CAA H) ymets_nil)) (zrc1 rfl) (plainFor_of_name zpy0) zpDk2 (fun as g K Y h hA hY => by
  obtain ⟨d, v, rfl, hp0, hp1, hK⟩ := h
  exact yv_CAW hY (yAr1 hA (by simp)) (yAr1 hA (by simp)) hp0 hp1 hK)
def yP_MAW : yPT := fun as g K => ∃ (d v : Int), as = [(3, 90), (1, d), (1, v)] ∧ (yTy zpZ g) ∧ (0 ≤ g 90 6 ∧ g 90 6 ≤ 12) ∧ (∀ (r : Int) (g' : yM), (¬ (0 ≤ d ∧ d < 4 ∧ 0 ≤ v ∧ 0 ≤ (yb (fun x y => x - x / y * y) v 1000) ∧ (yb (fun x y => x - x / y * y) v 1000) < 720 ∧ 0 ≤ (yb (fun x y => x / y) v 1000) ∧ (yb (fun x y => x / y) v 1000) ≤ (yb (fun x y => x - x / y * y) v 1000)) → r = -1 ∧ g' = g) → ((0 ≤ d ∧ d < 4 ∧ 0 ≤ v ∧ 0 ≤ (yb (fun x y => x - x / y * y) v 1000) ∧ (yb (fun x y => x - x / y * y) v 1000) < 720 ∧ 0 ≤ (yb (fun x y => x / y) v 1000) ∧ (yb (fun x y => x / y) v 1000) ≤ (yb (fun x y => x - x / y * y) v 1000)) → g 90 6 = 12 → r = -3 ∧ g' = g) → ((0 ≤ d ∧ d < 4 ∧ 0 ≤ v ∧ 0 ≤ (yb (fun x y => x - x / y * y) v 1000) ∧ (yb (fun x y => x - x / y * y) v 1000) < 720 ∧ 0 ≤ (yb (fun x y => x / y) v 1000) ∧ (yb (fun x y => x / y) v 1000) ≤ (yb (fun x y => x - x / y * y) v 1000)) → g 90 6 < 12 → r = g 90 6 + 1 ∧ g' = yaw 90 6 95 96 97 g d (yb (fun x y => x / y) v 1000) (yb (fun x y => x - x / y * y) v 1000)) → K [(1, r)] g')
def yC_MAW : yC := (137, (3, 85), yP_MAW)
set_option maxRecDepth 8000 in
theorem yv_MAW {K : List yV → yM → Prop} {Y : yNx} {g : yM} {d v : Int} (hY : yCl zpD137 (zpZ, zpRS, zpP12, zpMT, [yC_IDO, yC_IMI], (3, 85), 1) K Y) (hr_d : -2147483648 ≤ d ∧ d ≤ 2147483647) (hr_v : -2147483648 ≤ v ∧ v ≤ 2147483647) (hp0 : yTy zpZ g) (hp1 : 0 ≤ g 90 6 ∧ g 90 6 ≤ 12) (hK : ∀ (r : Int) (g' : yM), (¬ (0 ≤ d ∧ d < 4 ∧ 0 ≤ v ∧ 0 ≤ (yb (fun x y => x - x / y * y) v 1000) ∧ (yb (fun x y => x - x / y * y) v 1000) < 720 ∧ 0 ≤ (yb (fun x y => x / y) v 1000) ∧ (yb (fun x y => x / y) v 1000) ≤ (yb (fun x y => x - x / y * y) v 1000)) → r = -1 ∧ g' = g) → ((0 ≤ d ∧ d < 4 ∧ 0 ≤ v ∧ 0 ≤ (yb (fun x y => x - x / y * y) v 1000) ∧ (yb (fun x y => x - x / y * y) v 1000) < 720 ∧ 0 ≤ (yb (fun x y => x / y) v 1000) ∧ (yb (fun x y => x / y) v 1000) ≤ (yb (fun x y => x - x / y * y) v 1000)) → g 90 6 = 12 → r = -3 ∧ g' = g) → ((0 ≤ d ∧ d < 4 ∧ 0 ≤ v ∧ 0 ≤ (yb (fun x y => x - x / y * y) v 1000) ∧ (yb (fun x y => x - x / y * y) v 1000) < 720 ∧ 0 ≤ (yb (fun x y => x / y) v 1000) ∧ (yb (fun x y => x / y) v 1000) ≤ (yb (fun x y => x - x / y * y) v 1000)) → g 90 6 < 12 → r = g 90 6 + 1 ∧ g' = yaw 90 6 95 96 97 g d (yb (fun x y => x / y) v 1000) (yb (fun x y => x - x / y * y) v 1000)) → K [(1, r)] g') : Y 0 [(3, 90), (1, d), (1, v)] [] g := by
  refine yrun_ok (sp := fun pc => false) hY 57 0 _ [] g ?_
  show (∃ (d1 : Int), [(1, d)] = [(1, d1)] ∧ (∀ (r2 : Int), ((r2 = 1 ∧ 0 ≤ d1 ∧ d1 < 4) ∨ (r2 = 0 ∧ (d1 < 0 ∨ 4 ≤ d1))) → ((r2 = 0 → (K [(1, (-1))] g)) ∧ (¬ (r2 = 0) → ((v < 0 → (K [(1, (-1))] g)) ∧ (¬ (v < 0) → ((1000 : Int) ≠ 0 ∧ (∃ (d6 : Int), [(1, (yb (fun x y => x / y) v 1000))] = [(1, d6)] ∧ (∀ (r7 : Int), ((r7 = 1 ∧ 0 ≤ d6 ∧ d6 < 720) ∨ (r7 = 0 ∧ (d6 < 0 ∨ 720 ≤ d6))) → ((r7 = 0 → (K [(1, (-1))] g)) ∧ (¬ (r7 = 0) → ((1000 : Int) ≠ 0 ∧ (∃ (d10 : Int), [(1, (yb (fun x y => x - x / y * y) v 1000))] = [(1, d10)] ∧ (∀ (r11 : Int), ((r11 = 1 ∧ 0 ≤ d10 ∧ d10 < 720) ∨ (r11 = 0 ∧ (d10 < 0 ∨ 720 ≤ d10))) → ((r11 = 0 → (K [(1, (-1))] g)) ∧ (¬ (r11 = 0) → ((1000 : Int) ≠ 0 ∧ ((1000 : Int) ≠ 0 ∧ (((yb (fun x y => x / y) v 1000) ≤ (yb (fun x y => x - x / y * y) v 1000) → (((g 90 6) ≠ 12 → (((0 : Int) ≤ (g 90 6) ∧ (g 90 6) < ((12 : Nat) : Int)) ∧ ((1000 : Int) ≠ 0 ∧ (((0 : Int) ≤ (g 90 6) ∧ (g 90 6) < ((12 : Nat) : Int)) ∧ ((1000 : Int) ≠ 0 ∧ (((0 : Int) ≤ (g 90 6) ∧ (g 90 6) < ((12 : Nat) : Int)) ∧ (K [(1, (yw ((g 90 6) + 1)))] (yset (yset (yset (yset g 95 (Int.toNat (g 90 6)) d) 96 (Int.toNat (g 90 6)) (yb (fun x y => x / y) v 1000)) 97 (Int.toNat (g 90 6)) (yb (fun x y => x - x / y * y) v 1000)) 90 6 (yw ((g 90 6) + 1)))))))))) ∧ (¬ ((g 90 6) ≠ 12) → (K [(1, (-3))] g)))) ∧ (¬ ((yb (fun x y => x / y) v 1000) ≤ (yb (fun x y => x - x / y * y) v 1000)) → (K [(1, (-1))] g)))))))))))))))))))))
  refine ⟨_, rfl, ?_⟩
  intro r2 p30
  refine ⟨fun h4 => ?_, fun h4 => ?_⟩
  · have q1 := yb_rng (fun x y => x / y) v 1000
    have q2 := yb_rng (fun x y => x - x / y * y) v 1000
    have q3 : 0 ≤ v → 0 ≤ (yb (fun x y => x / y) v 1000) := fun h => yq0 h hr_v.2
    exact hK _ _ (fun _ => ⟨rfl, rfl⟩) (fun h => absurd h (by omega)) (fun h => absurd h (by omega))
  · refine ⟨fun h5 => ?_, fun h5 => ?_⟩
    · have q1 := yb_rng (fun x y => x / y) v 1000
      have q2 := yb_rng (fun x y => x - x / y * y) v 1000
      have q3 : 0 ≤ v → 0 ≤ (yb (fun x y => x / y) v 1000) := fun h => yq0 h hr_v.2
      exact hK _ _ (fun _ => ⟨rfl, rfl⟩) (fun h => absurd h (by omega)) (fun h => absurd h (by omega))
    · refine ⟨(by have q1 := yb_rng (fun x y => x / y) v 1000; have q2 := yb_rng (fun x y => x - x / y * y) v 1000; omega), ?_⟩
      refine ⟨_, rfl, ?_⟩
      intro r7 p80
      refine ⟨fun h9 => ?_, fun h9 => ?_⟩
      · have q1 := yb_rng (fun x y => x / y) v 1000
        have q2 := yb_rng (fun x y => x - x / y * y) v 1000
        have q3 : 0 ≤ v → 0 ≤ (yb (fun x y => x / y) v 1000) := fun h => yq0 h hr_v.2
        exact hK _ _ (fun _ => ⟨rfl, rfl⟩) (fun h => absurd h (by omega)) (fun h => absurd h (by omega))
      · refine ⟨(by have q1 := yb_rng (fun x y => x / y) v 1000; have q2 := yb_rng (fun x y => x - x / y * y) v 1000; omega), ?_⟩
        refine ⟨_, rfl, ?_⟩
        intro r11 p120
        refine ⟨fun h13 => ?_, fun h13 => ?_⟩
        · have q1 := yb_rng (fun x y => x / y) v 1000
          have q2 := yb_rng (fun x y => x - x / y * y) v 1000
          have q3 : 0 ≤ v → 0 ≤ (yb (fun x y => x / y) v 1000) := fun h => yq0 h hr_v.2
          exact hK _ _ (fun _ => ⟨rfl, rfl⟩) (fun h => absurd h (by omega)) (fun h => absurd h (by omega))
        · refine ⟨(by have q1 := yb_rng (fun x y => x / y) v 1000; have q2 := yb_rng (fun x y => x - x / y * y) v 1000; omega), ?_⟩
          refine ⟨(by have q1 := yb_rng (fun x y => x / y) v 1000; have q2 := yb_rng (fun x y => x - x / y * y) v 1000; omega), ?_⟩
          refine ⟨fun h14 => ?_, fun h14 => ?_⟩
          · refine ⟨fun h15 => ?_, fun h15 => ?_⟩
            · refine ⟨(by have q1 := yb_rng (fun x y => x / y) v 1000; have q2 := yb_rng (fun x y => x - x / y * y) v 1000; omega), ?_⟩
              refine ⟨(by have q1 := yb_rng (fun x y => x / y) v 1000; have q2 := yb_rng (fun x y => x - x / y * y) v 1000; omega), ?_⟩
              refine ⟨(by have q1 := yb_rng (fun x y => x / y) v 1000; have q2 := yb_rng (fun x y => x - x / y * y) v 1000; omega), ?_⟩
              refine ⟨(by have q1 := yb_rng (fun x y => x / y) v 1000; have q2 := yb_rng (fun x y => x - x / y * y) v 1000; omega), ?_⟩
              refine ⟨(by have q1 := yb_rng (fun x y => x / y) v 1000; have q2 := yb_rng (fun x y => x - x / y * y) v 1000; omega), ?_⟩
              have q1 := yb_rng (fun x y => x / y) v 1000
              have q2 := yb_rng (fun x y => x - x / y * y) v 1000
              have q3 : 0 ≤ v → 0 ≤ (yb (fun x y => x / y) v 1000) := fun h => yq0 h hr_v.2
              have hq : yw ((g 90 6) + 1) = g 90 6 + 1 := yw_s (g 90 6 + 1) (by omega) (by omega)
              rw [hq]
              exact hK _ _ (fun h => absurd (by omega) h) (fun _ h => absurd h (by omega)) (fun _ _ => ⟨rfl, rfl⟩)
            · have q1 := yb_rng (fun x y => x / y) v 1000
              have q2 := yb_rng (fun x y => x - x / y * y) v 1000
              have q3 : 0 ≤ v → 0 ≤ (yb (fun x y => x / y) v 1000) := fun h => yq0 h hr_v.2
              exact hK _ _ (fun h => absurd (by omega) h) (fun _ _ => ⟨rfl, rfl⟩) (fun _ h => absurd h (by omega))
          · have q1 := yb_rng (fun x y => x / y) v 1000
            have q2 := yb_rng (fun x y => x - x / y * y) v 1000
            have q3 : 0 ≤ v → 0 ≤ (yb (fun x y => x / y) v 1000) := fun h => yq0 h hr_v.2
            exact hK _ _ (fun _ => ⟨rfl, rfl⟩) (fun h => absurd h (by omega)) (fun h => absurd h (by omega))
theorem yM_MAW {l : Launch} {Ts : List Cond} {cl : List vw_C} {RO : zRO} (H : zHyp Ts cl RO) : yMet l Ts cl zpZ RO zpMT yC_MAW := ymet_of2 H.1 H.2.1 zpDj H.2.2.1 yRb H.p12 (ymets_cons (yM_IDO H) (ymets_cons (yM_IMI H) ymets_nil)) (zrc1 rfl) (plainFor_of_name zpy12) zpDk137 (fun as g K Y h hA hY => by
  obtain ⟨d, v, rfl, hp0, hp1, hK⟩ := h
  exact yv_MAW hY (yAr1 hA (by simp)) (yAr1 hA (by simp)) hp0 hp1 hK)
def yP_RTX : yPT := fun as g K => as = [(3, 6)] ∧ (yTy zpZ g) ∧ (∀ (r : Int) (g' : yM), (yTy zpZ g') → (yUn zpC141.2.2.2.2 g g') → K [(1, r)] g')
def yC_RTX : yC := (85, (65, 2009), yP_RTX)
theorem yM_RTX {l : Launch} {Ts : List Cond} {cl : List vw_C} {RO : zRO} (H : zHyp Ts cl RO) : yMet l Ts cl zpZ RO zpMT yC_RTX := fun D tys A ad ws g as As K hMem hSA hlen hD hK0 => yhavG (C := zpC141) (q0 := 6) (ks := []) (ivs := []) (fs := []) (rt := 1) zpDj yZk rfl (by decide +kernel) (fun f hf => by cases hf) ((zpM141 H).toE rfl) D tys A ad ws g as As K hMem hSA hlen hD (by
  obtain ⟨rfl, hp0, hK⟩ := hK0
  have hp00 := hp0
  obtain ⟨gh, hg, hT⟩ := hp00
  refine ⟨⟨_, rfl, rfl, (fun i a iv h1 h2 => by cases h1)⟩, gh, hg, hT, (fun f hf => by cases hf), fun r g' hr h1 h2 => ?_⟩
  obtain ⟨z, rfl⟩ : ∃ z : Int, r = [(1, z)] := by
    unfold yhR at hr
    rw [if_neg (by decide)] at hr
    exact hr
  exact hK z g' h1 h2)
def yP_CTX : yPT := fun as g K => as = [(3, 0)] ∧ (yTy zpZ g) ∧ (∀ (r : Int) (g' : yM), (yTy zpZ g') → (g' 2 2 = 0) → (yUn (zpC141.2.2.2.2 ++ [(2, 2, 1, 2)]) g g') → K [(1, r)] g')
def yC_CTX : yC := (35, (66, 2031), yP_CTX)
set_option maxRecDepth 8000 in
theorem yv_CTX {K : List yV → yM → Prop} {Y : yNx} {g : yM} (hY : yCl zpD35 (zpZ, zpRS, zpP0, zpMT, [yC_RTX, yC_CR], (66, 2031), 1) K Y) (hp0 : yTy zpZ g) (hK : ∀ (r : Int) (g' : yM), (yTy zpZ g') → (g' 2 2 = 0) → (yUn (zpC141.2.2.2.2 ++ [(2, 2, 1, 2)]) g g') → K [(1, r)] g') : Y 0 [(3, 0), (0, 0)] [] g := by
  refine yrun_ok (sp := fun pc => false) hY 14 0 _ [] g ?_
  show ([(3, 6)] = [(3, 6)] ∧ (yTy zpZ g) ∧ (∀ (r1 : Int) (g2 : yM), (yTy zpZ g2) → (yUn zpC141.2.2.2.2 g g2) → ([(3, 2)] = [(3, 2)] ∧ (∀ (g4 : yM), (g4 = yset g2 2 2 0) → ((r1 ≠ (-1) → (K [(1, (yw ((-100) - r1)))] g4)) ∧ (¬ (r1 ≠ (-1)) → (K [(1, 1)] g4)))))))
  refine ⟨rfl, (hp0), ?_⟩
  intro r1 g2 p30 p31
  refine ⟨rfl, ?_⟩
  intro g4 p50
  subst p50
  refine ⟨fun h6 => ?_, fun h6 => ?_⟩
  · refine hK _ _ (yTy.sO p30 (List.mem_of_getElem? (i := 2) rfl) rfl (by decide +kernel) ⟨by decide, by decide⟩) yset_eq (yUn.st (yUn.sub p31 (fun w hw => List.mem_append_left _ hw)) ⟨(2, 2, 1, 2), List.mem_append_right _ List.mem_cons_self, by decide, by decide, Or.inr rfl⟩)
  · refine hK _ _ (yTy.sO p30 (List.mem_of_getElem? (i := 2) rfl) rfl (by decide +kernel) ⟨by decide, by decide⟩) yset_eq (yUn.st (yUn.sub p31 (fun w hw => List.mem_append_left _ hw)) ⟨(2, 2, 1, 2), List.mem_append_right _ List.mem_cons_self, by decide, by decide, Or.inr rfl⟩)
theorem yM_CTX {l : Launch} {Ts : List Cond} {cl : List vw_C} {RO : zRO} (H : zHyp Ts cl RO) : yMet l Ts cl zpZ RO zpMT yC_CTX := ymet_of2 H.1 H.2.1 zpDj H.2.2.1 yRb H.p0 (ymets_cons (yM_RTX H) (ymets_cons (yM_CR H) ymets_nil)) (zrc1 rfl) (plainFor_of_name zpy0) zpDk35 (fun as g K Y h hA hY => by
  obtain ⟨rfl, hp0, hK⟩ := h
  exact yv_CTX hY  hp0 hK)
def yP_WKO : yPT := fun as g K => ∃ (a b : Int), as = [(3, 90), (1, a), (1, b)] ∧ (yTy zpZ g) ∧ (-1 ≤ a ∧ a ≤ 0) ∧ (0 ≤ b ∧ b ≤ 60) ∧ (∀ (r : Int) (g' : yM), (yTy zpZ g') → (yUn zpC591.2.2.2.2 g g') → K [(1, r)] g')
def yC_WKO : yC := (213, (44, 1019), yP_WKO)
theorem yM_WKO {l : Launch} {Ts : List Cond} {cl : List vw_C} {RO : zRO} (H : zHyp Ts cl RO) : yMet l Ts cl zpZ RO zpMT yC_WKO := fun D tys A ad ws g as As K hMem hSA hlen hD hK0 => yhavG (C := zpC591) (q0 := 90) (ks := [1, 1]) (ivs := [[((-1), 0)], [(0, 60)]]) (fs := [(90, 17, [(0, 60)]), (90, 18, [(0, 60)]), (90, 19, [((-1), 60)]), (90, 20, [(0, 6)])]) (rt := 1) zpDj yZk rfl (by decide +kernel) (fun f hf => by
    have hf : f ∈ ([(90, 17, [(0, 60)]), (90, 18, [(0, 60)]), (90, 19, [((-1), 60)]), (90, 20, [(0, 6)])] : List (Nat × Nat × zIv)) := hf
    simp only [List.mem_cons, List.not_mem_nil, or_false] at hf
    rcases hf with rfl | rfl | rfl | rfl
    · exact ⟨_, List.mem_of_getElem? (i := 42) rfl, Nat.le_refl _, Nat.le_refl _, _, _, _, _, rfl, rfl, rfl⟩
    · exact ⟨_, List.mem_of_getElem? (i := 42) rfl, Nat.le_refl _, Nat.le_refl _, _, _, _, _, rfl, rfl, rfl⟩
    · exact ⟨_, List.mem_of_getElem? (i := 42) rfl, Nat.le_refl _, Nat.le_refl _, _, _, _, _, rfl, rfl, rfl⟩
    · exact ⟨_, List.mem_of_getElem? (i := 42) rfl, Nat.le_refl _, Nat.le_refl _, _, _, _, _, rfl, rfl, rfl⟩) ((zpM591 H).toE rfl) D tys A ad ws g as As K hMem hSA hlen hD (by
  obtain ⟨a, b, rfl, hp0, hp1, hp2, hK⟩ := hK0
  have hp00 := hp0
  obtain ⟨gh, hg, hT⟩ := hp00
  refine ⟨⟨_, rfl, rfl, (fun i a iv h1 h2 => by
    match i, h1, h2 with
    | 0, h1, h2 => cases h1; cases h2; exact ⟨_, List.mem_cons_self, hp1.1, hp1.2⟩
    | 1, h1, h2 => cases h1; cases h2; exact ⟨_, List.mem_cons_self, hp2.1, hp2.2⟩
    | n + 2, h1, h2 => cases h1)⟩, gh, hg, hT, (fun f hf => by
    have hf : f ∈ ([(90, 17, [(0, 60)]), (90, 18, [(0, 60)]), (90, 19, [((-1), 60)]), (90, 20, [(0, 6)])] : List (Nat × Nat × zIv)) := hf
    simp only [List.mem_cons, List.not_mem_nil, or_false] at hf
    rcases hf with rfl | rfl | rfl | rfl
    · have h9 := yTy.fO (j := 17) hp0 (List.mem_of_getElem? (i := 42) rfl) rfl
      exact ⟨_, List.mem_cons_self, h9.1, h9.2⟩
    · have h9 := yTy.fO (j := 18) hp0 (List.mem_of_getElem? (i := 42) rfl) rfl
      exact ⟨_, List.mem_cons_self, h9.1, h9.2⟩
    · have h9 := yTy.fO (j := 19) hp0 (List.mem_of_getElem? (i := 42) rfl) rfl
      exact ⟨_, List.mem_cons_self, h9.1, h9.2⟩
    · have h9 := yTy.fO (j := 20) hp0 (List.mem_of_getElem? (i := 42) rfl) rfl
      exact ⟨_, List.mem_cons_self, h9.1, h9.2⟩), fun r g' hr h1 h2 => ?_⟩
  obtain ⟨z, rfl⟩ : ∃ z : Int, r = [(1, z)] := by
    unfold yhR at hr
    rw [if_neg (by decide)] at hr
    exact hr
  exact hK z g' h1 h2)
def yP_MTX : yPT := fun as g K => as = [(3, 90)] ∧ (yTy zpZ g) ∧ (∀ (r : Int) (g' : yM), (yTy zpZ g') → (g' 90 13 = 0) → (yUn (zpC591.2.2.2.2 ++ [(90, 90, 1, 13), (90, 90, 1, 15), (99, 99, 0, 0)]) g g') → K [(1, r)] g')
def yC_MTX : yC := (204, (45, 1046), yP_MTX)
set_option maxRecDepth 8000 in
theorem yl_MTX {K : List yV → yM → Prop} {Y : yNx} {g : yM} {n u : Int} (hY : yCl zpD204 (zpZ, zpRS, zpP12, zpMT, [yC_WKO], (45, 1046), 1) K Y) (hn : 0 ≤ n ∧ n ≤ 60) (hK : ∀ (r : Int) (g' : yM), (yTy zpZ g') → (g' 90 13 = 0) → (yUn (zpC591.2.2.2.2 ++ [(90, 90, 1, 13), (90, 90, 1, 15), (99, 99, 0, 0)]) g g') → K [(1, r)] g') : ∀ (d : Nat) (i : Int), i + d = n → 0 ≤ i → ∀ m : yM, yTy zpZ m → m 90 13 = 0 → yUn (zpC591.2.2.2.2 ++ [(90, 90, 1, 13), (90, 90, 1, 15), (99, 99, 0, 0)]) g m → Y 37 [(3, 90), (1, u), (1, n), (1, i)] [] m := by
  intro d
  induction d with
  | zero =>
    intro i hi h0 m hm h13 hu
    refine yrun_ok (sp := fun pc => Nat.beq pc 37) hY 14 37 _ [] m ?_
    show ((n ≤ i → (K [(1, 1)] (yset m 90 15 n))) ∧ (¬ (n ≤ i) → (((0 : Int) ≤ i ∧ i < ((60 : Nat) : Int)) ∧ (((0 : Int) ≤ i ∧ i < ((60 : Nat) : Int)) ∧ (Y 37 [(3, 90), (1, u), (1, n), (1, (yw (i + 1)))] [] (yset m 99 (Int.toNat i) (m 98 (Int.toNat i))))))))
    refine ⟨fun h1 => ?_, fun h1 => ?_⟩
    · exact hK _ _ (yTy.sO hm (List.mem_of_getElem? (i := 42) rfl) rfl (by decide +kernel) ⟨by omega, by omega⟩) (by rw [yset_ne (by decide)]; exact h13) (yUn.st hu ⟨(90, 90, 1, 15), List.mem_append_right _ (by decide), by decide, by decide, Or.inr rfl⟩)
    · refine ⟨(by omega), ?_⟩
      refine ⟨(by omega), ?_⟩
      omega
  | succ d ih =>
    intro i hi h0 m hm h13 hu
    refine yrun_ok (sp := fun pc => Nat.beq pc 37) hY 14 37 _ [] m ?_
    show ((n ≤ i → (K [(1, 1)] (yset m 90 15 n))) ∧ (¬ (n ≤ i) → (((0 : Int) ≤ i ∧ i < ((60 : Nat) : Int)) ∧ (((0 : Int) ≤ i ∧ i < ((60 : Nat) : Int)) ∧ (Y 37 [(3, 90), (1, u), (1, n), (1, (yw (i + 1)))] [] (yset m 99 (Int.toNat i) (m 98 (Int.toNat i))))))))
    refine ⟨fun h1 => ?_, fun h1 => ?_⟩
    · omega
    · refine ⟨(by omega), ?_⟩
      refine ⟨(by omega), ?_⟩
      have y1 : yw (i + 1) = i + 1 := yw_s (i + 1) (by omega) (by omega)
      rw [y1]
      exact ih (i + 1) (by omega) (by omega) _ (yTy.sA hm (List.mem_of_getElem? (i := 51) rfl) (by decide +kernel) (hm.fA (List.mem_of_getElem? (i := 50) rfl) (by omega))) (by rw [yset_nc (by decide)]; exact h13) (yUn.st hu ⟨(99, 99, 0, 0), List.mem_append_right _ (by decide), by decide, by decide, Or.inl rfl⟩)
set_option maxRecDepth 8000 in
theorem yv_MTX {K : List yV → yM → Prop} {Y : yNx} {g : yM} (hY : yCl zpD204 (zpZ, zpRS, zpP12, zpMT, [yC_WKO], (45, 1046), 1) K Y) (hp0 : yTy zpZ g) (hK : ∀ (r : Int) (g' : yM), (yTy zpZ g') → (g' 90 13 = 0) → (yUn (zpC591.2.2.2.2 ++ [(90, 90, 1, 13), (90, 90, 1, 15), (99, 99, 0, 0)]) g g') → K [(1, r)] g') : Y 0 [(3, 90), (0, 0), (0, 0), (0, 0)] [] g := by
  refine yrun_ok (sp := fun pc => Nat.beq pc 37) hY 20 0 _ [] g ?_
  show (∃ (a1 b2 : Int), [(3, 90), (1, (-1)), (1, (g 90 13))] = [(3, 90), (1, a1), (1, b2)] ∧ (yTy zpZ g) ∧ (-1 ≤ a1 ∧ a1 ≤ 0) ∧ (0 ≤ b2 ∧ b2 ≤ 60) ∧ (∀ (r3 : Int) (g4 : yM), (yTy zpZ g4) → (yUn zpC591.2.2.2.2 g g4) → (((g4 90 19) < 0 → (Y 37 [(3, 90), (1, r3), (1, (g4 90 13)), (1, 0)] [] (yset g4 90 13 0))) ∧ (¬ ((g4 90 19) < 0) → (K [(1, (yw ((-100) - (g4 90 19))))] (yset g4 90 13 0))))))
  refine ⟨_, _, rfl, (hp0), (by have h9 := hp0.fO (j := 13) (List.mem_of_getElem? (i := 42) rfl) rfl; omega), (by have h9 := hp0.fO (j := 13) (List.mem_of_getElem? (i := 42) rfl) rfl; omega), ?_⟩
  intro r3 g4 p50 p51
  refine ⟨fun h6 => ?_, fun h6 => ?_⟩
  · have t1 : yTy zpZ (yset g4 90 13 0) := yTy.sO p50 (List.mem_of_getElem? (i := 42) rfl) rfl (by decide +kernel) ⟨by decide, by decide⟩
    have u1 : yUn (zpC591.2.2.2.2 ++ [(90, 90, 1, 13), (90, 90, 1, 15), (99, 99, 0, 0)]) g (yset g4 90 13 0) := yUn.st (yUn.sub p51 (fun w hw => List.mem_append_left _ hw)) ⟨(90, 90, 1, 13), List.mem_append_right _ (by decide), by decide, by decide, Or.inr rfl⟩
    have hn := p50.fO (j := 13) (List.mem_of_getElem? (i := 42) rfl) rfl
    exact yl_MTX hY hn hK (Int.toNat (g4 90 13)) 0 (by omega) (by omega) _ t1 yset_eq u1
  · have t1 : yTy zpZ (yset g4 90 13 0) := yTy.sO p50 (List.mem_of_getElem? (i := 42) rfl) rfl (by decide +kernel) ⟨by decide, by decide⟩
    have u1 : yUn (zpC591.2.2.2.2 ++ [(90, 90, 1, 13), (90, 90, 1, 15), (99, 99, 0, 0)]) g (yset g4 90 13 0) := yUn.st (yUn.sub p51 (fun w hw => List.mem_append_left _ hw)) ⟨(90, 90, 1, 13), List.mem_append_right _ (by decide), by decide, by decide, Or.inr rfl⟩
    exact hK _ _ t1 yset_eq u1
theorem yM_MTX {l : Launch} {Ts : List Cond} {cl : List vw_C} {RO : zRO} (H : zHyp Ts cl RO) : yMet l Ts cl zpZ RO zpMT yC_MTX := ymet_of2 H.1 H.2.1 zpDj H.2.2.1 yRb H.p12 (ymets_cons (yM_WKO H) ymets_nil) (zrc1 rfl) (plainFor_of_name zpy12) zpDk204 (fun as g K Y h hA hY => by
  obtain ⟨rfl, hp0, hK⟩ := h
  exact yv_MTX hY  hp0 hK)
def yP_CNT : yPT := fun as g K => ∃ (w : Int), as = [(3, 0), (1, w)] ∧ (∀ (r : Int), (((w = 0 ∧ r = g 1 1) ∨ (w = 1 ∧ r = g 6 8) ∨ (w = 2 ∧ r = g 2 2) ∨ (w = 3 ∧ r = g 1 7) ∨ (w = 4 ∧ r = g 4 5) ∨ (w = 5 ∧ r = g 8 1) ∨ ((w < 0 ∨ 5 < w) ∧ r = -1))) → K [(1, r)] g)
def yC_CNT : yC := (9, (1, 40), yP_CNT)
set_option maxRecDepth 8000 in
theorem yv_CNT {K : List yV → yM → Prop} {Y : yNx} {g : yM} {w : Int} (hY : yCl zpD9 (zpZ, zpRS, zpP0, zpMT, [], (1, 40), 1) K Y) (hr_w : -2147483648 ≤ w ∧ w ≤ 2147483647) (hK : ∀ (r : Int), (((w = 0 ∧ r = g 1 1) ∨ (w = 1 ∧ r = g 6 8) ∨ (w = 2 ∧ r = g 2 2) ∨ (w = 3 ∧ r = g 1 7) ∨ (w = 4 ∧ r = g 4 5) ∨ (w = 5 ∧ r = g 8 1) ∨ ((w < 0 ∨ 5 < w) ∧ r = -1))) → K [(1, r)] g) : Y 0 [(3, 0), (1, w)] [] g := by
  refine yrun_ok (sp := fun pc => false) hY 6 0 _ [] g ?_
  show (((6 : Nat) : Int) = (5 : Int) - 0 + 1 ∧ (w < 0 ∨ 5 < w → (K [(1, (-1))] g)) ∧ (w = 0 → (K [(1, (g 1 1))] g)) ∧ (w = 0 + 1 → (K [(1, (g 6 8))] g)) ∧ (w = 0 + 1 + 1 → (K [(1, (g 2 2))] g)) ∧ (w = 0 + 1 + 1 + 1 → (K [(1, (g 1 7))] g)) ∧ (w = 0 + 1 + 1 + 1 + 1 → (K [(1, (g 4 5))] g)) ∧ (w = 0 + 1 + 1 + 1 + 1 + 1 → (K [(1, (g 8 1))] g)) ∧ True)
  refine ⟨by decide, fun h1 => ?_, fun h1 => ?_, fun h1 => ?_, fun h1 => ?_, fun h1 => ?_, fun h1 => ?_, fun h1 => ?_, trivial⟩
  · exact hK _ (by first | omega | exact fun _ => rfl | exact fun h => absurd h (by omega) | exact rfl | exact fun _ _ => rfl | exact fun h _ => absurd h (by omega) | exact fun _ h => absurd h (by omega))
  · exact hK _ (by first | omega | exact fun _ => rfl | exact fun h => absurd h (by omega) | exact rfl | exact fun _ _ => rfl | exact fun h _ => absurd h (by omega) | exact fun _ h => absurd h (by omega))
  · exact hK _ (by first | omega | exact fun _ => rfl | exact fun h => absurd h (by omega) | exact rfl | exact fun _ _ => rfl | exact fun h _ => absurd h (by omega) | exact fun _ h => absurd h (by omega))
  · exact hK _ (by first | omega | exact fun _ => rfl | exact fun h => absurd h (by omega) | exact rfl | exact fun _ _ => rfl | exact fun h _ => absurd h (by omega) | exact fun _ h => absurd h (by omega))
  · exact hK _ (by first | omega | exact fun _ => rfl | exact fun h => absurd h (by omega) | exact rfl | exact fun _ _ => rfl | exact fun h _ => absurd h (by omega) | exact fun _ h => absurd h (by omega))
  · exact hK _ (by first | omega | exact fun _ => rfl | exact fun h => absurd h (by omega) | exact rfl | exact fun _ _ => rfl | exact fun h _ => absurd h (by omega) | exact fun _ h => absurd h (by omega))
  · exact hK _ (by first | omega | exact fun _ => rfl | exact fun h => absurd h (by omega) | exact rfl | exact fun _ _ => rfl | exact fun h _ => absurd h (by omega) | exact fun _ h => absurd h (by omega))
theorem yM_CNT {l : Launch} {Ts : List Cond} {cl : List vw_C} {RO : zRO} (H : zHyp Ts cl RO) : yMet l Ts cl zpZ RO zpMT yC_CNT := ymet_of2 H.1 H.2.1 zpDj H.2.2.1 yRb H.p0 ymets_nil (zrc1 rfl) (plainFor_of_name zpy0) zpDk9 (fun as g K Y h hA hY => by
  obtain ⟨w, rfl, hK⟩ := h
  exact yv_CNT hY (yAr1 hA (by simp)) hK)
def yP_MNT : yPT := fun as g K => ∃ (w : Int), as = [(3, 90), (1, w)] ∧ (∀ (r : Int), (((w = 0 ∧ r = g 90 22) ∨ (w = 1 ∧ r = g 90 38) ∨ (w = 2 ∧ r = g 90 13) ∨ (w = 3 ∧ r = g 90 6) ∨ (w = 4 ∧ r = g 90 5) ∨ (w = 5 ∧ r = g 90 46) ∨ ((w < 0 ∨ 5 < w) ∧ r = -1))) → K [(1, r)] g)
def yC_MNT : yC := (151, (1, 40), yP_MNT)
set_option maxRecDepth 8000 in
theorem yv_MNT {K : List yV → yM → Prop} {Y : yNx} {g : yM} {w : Int} (hY : yCl zpD151 (zpZ, zpRS, zpP12, zpMT, [], (1, 40), 1) K Y) (hr_w : -2147483648 ≤ w ∧ w ≤ 2147483647) (hK : ∀ (r : Int), (((w = 0 ∧ r = g 90 22) ∨ (w = 1 ∧ r = g 90 38) ∨ (w = 2 ∧ r = g 90 13) ∨ (w = 3 ∧ r = g 90 6) ∨ (w = 4 ∧ r = g 90 5) ∨ (w = 5 ∧ r = g 90 46) ∨ ((w < 0 ∨ 5 < w) ∧ r = -1))) → K [(1, r)] g) : Y 0 [(3, 90), (1, w)] [] g := by
  refine yrun_ok (sp := fun pc => false) hY 5 0 _ [] g ?_
  show (((6 : Nat) : Int) = (5 : Int) - 0 + 1 ∧ (w < 0 ∨ 5 < w → (K [(1, (-1))] g)) ∧ (w = 0 → (K [(1, (g 90 22))] g)) ∧ (w = 0 + 1 → (K [(1, (g 90 38))] g)) ∧ (w = 0 + 1 + 1 → (K [(1, (g 90 13))] g)) ∧ (w = 0 + 1 + 1 + 1 → (K [(1, (g 90 6))] g)) ∧ (w = 0 + 1 + 1 + 1 + 1 → (K [(1, (g 90 5))] g)) ∧ (w = 0 + 1 + 1 + 1 + 1 + 1 → (K [(1, (g 90 46))] g)) ∧ True)
  refine ⟨by decide, fun h1 => ?_, fun h1 => ?_, fun h1 => ?_, fun h1 => ?_, fun h1 => ?_, fun h1 => ?_, fun h1 => ?_, trivial⟩
  · exact hK _ (by first | omega | exact fun _ => rfl | exact fun h => absurd h (by omega) | exact rfl | exact fun _ _ => rfl | exact fun h _ => absurd h (by omega) | exact fun _ h => absurd h (by omega))
  · exact hK _ (by first | omega | exact fun _ => rfl | exact fun h => absurd h (by omega) | exact rfl | exact fun _ _ => rfl | exact fun h _ => absurd h (by omega) | exact fun _ h => absurd h (by omega))
  · exact hK _ (by first | omega | exact fun _ => rfl | exact fun h => absurd h (by omega) | exact rfl | exact fun _ _ => rfl | exact fun h _ => absurd h (by omega) | exact fun _ h => absurd h (by omega))
  · exact hK _ (by first | omega | exact fun _ => rfl | exact fun h => absurd h (by omega) | exact rfl | exact fun _ _ => rfl | exact fun h _ => absurd h (by omega) | exact fun _ h => absurd h (by omega))
  · exact hK _ (by first | omega | exact fun _ => rfl | exact fun h => absurd h (by omega) | exact rfl | exact fun _ _ => rfl | exact fun h _ => absurd h (by omega) | exact fun _ h => absurd h (by omega))
  · exact hK _ (by first | omega | exact fun _ => rfl | exact fun h => absurd h (by omega) | exact rfl | exact fun _ _ => rfl | exact fun h _ => absurd h (by omega) | exact fun _ h => absurd h (by omega))
  · exact hK _ (by first | omega | exact fun _ => rfl | exact fun h => absurd h (by omega) | exact rfl | exact fun _ _ => rfl | exact fun h _ => absurd h (by omega) | exact fun _ h => absurd h (by omega))
theorem yM_MNT {l : Launch} {Ts : List Cond} {cl : List vw_C} {RO : zRO} (H : zHyp Ts cl RO) : yMet l Ts cl zpZ RO zpMT yC_MNT := ymet_of2 H.1 H.2.1 zpDj H.2.2.1 yRb H.p12 ymets_nil (zrc1 rfl) (plainFor_of_name zpy12) zpDk151 (fun as g K Y h hA hY => by
  obtain ⟨w, rfl, hK⟩ := h
  exact yv_MNT hY (yAr1 hA (by simp)) hK)
