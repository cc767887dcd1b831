/-! COMERS OUT OF A ROW: THE REFERENCE -/
def yP_IDO : yPT := fun as g K => ∃ (d : Int), as = [(1, d)] ∧ (∀ (r : Int), ((r = 1 ∧ 0 ≤ d ∧ d < 4) ∨ (r = 0 ∧ (d < 0 ∨ 4 ≤ d))) → K [(1, r)] g)
def yC_IDO : yC := (166, (2, 65), yP_IDO)
set_option maxRecDepth 8000 in
theorem yv_IDO {K : List yV → yM → Prop} {Y : yNx} {g : yM} {d : Int} (hY : yCl zpD166 (zpZ, zpRS, zpP12, zpMT, [yC_WM], (2, 65), 2) K Y) (hr_d : -2147483648 ≤ d ∧ d ≤ 2147483647) (hK : ∀ (r : Int), ((r = 1 ∧ 0 ≤ d ∧ d < 4) ∨ (r = 0 ∧ (d < 0 ∨ 4 ≤ d))) → K [(1, r)] g) : Y 0 [(1, d)] [] g := by
  refine yrun_ok (sp := fun pc => false) hY 6 0 _ [] g ?_
  show (∃ (v1 a2 b3 : Int), [(2, d), (2, 0), (2, 3)] = [(2, v1), (2, a2), (2, b3)] ∧ (∀ (r4 : Int), ((r4 = 1 ∧ a2 ≤ v1 ∧ v1 ≤ b3) ∨ (r4 = 0 ∧ (v1 < a2 ∨ b3 < v1))) → (((0 : Int) ≤ r4 ∧ r4 ≤ (1 : Int)) ∧ (K [(1, r4)] g))))
  refine ⟨_, _, _, rfl, ?_⟩
  intro r4 p50
  refine ⟨(by omega), ?_⟩
  exact hK _ (by first | omega | exact fun _ => rfl | exact fun h => absurd h (by omega) | exact rfl | exact fun _ _ => rfl | exact fun h _ => absurd h (by omega) | exact fun _ h => absurd h (by omega))
theorem yM_IDO {l : Launch} {Ts : List Cond} {cl : List vw_C} {RO : zRO} (H : zHyp Ts cl RO) : yMet l Ts cl zpZ RO zpMT yC_IDO := ymet_of2 H.1 H.2.1 zpDj H.2.2.1 yRb H.p12 (ymets_cons (yM_WM H) ymets_nil) (zrc2 rfl) (plainFor_of_name zpy12) zpDk166 (fun as g K Y h hA hY => by
  obtain ⟨d, rfl, hK⟩ := h
  exact yv_IDO hY (yAr1 hA (by simp)) hK)
def yP_IMI : yPT := fun as g K => ∃ (d : Int), as = [(1, d)] ∧ (∀ (r : Int), ((r = 1 ∧ 0 ≤ d ∧ d < 720) ∨ (r = 0 ∧ (d < 0 ∨ 720 ≤ d))) → K [(1, r)] g)
def yC_IMI : yC := (168, (2, 65), yP_IMI)
set_option maxRecDepth 8000 in
theorem yv_IMI {K : List yV → yM → Prop} {Y : yNx} {g : yM} {d : Int} (hY : yCl zpD168 (zpZ, zpRS, zpP12, zpMT, [yC_WM], (2, 65), 2) K Y) (hr_d : -2147483648 ≤ d ∧ d ≤ 2147483647) (hK : ∀ (r : Int), ((r = 1 ∧ 0 ≤ d ∧ d < 720) ∨ (r = 0 ∧ (d < 0 ∨ 720 ≤ d))) → K [(1, r)] g) : Y 0 [(1, d)] [] g := by
  refine yrun_ok (sp := fun pc => false) hY 6 0 _ [] g ?_
  show (∃ (v1 a2 b3 : Int), [(2, d), (2, 0), (2, 719)] = [(2, v1), (2, a2), (2, b3)] ∧ (∀ (r4 : Int), ((r4 = 1 ∧ a2 ≤ v1 ∧ v1 ≤ b3) ∨ (r4 = 0 ∧ (v1 < a2 ∨ b3 < v1))) → (((0 : Int) ≤ r4 ∧ r4 ≤ (1 : Int)) ∧ (K [(1, r4)] g))))
  refine ⟨_, _, _, rfl, ?_⟩
  intro r4 p50
  refine ⟨(by omega), ?_⟩
  exact hK _ (by first | omega | exact fun _ => rfl | exact fun h => absurd h (by omega) | exact rfl | exact fun _ _ => rfl | exact fun h _ => absurd h (by omega) | exact fun _ h => absurd h (by omega))
theorem yM_IMI {l : Launch} {Ts : List Cond} {cl : List vw_C} {RO : zRO} (H : zHyp Ts cl RO) : yMet l Ts cl zpZ RO zpMT yC_IMI := ymet_of2 H.1 H.2.1 zpDj H.2.2.1 yRb H.p12 (ymets_cons (yM_WM H) ymets_nil) (zrc2 rfl) (plainFor_of_name zpy12) zpDk168 (fun as g K Y h hA hY => by
  obtain ⟨d, rfl, hK⟩ := h
  exact yv_IMI hY (yAr1 hA (by simp)) hK)
def yfxm (g : yM) (p t : Int) (j : Nat) : Int := yw (g 123 (Int.toNat (60 * p + (t + j))))
def yfVm (g : yM) (p t : Int) : Prop := 0 ≤ t ∧ t ≤ g 122 (Int.toNat p) - 5 ∧ yfok (yfxm g p t)
/-- the two behind the five -/
def ym2 (m : yM) : yM := yset (yset m 109 5 (-1)) 109 6 (m 109 2)
theorem ym2_nc {m : yM} {a b : Nat} (h : a ≠ 109) : ym2 m a b = m a b := by
  unfold ym2
  rw [yset_nc h, yset_nc h]
theorem ym2_v (m : yM) : ym2 m 109 0 = m 109 0 ∧ ym2 m 109 1 = m 109 1 ∧ ym2 m 109 2 = m 109 2 ∧ ym2 m 109 3 = m 109 3 ∧ ym2 m 109 4 = m 109 4 ∧ ym2 m 109 5 = -1 ∧ ym2 m 109 6 = m 109 2 := by
  unfold ym2
  refine ⟨?_, ?_, ?_, ?_, ?_, ?_, ?_⟩ <;> simp only [yset_nj, yset_eq, ne_eq, Nat.reduceEqDiff, not_false_eq_true]
theorem ym2_ty {m : yM} (h : yTy zpZ m) : yTy zpZ (ym2 m) := by
  unfold ym2
  refine yTy.sA ?_ (List.mem_of_getElem? (i := 61) rfl) (by decide +kernel) (h.fA (List.mem_of_getElem? (i := 61) rfl) (by decide))
  exact h.sA (List.mem_of_getElem? (i := 61) rfl) (by decide +kernel) ⟨by decide, by decide⟩
def ym5 (m : yM) (x : Nat → Int) : yM := yset (yset (yset (yset (yset m 109 0 (x 0)) 109 1 (x 1)) 109 2 (x 2)) 109 3 (x 3)) 109 4 (x 4)
theorem ym5_nc {m : yM} {x : Nat → Int} {a b : Nat} (h : a ≠ 109) : ym5 m x a b = m a b := by
  unfold ym5
  rw [yset_nc h, yset_nc h, yset_nc h, yset_nc h, yset_nc h]
theorem ym5_v (m : yM) (x : Nat → Int) : ym5 m x 109 0 = x 0 ∧ ym5 m x 109 1 = x 1 ∧ ym5 m x 109 2 = x 2 ∧ ym5 m x 109 3 = x 3 ∧ ym5 m x 109 4 = x 4 := by
  unfold ym5
  refine ⟨?_, ?_, ?_, ?_, ?_⟩ <;> simp only [yset_nj, yset_eq, ne_eq, Nat.reduceEqDiff, not_false_eq_true]
theorem ym5_ty {m : yM} {x : Nat → Int} (h : yTy zpZ m) (hx : ∀ j, -2147483648 ≤ x j ∧ x j ≤ 2147483647) : yTy zpZ (ym5 m x) := by
  unfold ym5
  refine yTy.sA ?_ (List.mem_of_getElem? (i := 61) rfl) (by decide +kernel) (hx 4)
  refine yTy.sA ?_ (List.mem_of_getElem? (i := 61) rfl) (by decide +kernel) (hx 3)
  refine yTy.sA ?_ (List.mem_of_getElem? (i := 61) rfl) (by decide +kernel) (hx 2)
  refine yTy.sA ?_ (List.mem_of_getElem? (i := 61) rfl) (by decide +kernel) (hx 1)
  exact h.sA (List.mem_of_getElem? (i := 61) rfl) (by decide +kernel) (hx 0)
/-- so many have come out of a row: the reference -/
def yMr (g : yM) (p i : Int) (n : Nat) (m : yM) : Prop := yTy zpZ m ∧ m 90 22 = g 90 22 + n ∧ (∀ j : Nat, j < n → yfVm g p (i + 5 * j) ∧ (m 91 (Int.toNat (g 90 22) + j) = yfxm g p (i + 5 * j) 0 ∧ m 102 (Int.toNat (g 90 22) + j) = yfxm g p (i + 5 * j) 1 ∧ m 103 (Int.toNat (g 90 22) + j) = yfxm g p (i + 5 * j) 2 ∧ m 104 (Int.toNat (g 90 22) + j) = yfxm g p (i + 5 * j) 3 ∧ m 105 (Int.toNat (g 90 22) + j) = yfxm g p (i + 5 * j) 4 ∧ m 106 (Int.toNat (g 90 22) + j) = -1 ∧ m 107 (Int.toNat (g 90 22) + j) = yfxm g p (i + 5 * j) 2 ∧ m 101 (Int.toNat (g 90 22) + j) = g 90 10 ∧ m 108 (Int.toNat (g 90 22) + j) = -1)) ∧ (∀ a b : Nat, a ≠ 109 → ¬ ((a = 91 ∨ (101 ≤ a ∧ a ≤ 108)) ∧ Int.toNat (g 90 22) ≤ b ∧ b < 40) → ¬ (a = 90 ∧ b = 22) → m a b = g a b)
theorem yMr.x {g m : yM} {p i : Int} {n : Nat} (h : yMr g p i n m) (t : Int) : yfVm m p t = yfVm g p t ∧ yfxm m p t = yfxm g p t := by
  have e : yfxm m p t = yfxm g p t := by
    funext j
    unfold yfxm
    rw [h.2.2.2 123 _ (by omega) (by omega) (by omega)]
  refine ⟨?_, e⟩
  unfold yfVm
  rw [e, h.2.2.2 122 _ (by omega) (by omega) (by omega)]
theorem yMr.sc {g m m' : yM} {p i : Int} {n : Nat} (h : yMr g p i n m) (ht : yTy zpZ m') (he : ∀ a b : Nat, a ≠ 109 → m' a b = m a b) : yMr g p i n m' := by
  obtain ⟨h1, h2, h3, h4⟩ := h
  refine ⟨ht, by rw [he _ _ (by decide)]; exact h2, fun j hj => ?_, fun a b c1 c2 c3 => by rw [he _ _ c1]; exact h4 a b c1 c2 c3⟩
  rw [he 91 _ (by decide), he 102 _ (by decide), he 103 _ (by decide), he 104 _ (by decide), he 105 _ (by decide), he 106 _ (by decide), he 107 _ (by decide), he 101 _ (by decide), he 108 _ (by decide)]
  exact h3 j hj
theorem yMr.one {g m : yM} {p i : Int} {n : Nat} (h : yMr g p i n m) (h0 : 0 ≤ g 90 22) (hs : g 90 22 + n < 40) (hv : yfVm g p (i + 5 * n)) : yMr g p i (n + 1) (yadd (ym2 (ym5 m (yfxm g p (i + 5 * n))))) := by
  have t5 := ym5_ty (x := yfxm g p (i + 5 * n)) h.1 (fun j => ywr _)
  have hz := h.sc (ym2_ty t5) (fun a b hab => by rw [ym2_nc hab, ym5_nc hab])
  have v5 := ym5_v m (yfxm g p (i + 5 * n))
  have v2 := ym2_v (ym5 m (yfxm g p (i + 5 * n)))
  rw [v5.1, v5.2.1, v5.2.2.1, v5.2.2.2.1, v5.2.2.2.2] at v2
  generalize ym2 (ym5 m (yfxm g p (i + 5 * n))) = M at hz v2 ⊢
  obtain ⟨h1, h2, h3, h4⟩ := hz
  have a0 := yadd_v M
  have hv3 := hv.2.2.2.2.1
  refine ⟨yadd_ty h1 (by omega) (by rw [v2.2.2.2.1]; omega), by rw [yadd_22, h2]; omega, fun j hj => ?_, fun a b c1 c2 c3 => ?_⟩
  · by_cases e : j = n
    · subst e
      have ea : Int.toNat (g 90 22) + j = Int.toNat (M 90 22) := by omega
      rw [ea]
      obtain ⟨u0, u1, u2, u3, u4, u5, u6⟩ := v2
      obtain ⟨w0, w1, w2, w3, w4, w5, w6, w7, w8⟩ := a0
      exact ⟨hv, w0.trans u0, w1.trans u1, w2.trans u2, w3.trans u3, w4.trans u4, w5.trans u5, w6.trans u6, w7.trans (h4 90 10 (by decide) (by omega) (by omega)), w8⟩
    · have q := h3 j (by omega)
      have nc : ∀ a : Nat, yadd M a (Int.toNat (g 90 22) + j) = M a (Int.toNat (g 90 22) + j) ∨ a = 90 := fun a => by
        by_cases ha : a = 90
        · exact Or.inr ha
        · exact Or.inl (yadd_nc (by omega))
      have nd : ∀ a : Nat, a ≠ 90 → yadd M a (Int.toNat (g 90 22) + j) = M a (Int.toNat (g 90 22) + j) := fun a ha => (nc a).resolve_right ha
      rw [nd 91 (by decide), nd 102 (by decide), nd 103 (by decide), nd 104 (by decide), nd 105 (by decide), nd 106 (by decide), nd 107 (by decide), nd 101 (by decide), nd 108 (by decide)]
      exact q
  · rw [yadd_nc (by omega)]
    exact h4 a b c1 c2 c3
def yP_MCS : yPT := fun as g K => ∃ (p i n : Int), as = [(3, 90), (1, p), (1, i), (1, n)] ∧ (yTy zpZ g) ∧ (∀ (r : Int) (g' : yM), (¬ (0 ≤ p ∧ p < 6 ∧ 1 ≤ n ∧ n ≤ 12) → r = -1 ∧ g' = g) → ((0 ≤ p ∧ p < 6 ∧ 1 ≤ n ∧ n ≤ 12) → g 121 (Int.toNat p) < 0 → r = 0 ∧ g' = g) → ((0 ≤ p ∧ p < 6 ∧ 1 ≤ n ∧ n ≤ 12) → 0 ≤ g 121 (Int.toNat p) → g 121 (Int.toNat p) ≠ 21 → r = -12 ∧ g' = g) → ((0 ≤ p ∧ p < 6 ∧ 1 ≤ n ∧ n ≤ 12) → g 121 (Int.toNat p) = 21 → ∃ c : Nat, r = (c : Int) ∧ (c : Int) ≤ n ∧ g 90 22 + c ≤ 40 ∧ ((c : Int) = n ∨ g 90 22 + c = 40 ∨ ¬ yfVm g p (i + 5 * c)) ∧ yMr g p i c g') → K [(1, r)] g')
def yC_MCS : yC := (148, (3, 85), yP_MCS)
theorem yt_MCSx {K : List yV → yM → Prop} {Y : yNx} {m : yM} {p i n c : Int} {x : yV} (hY : yCl zpD148 (zpZ, zpRS, zpP12, zpMT, [yC_IS, yC_WM, yC_IMI, yC_IDO, yC_MAD], (3, 85), 1) K Y) (hK : K [(1, c)] m) : Y 69 [(3, 90), (1, p), (1, i), (1, n), (1, c), (1, 0), x] [] m := by
  refine yrun_ok (sp := fun pc => false) hY 4 69 _ [] _ ?_
  show (((0 : Int) = 0 → (K [(1, c)] m)) ∧ (¬ (0 : Int) = 0 → _))
  refine ⟨fun _ => ?_, fun h1 => absurd (by decide) h1⟩
  exact hK
theorem yt_MCSz {K : List yV → yM → Prop} {Y : yNx} {m : yM} {p i n c : Int} {x : yV} (hY : yCl zpD148 (zpZ, zpRS, zpP12, zpMT, [yC_IS, yC_WM, yC_IMI, yC_IDO, yC_MAD], (3, 85), 1) K Y) (hK : K [(1, c)] (ym2 m)) : Y 160 [(3, 90), (1, p), (1, i), (1, n), (1, c), (1, 0), x] [] m := by
  refine yrun_ok (sp := fun pc => Nat.beq pc 69) hY 20 160 _ [] _ ?_
  show (((0 : Int) ≤ 5 ∧ 5 < ((7 : Nat) : Int)) ∧ (((0 : Int) ≤ 2 ∧ 2 < ((7 : Nat) : Int)) ∧ (((0 : Int) ≤ 6 ∧ 6 < ((7 : Nat) : Int)) ∧ (((0 : Int) = 0 → (((0 : Int) = 0 → (Y 69 [(3, 90), (1, p), (1, i), (1, n), (1, c), (1, 0), x] [] (yset (yset m 109 5 (-1)) 109 6 (m 109 2)))) ∧ (¬ (0 : Int) = 0 → _))) ∧ (¬ (0 : Int) = 0 → _)))))
  refine ⟨(by omega), ?_⟩
  refine ⟨(by omega), ?_⟩
  refine ⟨(by omega), ?_⟩
  refine ⟨fun _ => ?_, fun h1 => absurd (by decide) h1⟩
  refine ⟨fun _ => ?_, fun h2 => absurd (by decide) h2⟩
  exact yt_MCSx hY hK
set_option maxRecDepth 8000 in
theorem yt_MCSb {K : List yV → yM → Prop} {Y : yNx} {m : yM} {p i n c : Int} {z : Nat → Int} (hY : yCl zpD148 (zpZ, zpRS, zpP12, zpMT, [yC_IS, yC_WM, yC_IMI, yC_IDO, yC_MAD], (3, 85), 1) K Y) (hc : 0 ≤ c ∧ c ≤ 12) (hs : 0 ≤ m 90 22 ∧ m 90 22 < 40) (h0 : m 109 0 = z 0) (h1 : m 109 1 = z 1) (h2 : m 109 2 = z 2) (h3 : m 109 3 = z 3) (h4 : m 109 4 = z 4) (hA : yfok z → Y 69 [(3, 90), (1, p), (1, i), (1, n), (1, c + 1), (1, 1), (1, 5)] [] (yadd (ym2 m))) (hB : ¬ yfok z → K [(1, c)] (ym2 m)) : Y 160 [(3, 90), (1, p), (1, i), (1, n), (1, c), (1, 1), (1, 5)] [] m := by
  refine yrun_ok (sp := fun pc => Nat.beq pc 69) hY 70 160 _ [] _ ?_
  show (((0 : Int) ≤ 5 ∧ 5 < ((7 : Nat) : Int)) ∧ (((0 : Int) ≤ 2 ∧ 2 < ((7 : Nat) : Int)) ∧ (((0 : Int) ≤ 6 ∧ 6 < ((7 : Nat) : Int)) ∧ (((1 : Int) = 0 → _) ∧ (¬ (1 : Int) = 0 → (((0 : Int) ≤ 0 ∧ 0 < ((7 : Nat) : Int)) ∧ (∃ (d2 : Int), [(1, (m 109 0))] = [(1, d2)] ∧ (∀ (r3 : Int), ((r3 = 1 ∧ 0 ≤ d2 ∧ d2 < 720) ∨ (r3 = 0 ∧ (d2 < 0 ∨ 720 ≤ d2))) → ((r3 = 0 → (((0 : Int) = 0 → (Y 69 [(3, 90), (1, p), (1, i), (1, n), (1, c), (1, 0), (1, 5)] [] (yset (yset m 109 5 (-1)) 109 6 (m 109 2)))) ∧ (¬ (0 : Int) = 0 → _))) ∧ (¬ (r3 = 0) → (((0 : Int) ≤ 1 ∧ 1 < ((7 : Nat) : Int)) ∧ (∃ (d7 : Int), [(1, (m 109 1))] = [(1, d7)] ∧ (∀ (r8 : Int), ((r8 = 1 ∧ 0 ≤ d7 ∧ d7 < 720) ∨ (r8 = 0 ∧ (d7 < 0 ∨ 720 ≤ d7))) → ((r8 = 0 → (((0 : Int) = 0 → (Y 69 [(3, 90), (1, p), (1, i), (1, n), (1, c), (1, 0), (1, 5)] [] (yset (yset m 109 5 (-1)) 109 6 (m 109 2)))) ∧ (¬ (0 : Int) = 0 → _))) ∧ (¬ (r8 = 0) → (((0 : Int) ≤ 0 ∧ 0 < ((7 : Nat) : Int)) ∧ (((0 : Int) ≤ 1 ∧ 1 < ((7 : Nat) : Int)) ∧ (((m 109 1) ≤ (m 109 0) → (((0 : Int) = 0 → (Y 69 [(3, 90), (1, p), (1, i), (1, n), (1, c), (1, 0), (1, 5)] [] (yset (yset m 109 5 (-1)) 109 6 (m 109 2)))) ∧ (¬ (0 : Int) = 0 → _))) ∧ (¬ ((m 109 1) ≤ (m 109 0)) → (((0 : Int) ≤ 2 ∧ 2 < ((7 : Nat) : Int)) ∧ (∃ (d14 : Int), [(1, (m 109 2))] = [(1, d14)] ∧ (∀ (r15 : Int), ((r15 = 1 ∧ 0 ≤ d14 ∧ d14 < 4) ∨ (r15 = 0 ∧ (d14 < 0 ∨ 4 ≤ d14))) → ((r15 = 0 → (((0 : Int) = 0 → (Y 69 [(3, 90), (1, p), (1, i), (1, n), (1, c), (1, 0), (1, 5)] [] (yset (yset m 109 5 (-1)) 109 6 (m 109 2)))) ∧ (¬ (0 : Int) = 0 → _))) ∧ (¬ (r15 = 0) → (((0 : Int) ≤ 3 ∧ 3 < ((7 : Nat) : Int)) ∧ (∃ (v19 a20 b21 : Int), [(2, (m 109 3)), (2, 0), (2, 5)] = [(2, v19), (2, a20), (2, b21)] ∧ (∀ (r22 : Int), ((r22 = 1 ∧ a20 ≤ v19 ∧ v19 ≤ b21) ∨ (r22 = 0 ∧ (v19 < a20 ∨ b21 < v19))) → ((r22 = 0 → (((0 : Int) = 0 → (Y 69 [(3, 90), (1, p), (1, i), (1, n), (1, c), (1, 0), (1, 5)] [] (yset (yset m 109 5 (-1)) 109 6 (m 109 2)))) ∧ (¬ (0 : Int) = 0 → _))) ∧ (¬ (r22 = 0) → (((0 : Int) ≤ 4 ∧ 4 < ((7 : Nat) : Int)) ∧ (∃ (v26 a27 b28 : Int), [(2, (m 109 4)), (2, 0), (2, 7)] = [(2, v26), (2, a27), (2, b28)] ∧ (∀ (r29 : Int), ((r29 = 1 ∧ a27 ≤ v26 ∧ v26 ≤ b28) ∨ (r29 = 0 ∧ (v26 < a27 ∨ b28 < v26))) → ((r29 = 0 → (((0 : Int) = 0 → (Y 69 [(3, 90), (1, p), (1, i), (1, n), (1, c), (1, 0), (1, 5)] [] (yset (yset m 109 5 (-1)) 109 6 (m 109 2)))) ∧ (¬ (0 : Int) = 0 → _))) ∧ (¬ (r29 = 0) → (((1 : Int) = 0 → _) ∧ (¬ (1 : Int) = 0 → ([(3, 90)] = [(3, 90)] ∧ (0 ≤ (yset (yset m 109 5 (-1)) 109 6 (m 109 2)) 90 22 ∧ (yset (yset m 109 5 (-1)) 109 6 (m 109 2)) 90 22 < 40) ∧ (∀ (g34 : yM), (g34 = yadd (yset (yset m 109 5 (-1)) 109 6 (m 109 2))) → (Y 69 [(3, 90), (1, p), (1, i), (1, n), (1, (yw (c + 1))), (1, 1), (1, 5)] [] g34)))))))))))))))))))))))))))))))))))))))
  refine ⟨(by omega), ?_⟩
  refine ⟨(by omega), ?_⟩
  refine ⟨(by omega), ?_⟩
  refine ⟨fun h1 => absurd h1 (by decide), fun _ => ?_⟩
  refine ⟨(by omega), ?_⟩
  refine ⟨_, rfl, ?_⟩
  intro r3 p40
  refine ⟨fun h5 => ?_, fun h5 => ?_⟩
  · refine ⟨fun _ => ?_, fun h6 => absurd (by decide) h6⟩
    first | exact yt_MCSx hY (hB (by unfold yfok; omega)) | omega
  · refine ⟨(by omega), ?_⟩
    refine ⟨_, rfl, ?_⟩
    intro r8 p90
    refine ⟨fun h10 => ?_, fun h10 => ?_⟩
    · refine ⟨fun _ => ?_, fun h11 => absurd (by decide) h11⟩
      first | exact yt_MCSx hY (hB (by unfold yfok; omega)) | omega
    · refine ⟨(by omega), ?_⟩
      refine ⟨(by omega), ?_⟩
      refine ⟨fun h12 => ?_, fun h12 => ?_⟩
      · refine ⟨fun _ => ?_, fun h13 => absurd (by decide) h13⟩
        first | exact yt_MCSx hY (hB (by unfold yfok; omega)) | omega
      · refine ⟨(by omega), ?_⟩
        refine ⟨_, rfl, ?_⟩
        intro r15 p160
        refine ⟨fun h17 => ?_, fun h17 => ?_⟩
        · refine ⟨fun _ => ?_, fun h18 => absurd (by decide) h18⟩
          first | exact yt_MCSx hY (hB (by unfold yfok; omega)) | omega
        · refine ⟨(by omega), ?_⟩
          refine ⟨_, _, _, rfl, ?_⟩
          intro r22 p230
          refine ⟨fun h24 => ?_, fun h24 => ?_⟩
          · refine ⟨fun _ => ?_, fun h25 => absurd (by decide) h25⟩
            first | exact yt_MCSx hY (hB (by unfold yfok; omega)) | omega
          · refine ⟨(by omega), ?_⟩
            refine ⟨_, _, _, rfl, ?_⟩
            intro r29 p300
            refine ⟨fun h31 => ?_, fun h31 => ?_⟩
            · refine ⟨fun _ => ?_, fun h32 => absurd (by decide) h32⟩
              first | exact yt_MCSx hY (hB (by unfold yfok; omega)) | omega
            · refine ⟨fun h33 => absurd h33 (by decide), fun _ => ?_⟩
              refine ⟨rfl, (by have e : (yset (yset m 109 5 (-1)) 109 6 (m 109 2)) 90 22 = m 90 22 := (by rw [yset_nc (by decide), yset_nc (by decide)]); omega), ?_⟩
              intro g34 p350
              subst p350
              have y1 : yw (c + 1) = c + 1 := by have := yw_s (c + 1); omega
              rw [y1]
              exact hA (by unfold yfok; omega)
set_option maxRecDepth 8000 in
theorem yl_MCS {K : List yV → yM → Prop} {Y : yNx} {g : yM} {p i n : Int} (hY : yCl zpD148 (zpZ, zpRS, zpP12, zpMT, [yC_IS, yC_WM, yC_IMI, yC_IDO, yC_MAD], (3, 85), 1) K Y) (hT : yTy zpZ g) (hi : 0 ≤ i ∧ i ≤ 2147483647) (ho : (0 ≤ p ∧ p < 6 ∧ 1 ≤ n ∧ n ≤ 12)) (hK : ∀ (r : Int) (g' : yM), (∃ c : Nat, r = (c : Int) ∧ (c : Int) ≤ n ∧ g 90 22 + c ≤ 40 ∧ ((c : Int) = n ∨ g 90 22 + c = 40 ∨ ¬ yfVm g p (i + 5 * c)) ∧ yMr g p i c g') → K [(1, r)] g') : ∀ (d c : Nat), (c : Int) + d = n → ∀ (m : yM) (x : yV), yMr g p i c m → g 90 22 + c ≤ 40 → Y 69 [(3, 90), (1, p), (1, i), (1, n), (1, (c : Int)), (1, 1), x] [] m := by
  intro d
  induction d with
  | zero =>
    intro c hd m x hm h40
    refine yrun_ok (sp := fun pc => Nat.beq pc 69 || Nat.beq pc 160) hY 160 69 _ [] m ?_
    show (((1 : Int) = 0 → _) ∧ (¬ (1 : Int) = 0 → ((n ≤ (c : Int) → (K [(1, (c : Int))] m)) ∧ (¬ (n ≤ (c : Int)) → (((0 : Int) ≤ p ∧ p < ((6 : Nat) : Int)) ∧ (((yw ((yw ((m 122 (Int.toNat p)) - 5)) - (yw (5 * (c : Int))))) < i → ((5 ≤ (0 : Int) → _) ∧ (¬ 5 ≤ (0 : Int) → (((0 : Int) = 0 → (Y 160 [(3, 90), (1, p), (1, i), (1, n), (1, (c : Int)), (1, 0), (1, 0)] [] m)) ∧ (¬ (0 : Int) = 0 → _))))) ∧ (¬ ((yw ((yw ((m 122 (Int.toNat p)) - 5)) - (yw (5 * (c : Int))))) < i) → ((40 ≤ (m 90 22) → ((5 ≤ (0 : Int) → _) ∧ (¬ 5 ≤ (0 : Int) → (((0 : Int) = 0 → (Y 160 [(3, 90), (1, p), (1, i), (1, n), (1, (c : Int)), (1, 0), (1, 0)] [] m)) ∧ (¬ (0 : Int) = 0 → _))))) ∧ (¬ (40 ≤ (m 90 22)) → ((5 ≤ (0 : Int) → _) ∧ (¬ 5 ≤ (0 : Int) → (((1 : Int) = 0 → _) ∧ (¬ (1 : Int) = 0 → (((0 : Int) ≤ (yw ((yw ((yw ((yw (60 * p)) + i)) + (yw (5 * (c : Int))))) + 0)) ∧ (yw ((yw ((yw ((yw (60 * p)) + i)) + (yw (5 * (c : Int))))) + 0)) < ((360 : Nat) : Int)) ∧ (((0 : Int) ≤ 0 ∧ 0 < ((7 : Nat) : Int)) ∧ ((5 ≤ (1 : Int) → _) ∧ (¬ 5 ≤ (1 : Int) → (((1 : Int) = 0 → _) ∧ (¬ (1 : Int) = 0 → (((0 : Int) ≤ (yw ((yw ((yw ((yw (60 * p)) + i)) + (yw (5 * (c : Int))))) + 1)) ∧ (yw ((yw ((yw ((yw (60 * p)) + i)) + (yw (5 * (c : Int))))) + 1)) < ((360 : Nat) : Int)) ∧ (((0 : Int) ≤ 1 ∧ 1 < ((7 : Nat) : Int)) ∧ ((5 ≤ (2 : Int) → _) ∧ (¬ 5 ≤ (2 : Int) → (((1 : Int) = 0 → _) ∧ (¬ (1 : Int) = 0 → (((0 : Int) ≤ (yw ((yw ((yw ((yw (60 * p)) + i)) + (yw (5 * (c : Int))))) + 2)) ∧ (yw ((yw ((yw ((yw (60 * p)) + i)) + (yw (5 * (c : Int))))) + 2)) < ((360 : Nat) : Int)) ∧ (((0 : Int) ≤ 2 ∧ 2 < ((7 : Nat) : Int)) ∧ ((5 ≤ (3 : Int) → _) ∧ (¬ 5 ≤ (3 : Int) → (((1 : Int) = 0 → _) ∧ (¬ (1 : Int) = 0 → (((0 : Int) ≤ (yw ((yw ((yw ((yw (60 * p)) + i)) + (yw (5 * (c : Int))))) + 3)) ∧ (yw ((yw ((yw ((yw (60 * p)) + i)) + (yw (5 * (c : Int))))) + 3)) < ((360 : Nat) : Int)) ∧ (((0 : Int) ≤ 3 ∧ 3 < ((7 : Nat) : Int)) ∧ ((5 ≤ (4 : Int) → _) ∧ (¬ 5 ≤ (4 : Int) → (((1 : Int) = 0 → _) ∧ (¬ (1 : Int) = 0 → (((0 : Int) ≤ (yw ((yw ((yw ((yw (60 * p)) + i)) + (yw (5 * (c : Int))))) + 4)) ∧ (yw ((yw ((yw ((yw (60 * p)) + i)) + (yw (5 * (c : Int))))) + 4)) < ((360 : Nat) : Int)) ∧ (((0 : Int) ≤ 4 ∧ 4 < ((7 : Nat) : Int)) ∧ ((5 ≤ (5 : Int) → (Y 160 [(3, 90), (1, p), (1, i), (1, n), (1, (c : Int)), (1, 1), (1, 5)] [] (yset (yset (yset (yset (yset m 109 0 (yw (m 123 (Int.toNat (yw ((yw ((yw ((yw (60 * p)) + i)) + (yw (5 * (c : Int))))) + 0)))))) 109 1 (yw (m 123 (Int.toNat (yw ((yw ((yw ((yw (60 * p)) + i)) + (yw (5 * (c : Int))))) + 1)))))) 109 2 (yw (m 123 (Int.toNat (yw ((yw ((yw ((yw (60 * p)) + i)) + (yw (5 * (c : Int))))) + 2)))))) 109 3 (yw (m 123 (Int.toNat (yw ((yw ((yw ((yw (60 * p)) + i)) + (yw (5 * (c : Int))))) + 3)))))) 109 4 (yw (m 123 (Int.toNat (yw ((yw ((yw ((yw (60 * p)) + i)) + (yw (5 * (c : Int))))) + 4)))))))) ∧ (¬ 5 ≤ (5 : Int) → _)))))))))))))))))))))))))))))))))))))))))
    refine ⟨fun h1 => absurd h1 (by decide), fun _ => ?_⟩
    refine ⟨fun h2 => ?_, fun h2 => ?_⟩
    · exact hK _ _ ⟨c, rfl, by omega, h40, Or.inl (by omega), hm⟩
    · refine ⟨(by omega), ?_⟩
      refine ⟨fun h3 => ?_, fun h3 => ?_⟩
      · refine ⟨fun h4 => absurd h4 (by decide), fun _ => ?_⟩
        refine ⟨fun _ => ?_, fun h5 => absurd (by decide) h5⟩
        omega
      · refine ⟨fun h6 => ?_, fun h6 => ?_⟩
        · refine ⟨fun h7 => absurd h7 (by decide), fun _ => ?_⟩
          refine ⟨fun _ => ?_, fun h8 => absurd (by decide) h8⟩
          omega
        · refine ⟨fun h9 => absurd h9 (by decide), fun _ => ?_⟩
          refine ⟨fun h10 => absurd h10 (by decide), fun _ => ?_⟩
          refine ⟨(by omega), ?_⟩
          refine ⟨(by omega), ?_⟩
          refine ⟨fun h11 => absurd h11 (by decide), fun _ => ?_⟩
          refine ⟨fun h12 => absurd h12 (by decide), fun _ => ?_⟩
          refine ⟨(by omega), ?_⟩
          refine ⟨(by omega), ?_⟩
          refine ⟨fun h13 => absurd h13 (by decide), fun _ => ?_⟩
          refine ⟨fun h14 => absurd h14 (by decide), fun _ => ?_⟩
          refine ⟨(by omega), ?_⟩
          refine ⟨(by omega), ?_⟩
          refine ⟨fun h15 => absurd h15 (by decide), fun _ => ?_⟩
          refine ⟨fun h16 => absurd h16 (by decide), fun _ => ?_⟩
          refine ⟨(by omega), ?_⟩
          refine ⟨(by omega), ?_⟩
          refine ⟨fun h17 => absurd h17 (by decide), fun _ => ?_⟩
          refine ⟨fun h18 => absurd h18 (by decide), fun _ => ?_⟩
          refine ⟨(by omega), ?_⟩
          refine ⟨(by omega), ?_⟩
          refine ⟨fun _ => ?_, fun h19 => absurd (by decide) h19⟩
          omega
  | succ d ih =>
    intro c hd m x hm h40
    refine yrun_ok (sp := fun pc => Nat.beq pc 69 || Nat.beq pc 160) hY 160 69 _ [] m ?_
    show (((1 : Int) = 0 → _) ∧ (¬ (1 : Int) = 0 → ((n ≤ (c : Int) → (K [(1, (c : Int))] m)) ∧ (¬ (n ≤ (c : Int)) → (((0 : Int) ≤ p ∧ p < ((6 : Nat) : Int)) ∧ (((yw ((yw ((m 122 (Int.toNat p)) - 5)) - (yw (5 * (c : Int))))) < i → ((5 ≤ (0 : Int) → _) ∧ (¬ 5 ≤ (0 : Int) → (((0 : Int) = 0 → (Y 160 [(3, 90), (1, p), (1, i), (1, n), (1, (c : Int)), (1, 0), (1, 0)] [] m)) ∧ (¬ (0 : Int) = 0 → _))))) ∧ (¬ ((yw ((yw ((m 122 (Int.toNat p)) - 5)) - (yw (5 * (c : Int))))) < i) → ((40 ≤ (m 90 22) → ((5 ≤ (0 : Int) → _) ∧ (¬ 5 ≤ (0 : Int) → (((0 : Int) = 0 → (Y 160 [(3, 90), (1, p), (1, i), (1, n), (1, (c : Int)), (1, 0), (1, 0)] [] m)) ∧ (¬ (0 : Int) = 0 → _))))) ∧ (¬ (40 ≤ (m 90 22)) → ((5 ≤ (0 : Int) → _) ∧ (¬ 5 ≤ (0 : Int) → (((1 : Int) = 0 → _) ∧ (¬ (1 : Int) = 0 → (((0 : Int) ≤ (yw ((yw ((yw ((yw (60 * p)) + i)) + (yw (5 * (c : Int))))) + 0)) ∧ (yw ((yw ((yw ((yw (60 * p)) + i)) + (yw (5 * (c : Int))))) + 0)) < ((360 : Nat) : Int)) ∧ (((0 : Int) ≤ 0 ∧ 0 < ((7 : Nat) : Int)) ∧ ((5 ≤ (1 : Int) → _) ∧ (¬ 5 ≤ (1 : Int) → (((1 : Int) = 0 → _) ∧ (¬ (1 : Int) = 0 → (((0 : Int) ≤ (yw ((yw ((yw ((yw (60 * p)) + i)) + (yw (5 * (c : Int))))) + 1)) ∧ (yw ((yw ((yw ((yw (60 * p)) + i)) + (yw (5 * (c : Int))))) + 1)) < ((360 : Nat) : Int)) ∧ (((0 : Int) ≤ 1 ∧ 1 < ((7 : Nat) : Int)) ∧ ((5 ≤ (2 : Int) → _) ∧ (¬ 5 ≤ (2 : Int) → (((1 : Int) = 0 → _) ∧ (¬ (1 : Int) = 0 → (((0 : Int) ≤ (yw ((yw ((yw ((yw (60 * p)) + i)) + (yw (5 * (c : Int))))) + 2)) ∧ (yw ((yw ((yw ((yw (60 * p)) + i)) + (yw (5 * (c : Int))))) + 2)) < ((360 : Nat) : Int)) ∧ (((0 : Int) ≤ 2 ∧ 2 < ((7 : Nat) : Int)) ∧ ((5 ≤ (3 : Int) → _) ∧ (¬ 5 ≤ (3 : Int) → (((1 : Int) = 0 → _) ∧ (¬ (1 : Int) = 0 → (((0 : Int) ≤ (yw ((yw ((yw ((yw (60 * p)) + i)) + (yw (5 * (c : Int))))) + 3)) ∧ (yw ((yw ((yw ((yw (60 * p)) + i)) + (yw (5 * (c : Int))))) + 3)) < ((360 : Nat) : Int)) ∧ (((0 : Int) ≤ 3 ∧ 3 < ((7 : Nat) : Int)) ∧ ((5 ≤ (4 : Int) → _) ∧ (¬ 5 ≤ (4 : Int) → (((1 : Int) = 0 → _) ∧ (¬ (1 : Int) = 0 → (((0 : Int) ≤ (yw ((yw ((yw ((yw (60 * p)) + i)) + (yw (5 * (c : Int))))) + 4)) ∧ (yw ((yw ((yw ((yw (60 * p)) + i)) + (yw (5 * (c : Int))))) + 4)) < ((360 : Nat) : Int)) ∧ (((0 : Int) ≤ 4 ∧ 4 < ((7 : Nat) : Int)) ∧ ((5 ≤ (5 : Int) → (Y 160 [(3, 90), (1, p), (1, i), (1, n), (1, (c : Int)), (1, 1), (1, 5)] [] (yset (yset (yset (yset (yset m 109 0 (yw (m 123 (Int.toNat (yw ((yw ((yw ((yw (60 * p)) + i)) + (yw (5 * (c : Int))))) + 0)))))) 109 1 (yw (m 123 (Int.toNat (yw ((yw ((yw ((yw (60 * p)) + i)) + (yw (5 * (c : Int))))) + 1)))))) 109 2 (yw (m 123 (Int.toNat (yw ((yw ((yw ((yw (60 * p)) + i)) + (yw (5 * (c : Int))))) + 2)))))) 109 3 (yw (m 123 (Int.toNat (yw ((yw ((yw ((yw (60 * p)) + i)) + (yw (5 * (c : Int))))) + 3)))))) 109 4 (yw (m 123 (Int.toNat (yw ((yw ((yw ((yw (60 * p)) + i)) + (yw (5 * (c : Int))))) + 4)))))))) ∧ (¬ 5 ≤ (5 : Int) → _)))))))))))))))))))))))))))))))))))))))))
    refine ⟨fun h1 => absurd h1 (by decide), fun _ => ?_⟩
    refine ⟨fun h2 => ?_, fun h2 => ?_⟩
    · omega
    · refine ⟨(by
      have hz := hT.fO (j := 22) (List.mem_of_getElem? (i := 42) rfl) rfl
      have hmn := hm.1.fA (j := Int.toNat p) (List.mem_of_getElem? (i := 74) rfl) (by omega)
      have hmo : m 122 (Int.toNat p) = g 122 (Int.toNat p) := hm.2.2.2 122 _ (by omega) (by omega) (by omega)
      have h22 := hm.2.1
      have hx := hm.x (i + 5 * (c : Int))
      have y5 : yw (5 * (c : Int)) = 5 * (c : Int) := yw_s (5 * (c : Int)) (by omega) (by omega)
      have yq : yw (m 122 (Int.toNat p) - 5) = m 122 (Int.toNat p) - 5 := yw_s (m 122 (Int.toNat p) - 5) (by omega) (by omega)
      have yr : yw (m 122 (Int.toNat p) - 5 - 5 * (c : Int)) = m 122 (Int.toNat p) - 5 - 5 * (c : Int) := yw_s (m 122 (Int.toNat p) - 5 - 5 * (c : Int)) (by omega) (by omega)
      try simp only [y5, yq, yr]
      omega), ?_⟩
      refine ⟨fun h3 => ?_, fun h3 => ?_⟩
      · refine ⟨fun h4 => absurd h4 (by decide), fun _ => ?_⟩
        refine ⟨fun _ => ?_, fun h5 => absurd (by decide) h5⟩
        have hz := hT.fO (j := 22) (List.mem_of_getElem? (i := 42) rfl) rfl
        have hmn := hm.1.fA (j := Int.toNat p) (List.mem_of_getElem? (i := 74) rfl) (by omega)
        have hmo : m 122 (Int.toNat p) = g 122 (Int.toNat p) := hm.2.2.2 122 _ (by omega) (by omega) (by omega)
        have h22 := hm.2.1
        have hx := hm.x (i + 5 * (c : Int))
        have y5 : yw (5 * (c : Int)) = 5 * (c : Int) := yw_s (5 * (c : Int)) (by omega) (by omega)
        have yq : yw (m 122 (Int.toNat p) - 5) = m 122 (Int.toNat p) - 5 := yw_s (m 122 (Int.toNat p) - 5) (by omega) (by omega)
        have yr : yw (m 122 (Int.toNat p) - 5 - 5 * (c : Int)) = m 122 (Int.toNat p) - 5 - 5 * (c : Int) := yw_s (m 122 (Int.toNat p) - 5 - 5 * (c : Int)) (by omega) (by omega)
        try simp only [y5, yq, yr] at h3
        have hn : (g 90 22 + c = 40 ∨ ¬ yfVm g p (i + 5 * (c : Int))) := by
          by_cases e : g 90 22 + c = 40
          · exact Or.inl e
          · refine Or.inr (fun z => ?_)
            have z2 := z.2.1
            omega
        exact yt_MCSz hY (hK _ _ ⟨c, rfl, by omega, h40, Or.inr hn, hm.sc (ym2_ty hm.1) (fun a b hab => ym2_nc hab)⟩)
      · refine ⟨fun h6 => ?_, fun h6 => ?_⟩
        · refine ⟨fun h7 => absurd h7 (by decide), fun _ => ?_⟩
          refine ⟨fun _ => ?_, fun h8 => absurd (by decide) h8⟩
          have hz := hT.fO (j := 22) (List.mem_of_getElem? (i := 42) rfl) rfl
          have hmn := hm.1.fA (j := Int.toNat p) (List.mem_of_getElem? (i := 74) rfl) (by omega)
          have hmo : m 122 (Int.toNat p) = g 122 (Int.toNat p) := hm.2.2.2 122 _ (by omega) (by omega) (by omega)
          have h22 := hm.2.1
          have hx := hm.x (i + 5 * (c : Int))
          have y5 : yw (5 * (c : Int)) = 5 * (c : Int) := yw_s (5 * (c : Int)) (by omega) (by omega)
          have yq : yw (m 122 (Int.toNat p) - 5) = m 122 (Int.toNat p) - 5 := yw_s (m 122 (Int.toNat p) - 5) (by omega) (by omega)
          have yr : yw (m 122 (Int.toNat p) - 5 - 5 * (c : Int)) = m 122 (Int.toNat p) - 5 - 5 * (c : Int) := yw_s (m 122 (Int.toNat p) - 5 - 5 * (c : Int)) (by omega) (by omega)
          try simp only [y5, yq, yr] at h3
          have hn : (g 90 22 + c = 40 ∨ ¬ yfVm g p (i + 5 * (c : Int))) := by
            by_cases e : g 90 22 + c = 40
            · exact Or.inl e
            · refine Or.inr (fun z => ?_)
              have z2 := z.2.1
              omega
          exact yt_MCSz hY (hK _ _ ⟨c, rfl, by omega, h40, Or.inr hn, hm.sc (ym2_ty hm.1) (fun a b hab => ym2_nc hab)⟩)
        · refine ⟨fun h9 => absurd h9 (by decide), fun _ => ?_⟩
          refine ⟨fun h10 => absurd h10 (by decide), fun _ => ?_⟩
          refine ⟨(by
      have hz := hT.fO (j := 22) (List.mem_of_getElem? (i := 42) rfl) rfl
      have hmn := hm.1.fA (j := Int.toNat p) (List.mem_of_getElem? (i := 74) rfl) (by omega)
      have hmo : m 122 (Int.toNat p) = g 122 (Int.toNat p) := hm.2.2.2 122 _ (by omega) (by omega) (by omega)
      have h22 := hm.2.1
      have hx := hm.x (i + 5 * (c : Int))
      have y5 : yw (5 * (c : Int)) = 5 * (c : Int) := yw_s (5 * (c : Int)) (by omega) (by omega)
      have yq : yw (m 122 (Int.toNat p) - 5) = m 122 (Int.toNat p) - 5 := yw_s (m 122 (Int.toNat p) - 5) (by omega) (by omega)
      have yr : yw (m 122 (Int.toNat p) - 5 - 5 * (c : Int)) = m 122 (Int.toNat p) - 5 - 5 * (c : Int) := yw_s (m 122 (Int.toNat p) - 5 - 5 * (c : Int)) (by omega) (by omega)
      try simp only [y5, yq, yr] at h3 ⊢
      have z6 : yw (60 * p) = 60 * p := yw_s (60 * p) (by omega) (by omega)
      have z7 : yw (60 * p + i) = 60 * p + i := yw_s (60 * p + i) (by omega) (by omega)
      have z8 : yw (60 * p + i + 5 * (c : Int)) = 60 * p + i + 5 * (c : Int) := yw_s (60 * p + i + 5 * (c : Int)) (by omega) (by omega)
      have z90 : yw (60 * p + i + 5 * (c : Int) + 0) = 60 * p + i + 5 * (c : Int) + 0 := yw_s (60 * p + i + 5 * (c : Int) + 0) (by omega) (by omega)
      have z91 : yw (60 * p + i + 5 * (c : Int) + 1) = 60 * p + i + 5 * (c : Int) + 1 := yw_s (60 * p + i + 5 * (c : Int) + 1) (by omega) (by omega)
      have z92 : yw (60 * p + i + 5 * (c : Int) + 2) = 60 * p + i + 5 * (c : Int) + 2 := yw_s (60 * p + i + 5 * (c : Int) + 2) (by omega) (by omega)
      have z93 : yw (60 * p + i + 5 * (c : Int) + 3) = 60 * p + i + 5 * (c : Int) + 3 := yw_s (60 * p + i + 5 * (c : Int) + 3) (by omega) (by omega)
      have z94 : yw (60 * p + i + 5 * (c : Int) + 4) = 60 * p + i + 5 * (c : Int) + 4 := yw_s (60 * p + i + 5 * (c : Int) + 4) (by omega) (by omega)
      try simp only [y5, z6, z7, z8, z90, z91, z92, z93, z94]
      omega), ?_⟩
          refine ⟨(by
      have hz := hT.fO (j := 22) (List.mem_of_getElem? (i := 42) rfl) rfl
      have hmn := hm.1.fA (j := Int.toNat p) (List.mem_of_getElem? (i := 74) rfl) (by omega)
      have hmo : m 122 (Int.toNat p) = g 122 (Int.toNat p) := hm.2.2.2 122 _ (by omega) (by omega) (by omega)
      have h22 := hm.2.1
      have hx := hm.x (i + 5 * (c : Int))
      have y5 : yw (5 * (c : Int)) = 5 * (c : Int) := yw_s (5 * (c : Int)) (by omega) (by omega)
      have yq : yw (m 122 (Int.toNat p) - 5) = m 122 (Int.toNat p) - 5 := yw_s (m 122 (Int.toNat p) - 5) (by omega) (by omega)
      have yr : yw (m 122 (Int.toNat p) - 5 - 5 * (c : Int)) = m 122 (Int.toNat p) - 5 - 5 * (c : Int) := yw_s (m 122 (Int.toNat p) - 5 - 5 * (c : Int)) (by omega) (by omega)
      try simp only [y5, yq, yr] at h3 ⊢
      omega), ?_⟩
          refine ⟨fun h11 => absurd h11 (by decide), fun _ => ?_⟩
          refine ⟨fun h12 => absurd h12 (by decide), fun _ => ?_⟩
          refine ⟨(by
      have hz := hT.fO (j := 22) (List.mem_of_getElem? (i := 42) rfl) rfl
      have hmn := hm.1.fA (j := Int.toNat p) (List.mem_of_getElem? (i := 74) rfl) (by omega)
      have hmo : m 122 (Int.toNat p) = g 122 (Int.toNat p) := hm.2.2.2 122 _ (by omega) (by omega) (by omega)
      have h22 := hm.2.1
      have hx := hm.x (i + 5 * (c : Int))
      have y5 : yw (5 * (c : Int)) = 5 * (c : Int) := yw_s (5 * (c : Int)) (by omega) (by omega)
      have yq : yw (m 122 (Int.toNat p) - 5) = m 122 (Int.toNat p) - 5 := yw_s (m 122 (Int.toNat p) - 5) (by omega) (by omega)
      have yr : yw (m 122 (Int.toNat p) - 5 - 5 * (c : Int)) = m 122 (Int.toNat p) - 5 - 5 * (c : Int) := yw_s (m 122 (Int.toNat p) - 5 - 5 * (c : Int)) (by omega) (by omega)
      try simp only [y5, yq, yr] at h3 ⊢
      have z6 : yw (60 * p) = 60 * p := yw_s (60 * p) (by omega) (by omega)
      have z7 : yw (60 * p + i) = 60 * p + i := yw_s (60 * p + i) (by omega) (by omega)
      have z8 : yw (60 * p + i + 5 * (c : Int)) = 60 * p + i + 5 * (c : Int) := yw_s (60 * p + i + 5 * (c : Int)) (by omega) (by omega)
      have z90 : yw (60 * p + i + 5 * (c : Int) + 0) = 60 * p + i + 5 * (c : Int) + 0 := yw_s (60 * p + i + 5 * (c : Int) + 0) (by omega) (by omega)
      have z91 : yw (60 * p + i + 5 * (c : Int) + 1) = 60 * p + i + 5 * (c : Int) + 1 := yw_s (60 * p + i + 5 * (c : Int) + 1) (by omega) (by omega)
      have z92 : yw (60 * p + i + 5 * (c : Int) + 2) = 60 * p + i + 5 * (c : Int) + 2 := yw_s (60 * p + i + 5 * (c : Int) + 2) (by omega) (by omega)
      have z93 : yw (60 * p + i + 5 * (c : Int) + 3) = 60 * p + i + 5 * (c : Int) + 3 := yw_s (60 * p + i + 5 * (c : Int) + 3) (by omega) (by omega)
      have z94 : yw (60 * p + i + 5 * (c : Int) + 4) = 60 * p + i + 5 * (c : Int) + 4 := yw_s (60 * p + i + 5 * (c : Int) + 4) (by omega) (by omega)
      try simp only [y5, z6, z7, z8, z90, z91, z92, z93, z94]
      omega), ?_⟩
          refine ⟨(by
      have hz := hT.fO (j := 22) (List.mem_of_getElem? (i := 42) rfl) rfl
      have hmn := hm.1.fA (j := Int.toNat p) (List.mem_of_getElem? (i := 74) rfl) (by omega)
      have hmo : m 122 (Int.toNat p) = g 122 (Int.toNat p) := hm.2.2.2 122 _ (by omega) (by omega) (by omega)
      have h22 := hm.2.1
      have hx := hm.x (i + 5 * (c : Int))
      have y5 : yw (5 * (c : Int)) = 5 * (c : Int) := yw_s (5 * (c : Int)) (by omega) (by omega)
      have yq : yw (m 122 (Int.toNat p) - 5) = m 122 (Int.toNat p) - 5 := yw_s (m 122 (Int.toNat p) - 5) (by omega) (by omega)
      have yr : yw (m 122 (Int.toNat p) - 5 - 5 * (c : Int)) = m 122 (Int.toNat p) - 5 - 5 * (c : Int) := yw_s (m 122 (Int.toNat p) - 5 - 5 * (c : Int)) (by omega) (by omega)
      try simp only [y5, yq, yr] at h3 ⊢
      omega), ?_⟩
          refine ⟨fun h13 => absurd h13 (by decide), fun _ => ?_⟩
          refine ⟨fun h14 => absurd h14 (by decide), fun _ => ?_⟩
          refine ⟨(by
      have hz := hT.fO (j := 22) (List.mem_of_getElem? (i := 42) rfl) rfl
      have hmn := hm.1.fA (j := Int.toNat p) (List.mem_of_getElem? (i := 74) rfl) (by omega)
      have hmo : m 122 (Int.toNat p) = g 122 (Int.toNat p) := hm.2.2.2 122 _ (by omega) (by omega) (by omega)
      have h22 := hm.2.1
      have hx := hm.x (i + 5 * (c : Int))
      have y5 : yw (5 * (c : Int)) = 5 * (c : Int) := yw_s (5 * (c : Int)) (by omega) (by omega)
      have yq : yw (m 122 (Int.toNat p) - 5) = m 122 (Int.toNat p) - 5 := yw_s (m 122 (Int.toNat p) - 5) (by omega) (by omega)
      have yr : yw (m 122 (Int.toNat p) - 5 - 5 * (c : Int)) = m 122 (Int.toNat p) - 5 - 5 * (c : Int) := yw_s (m 122 (Int.toNat p) - 5 - 5 * (c : Int)) (by omega) (by omega)
      try simp only [y5, yq, yr] at h3 ⊢
      have z6 : yw (60 * p) = 60 * p := yw_s (60 * p) (by omega) (by omega)
      have z7 : yw (60 * p + i) = 60 * p + i := yw_s (60 * p + i) (by omega) (by omega)
      have z8 : yw (60 * p + i + 5 * (c : Int)) = 60 * p + i + 5 * (c : Int) := yw_s (60 * p + i + 5 * (c : Int)) (by omega) (by omega)
      have z90 : yw (60 * p + i + 5 * (c : Int) + 0) = 60 * p + i + 5 * (c : Int) + 0 := yw_s (60 * p + i + 5 * (c : Int) + 0) (by omega) (by omega)
      have z91 : yw (60 * p + i + 5 * (c : Int) + 1) = 60 * p + i + 5 * (c : Int) + 1 := yw_s (60 * p + i + 5 * (c : Int) + 1) (by omega) (by omega)
      have z92 : yw (60 * p + i + 5 * (c : Int) + 2) = 60 * p + i + 5 * (c : Int) + 2 := yw_s (60 * p + i + 5 * (c : Int) + 2) (by omega) (by omega)
      have z93 : yw (60 * p + i + 5 * (c : Int) + 3) = 60 * p + i + 5 * (c : Int) + 3 := yw_s (60 * p + i + 5 * (c : Int) + 3) (by omega) (by omega)
      have z94 : yw (60 * p + i + 5 * (c : Int) + 4) = 60 * p + i + 5 * (c : Int) + 4 := yw_s (60 * p + i + 5 * (c : Int) + 4) (by omega) (by omega)
      try simp only [y5, z6, z7, z8, z90, z91, z92, z93, z94]
      omega), ?_⟩
          refine ⟨(by
      have hz := hT.fO (j := 22) (List.mem_of_getElem? (i := 42) rfl) rfl
      have hmn := hm.1.fA (j := Int.toNat p) (List.mem_of_getElem? (i := 74) rfl) (by omega)
      have hmo : m 122 (Int.toNat p) = g 122 (Int.toNat p) := hm.2.2.2 122 _ (by omega) (by omega) (by omega)
      have h22 := hm.2.1
      have hx := hm.x (i + 5 * (c : Int))
      have y5 : yw (5 * (c : Int)) = 5 * (c : Int) := yw_s (5 * (c : Int)) (by omega) (by omega)
      have yq : yw (m 122 (Int.toNat p) - 5) = m 122 (Int.toNat p) - 5 := yw_s (m 122 (Int.toNat p) - 5) (by omega) (by omega)
      have yr : yw (m 122 (Int.toNat p) - 5 - 5 * (c : Int)) = m 122 (Int.toNat p) - 5 - 5 * (c : Int) := yw_s (m 122 (Int.toNat p) - 5 - 5 * (c : Int)) (by omega) (by omega)
      try simp only [y5, yq, yr] at h3 ⊢
      omega), ?_⟩
          refine ⟨fun h15 => absurd h15 (by decide), fun _ => ?_⟩
          refine ⟨fun h16 => absurd h16 (by decide), fun _ => ?_⟩
          refine ⟨(by
      have hz := hT.fO (j := 22) (List.mem_of_getElem? (i := 42) rfl) rfl
      have hmn := hm.1.fA (j := Int.toNat p) (List.mem_of_getElem? (i := 74) rfl) (by omega)
      have hmo : m 122 (Int.toNat p) = g 122 (Int.toNat p) := hm.2.2.2 122 _ (by omega) (by omega) (by omega)
      have h22 := hm.2.1
      have hx := hm.x (i + 5 * (c : Int))
      have y5 : yw (5 * (c : Int)) = 5 * (c : Int) := yw_s (5 * (c : Int)) (by omega) (by omega)
      have yq : yw (m 122 (Int.toNat p) - 5) = m 122 (Int.toNat p) - 5 := yw_s (m 122 (Int.toNat p) - 5) (by omega) (by omega)
      have yr : yw (m 122 (Int.toNat p) - 5 - 5 * (c : Int)) = m 122 (Int.toNat p) - 5 - 5 * (c : Int) := yw_s (m 122 (Int.toNat p) - 5 - 5 * (c : Int)) (by omega) (by omega)
      try simp only [y5, yq, yr] at h3 ⊢
      have z6 : yw (60 * p) = 60 * p := yw_s (60 * p) (by omega) (by omega)
      have z7 : yw (60 * p + i) = 60 * p + i := yw_s (60 * p + i) (by omega) (by omega)
      have z8 : yw (60 * p + i + 5 * (c : Int)) = 60 * p + i + 5 * (c : Int) := yw_s (60 * p + i + 5 * (c : Int)) (by omega) (by omega)
      have z90 : yw (60 * p + i + 5 * (c : Int) + 0) = 60 * p + i + 5 * (c : Int) + 0 := yw_s (60 * p + i + 5 * (c : Int) + 0) (by omega) (by omega)
      have z91 : yw (60 * p + i + 5 * (c : Int) + 1) = 60 * p + i + 5 * (c : Int) + 1 := yw_s (60 * p + i + 5 * (c : Int) + 1) (by omega) (by omega)
      have z92 : yw (60 * p + i + 5 * (c : Int) + 2) = 60 * p + i + 5 * (c : Int) + 2 := yw_s (60 * p + i + 5 * (c : Int) + 2) (by omega) (by omega)
      have z93 : yw (60 * p + i + 5 * (c : Int) + 3) = 60 * p + i + 5 * (c : Int) + 3 := yw_s (60 * p + i + 5 * (c : Int) + 3) (by omega) (by omega)
      have z94 : yw (60 * p + i + 5 * (c : Int) + 4) = 60 * p + i + 5 * (c : Int) + 4 := yw_s (60 * p + i + 5 * (c : Int) + 4) (by omega) (by omega)
      try simp only [y5, z6, z7, z8, z90, z91, z92, z93, z94]
      omega), ?_⟩
          refine ⟨(by
      have hz := hT.fO (j := 22) (List.mem_of_getElem? (i := 42) rfl) rfl
      have hmn := hm.1.fA (j := Int.toNat p) (List.mem_of_getElem? (i := 74) rfl) (by omega)
      have hmo : m 122 (Int.toNat p) = g 122 (Int.toNat p) := hm.2.2.2 122 _ (by omega) (by omega) (by omega)
      have h22 := hm.2.1
      have hx := hm.x (i + 5 * (c : Int))
      have y5 : yw (5 * (c : Int)) = 5 * (c : Int) := yw_s (5 * (c : Int)) (by omega) (by omega)
      have yq : yw (m 122 (Int.toNat p) - 5) = m 122 (Int.toNat p) - 5 := yw_s (m 122 (Int.toNat p) - 5) (by omega) (by omega)
      have yr : yw (m 122 (Int.toNat p) - 5 - 5 * (c : Int)) = m 122 (Int.toNat p) - 5 - 5 * (c : Int) := yw_s (m 122 (Int.toNat p) - 5 - 5 * (c : Int)) (by omega) (by omega)
      try simp only [y5, yq, yr] at h3 ⊢
      omega), ?_⟩
          refine ⟨fun h17 => absurd h17 (by decide), fun _ => ?_⟩
          refine ⟨fun h18 => absurd h18 (by decide), fun _ => ?_⟩
          refine ⟨(by
      have hz := hT.fO (j := 22) (List.mem_of_getElem? (i := 42) rfl) rfl
      have hmn := hm.1.fA (j := Int.toNat p) (List.mem_of_getElem? (i := 74) rfl) (by omega)
      have hmo : m 122 (Int.toNat p) = g 122 (Int.toNat p) := hm.2.2.2 122 _ (by omega) (by omega) (by omega)
      have h22 := hm.2.1
      have hx := hm.x (i + 5 * (c : Int))
      have y5 : yw (5 * (c : Int)) = 5 * (c : Int) := yw_s (5 * (c : Int)) (by omega) (by omega)
      have yq : yw (m 122 (Int.toNat p) - 5) = m 122 (Int.toNat p) - 5 := yw_s (m 122 (Int.toNat p) - 5) (by omega) (by omega)
      have yr : yw (m 122 (Int.toNat p) - 5 - 5 * (c : Int)) = m 122 (Int.toNat p) - 5 - 5 * (c : Int) := yw_s (m 122 (Int.toNat p) - 5 - 5 * (c : Int)) (by omega) (by omega)
      try simp only [y5, yq, yr] at h3 ⊢
      have z6 : yw (60 * p) = 60 * p := yw_s (60 * p) (by omega) (by omega)
      have z7 : yw (60 * p + i) = 60 * p + i := yw_s (60 * p + i) (by omega) (by omega)
      have z8 : yw (60 * p + i + 5 * (c : Int)) = 60 * p + i + 5 * (c : Int) := yw_s (60 * p + i + 5 * (c : Int)) (by omega) (by omega)
      have z90 : yw (60 * p + i + 5 * (c : Int) + 0) = 60 * p + i + 5 * (c : Int) + 0 := yw_s (60 * p + i + 5 * (c : Int) + 0) (by omega) (by omega)
      have z91 : yw (60 * p + i + 5 * (c : Int) + 1) = 60 * p + i + 5 * (c : Int) + 1 := yw_s (60 * p + i + 5 * (c : Int) + 1) (by omega) (by omega)
      have z92 : yw (60 * p + i + 5 * (c : Int) + 2) = 60 * p + i + 5 * (c : Int) + 2 := yw_s (60 * p + i + 5 * (c : Int) + 2) (by omega) (by omega)
      have z93 : yw (60 * p + i + 5 * (c : Int) + 3) = 60 * p + i + 5 * (c : Int) + 3 := yw_s (60 * p + i + 5 * (c : Int) + 3) (by omega) (by omega)
      have z94 : yw (60 * p + i + 5 * (c : Int) + 4) = 60 * p + i + 5 * (c : Int) + 4 := yw_s (60 * p + i + 5 * (c : Int) + 4) (by omega) (by omega)
      try simp only [y5, z6, z7, z8, z90, z91, z92, z93, z94]
      omega), ?_⟩
          refine ⟨(by
      have hz := hT.fO (j := 22) (List.mem_of_getElem? (i := 42) rfl) rfl
      have hmn := hm.1.fA (j := Int.toNat p) (List.mem_of_getElem? (i := 74) rfl) (by omega)
      have hmo : m 122 (Int.toNat p) = g 122 (Int.toNat p) := hm.2.2.2 122 _ (by omega) (by omega) (by omega)
      have h22 := hm.2.1
      have hx := hm.x (i + 5 * (c : Int))
      have y5 : yw (5 * (c : Int)) = 5 * (c : Int) := yw_s (5 * (c : Int)) (by omega) (by omega)
      have yq : yw (m 122 (Int.toNat p) - 5) = m 122 (Int.toNat p) - 5 := yw_s (m 122 (Int.toNat p) - 5) (by omega) (by omega)
      have yr : yw (m 122 (Int.toNat p) - 5 - 5 * (c : Int)) = m 122 (Int.toNat p) - 5 - 5 * (c : Int) := yw_s (m 122 (Int.toNat p) - 5 - 5 * (c : Int)) (by omega) (by omega)
      try simp only [y5, yq, yr] at h3 ⊢
      omega), ?_⟩
          refine ⟨fun _ => ?_, fun h19 => absurd (by decide) h19⟩
          have hz := hT.fO (j := 22) (List.mem_of_getElem? (i := 42) rfl) rfl
          have hmn := hm.1.fA (j := Int.toNat p) (List.mem_of_getElem? (i := 74) rfl) (by omega)
          have hmo : m 122 (Int.toNat p) = g 122 (Int.toNat p) := hm.2.2.2 122 _ (by omega) (by omega) (by omega)
          have h22 := hm.2.1
          have hx := hm.x (i + 5 * (c : Int))
          have y5 : yw (5 * (c : Int)) = 5 * (c : Int) := yw_s (5 * (c : Int)) (by omega) (by omega)
          have yq : yw (m 122 (Int.toNat p) - 5) = m 122 (Int.toNat p) - 5 := yw_s (m 122 (Int.toNat p) - 5) (by omega) (by omega)
          have yr : yw (m 122 (Int.toNat p) - 5 - 5 * (c : Int)) = m 122 (Int.toNat p) - 5 - 5 * (c : Int) := yw_s (m 122 (Int.toNat p) - 5 - 5 * (c : Int)) (by omega) (by omega)
          try simp only [y5, yq, yr] at h3
          have z6 : yw (60 * p) = 60 * p := yw_s (60 * p) (by omega) (by omega)
          have z7 : yw (60 * p + i) = 60 * p + i := yw_s (60 * p + i) (by omega) (by omega)
          have z8 : yw (60 * p + i + 5 * (c : Int)) = 60 * p + i + 5 * (c : Int) := yw_s (60 * p + i + 5 * (c : Int)) (by omega) (by omega)
          have z90 : yw (60 * p + i + 5 * (c : Int) + 0) = 60 * p + i + 5 * (c : Int) + 0 := yw_s (60 * p + i + 5 * (c : Int) + 0) (by omega) (by omega)
          have z91 : yw (60 * p + i + 5 * (c : Int) + 1) = 60 * p + i + 5 * (c : Int) + 1 := yw_s (60 * p + i + 5 * (c : Int) + 1) (by omega) (by omega)
          have z92 : yw (60 * p + i + 5 * (c : Int) + 2) = 60 * p + i + 5 * (c : Int) + 2 := yw_s (60 * p + i + 5 * (c : Int) + 2) (by omega) (by omega)
          have z93 : yw (60 * p + i + 5 * (c : Int) + 3) = 60 * p + i + 5 * (c : Int) + 3 := yw_s (60 * p + i + 5 * (c : Int) + 3) (by omega) (by omega)
          have z94 : yw (60 * p + i + 5 * (c : Int) + 4) = 60 * p + i + 5 * (c : Int) + 4 := yw_s (60 * p + i + 5 * (c : Int) + 4) (by omega) (by omega)
          simp only [y5, z6, z7, z8, z90, z91, z92, z93, z94]
          have ex : ∀ j : Nat, yw (m 123 (Int.toNat (60 * p + i + 5 * (c : Int) + j))) = yfxm g p (i + 5 * (c : Int)) j := fun j => by
            rw [← hx.2]
            unfold yfxm
            rw [show 60 * p + (i + 5 * (c : Int) + j) = 60 * p + i + 5 * (c : Int) + j by omega]
          have e0 : yw (m 123 (Int.toNat (60 * p + i + 5 * (c : Int) + 0))) = yfxm g p (i + 5 * (c : Int)) 0 := ex 0
          have e1 : yw (m 123 (Int.toNat (60 * p + i + 5 * (c : Int) + 1))) = yfxm g p (i + 5 * (c : Int)) 1 := ex 1
          have e2 : yw (m 123 (Int.toNat (60 * p + i + 5 * (c : Int) + 2))) = yfxm g p (i + 5 * (c : Int)) 2 := ex 2
          have e3 : yw (m 123 (Int.toNat (60 * p + i + 5 * (c : Int) + 3))) = yfxm g p (i + 5 * (c : Int)) 3 := ex 3
          have e4 : yw (m 123 (Int.toNat (60 * p + i + 5 * (c : Int) + 4))) = yfxm g p (i + 5 * (c : Int)) 4 := ex 4
          rw [e0, e1, e2, e3, e4]
          show Y 160 [(3, 90), (1, p), (1, i), (1, n), (1, (c : Int)), (1, 1), (1, 5)] [] (ym5 m (yfxm g p (i + 5 * (c : Int))))
          have v := ym5_v m (yfxm g p (i + 5 * (c : Int)))
          have hs22 : (ym5 m (yfxm g p (i + 5 * (c : Int)))) 90 22 = m 90 22 := ym5_nc (by decide)
          refine yt_MCSb (z := yfxm g p (i + 5 * (c : Int))) hY ⟨by omega, by omega⟩ (by rw [hs22]; omega) v.1 v.2.1 v.2.2.1 v.2.2.2.1 v.2.2.2.2 (fun hv => ?_) (fun hv => ?_)
          · have h9 := hm.one hz.1 (by omega) ⟨by omega, by omega, hv⟩
            have e9 := ih (c + 1) (by omega) _ (1, 5) h9 (by omega)
            rw [show ((c + 1 : Nat) : Int) = (c : Int) + 1 by omega] at e9
            exact e9
          · exact hK _ _ ⟨c, rfl, by omega, h40, Or.inr (Or.inr (fun z => hv z.2.2)), hm.sc (ym2_ty (ym5_ty hm.1 (fun j => ywr _))) (fun a b hab => by rw [ym2_nc hab, ym5_nc hab])⟩
set_option maxRecDepth 8000 in
theorem yv_MCS {K : List yV → yM → Prop} {Y : yNx} {g : yM} {p i n : Int} (hY : yCl zpD148 (zpZ, zpRS, zpP12, zpMT, [yC_IS, yC_WM, yC_IMI, yC_IDO, yC_MAD], (3, 85), 1) K Y) (hr_p : -2147483648 ≤ p ∧ p ≤ 2147483647) (hr_i : -2147483648 ≤ i ∧ i ≤ 2147483647) (hr_n : -2147483648 ≤ n ∧ n ≤ 2147483647) (hp0 : yTy zpZ g) (hK : ∀ (r : Int) (g' : yM), (¬ (0 ≤ p ∧ p < 6 ∧ 1 ≤ n ∧ n ≤ 12) → r = -1 ∧ g' = g) → ((0 ≤ p ∧ p < 6 ∧ 1 ≤ n ∧ n ≤ 12) → g 121 (Int.toNat p) < 0 → r = 0 ∧ g' = g) → ((0 ≤ p ∧ p < 6 ∧ 1 ≤ n ∧ n ≤ 12) → 0 ≤ g 121 (Int.toNat p) → g 121 (Int.toNat p) ≠ 21 → r = -12 ∧ g' = g) → ((0 ≤ p ∧ p < 6 ∧ 1 ≤ n ∧ n ≤ 12) → g 121 (Int.toNat p) = 21 → ∃ c : Nat, r = (c : Int) ∧ (c : Int) ≤ n ∧ g 90 22 + c ≤ 40 ∧ ((c : Int) = n ∨ g 90 22 + c = 40 ∨ ¬ yfVm g p (i + 5 * c)) ∧ yMr g p i c g') → K [(1, r)] g') : Y 0 [(3, 90), (1, p), (1, i), (1, n), (0, 0), (0, 0), (0, 0)] [] g := by
  refine yrun_ok (sp := fun pc => Nat.beq pc 69) hY 34 0 _ [] g ?_
  show (∃ (d1 : Int), [(1, p)] = [(1, d1)] ∧ (∀ (r2 : Int), ((r2 = 1 ∧ 0 ≤ d1 ∧ d1 < 6) ∨ (r2 = 0 ∧ (d1 < 0 ∨ 6 ≤ d1))) → ((r2 = 0 → (K [(1, (-1))] g)) ∧ (¬ (r2 = 0) → (∃ (v5 a6 b7 : Int), [(2, n), (2, 1), (2, 12)] = [(2, v5), (2, a6), (2, b7)] ∧ (∀ (r8 : Int), ((r8 = 1 ∧ a6 ≤ v5 ∧ v5 ≤ b7) ∨ (r8 = 0 ∧ (v5 < a6 ∨ b7 < v5))) → ((r8 ≠ 0 → (((0 : Int) ≤ p ∧ p < ((6 : Nat) : Int)) ∧ (((g 121 (Int.toNat p)) < 0 → (((0 : Int) ≤ p ∧ p < ((6 : Nat) : Int)) ∧ (((g 121 (Int.toNat p)) ≠ 21 → (Y 69 [(3, 90), (1, p), (1, i), (1, n), (1, 0), (1, 0), (0, 0)] [] g)) ∧ (¬ ((g 121 (Int.toNat p)) ≠ 21) → ((i < 0 → (Y 69 [(3, 90), (1, p), (1, i), (1, n), (1, 0), (1, 0), (0, 0)] [] g)) ∧ (¬ (i < 0) → (Y 69 [(3, 90), (1, p), (1, i), (1, n), (1, 0), (1, 1), (0, 0)] [] g))))))) ∧ (¬ ((g 121 (Int.toNat p)) < 0) → (((0 : Int) ≤ p ∧ p < ((6 : Nat) : Int)) ∧ (((g 121 (Int.toNat p)) = 21 → (((0 : Int) ≤ p ∧ p < ((6 : Nat) : Int)) ∧ (((g 121 (Int.toNat p)) ≠ 21 → (Y 69 [(3, 90), (1, p), (1, i), (1, n), (1, 0), (1, 0), (0, 0)] [] g)) ∧ (¬ ((g 121 (Int.toNat p)) ≠ 21) → ((i < 0 → (Y 69 [(3, 90), (1, p), (1, i), (1, n), (1, 0), (1, 0), (0, 0)] [] g)) ∧ (¬ (i < 0) → (Y 69 [(3, 90), (1, p), (1, i), (1, n), (1, 0), (1, 1), (0, 0)] [] g))))))) ∧ (¬ ((g 121 (Int.toNat p)) = 21) → (K [(1, (-12))] g)))))))) ∧ (¬ (r8 ≠ 0) → (K [(1, (-1))] g)))))))))
  refine ⟨_, rfl, ?_⟩
  intro r2 p30
  refine ⟨fun h4 => ?_, fun h4 => ?_⟩
  · exact hK _ _ (fun _ => ⟨rfl, rfl⟩) (fun h => absurd h (by omega)) (fun h => absurd h (by omega)) (fun h => absurd h (by omega))
  · refine ⟨_, _, _, rfl, ?_⟩
    intro r8 p90
    refine ⟨fun h10 => ?_, fun h10 => ?_⟩
    · refine ⟨(by omega), ?_⟩
      refine ⟨fun h11 => ?_, fun h11 => ?_⟩
      · refine ⟨(by omega), ?_⟩
        refine ⟨fun h12 => ?_, fun h12 => ?_⟩
        · have hz := hp0.fO (j := 22) (List.mem_of_getElem? (i := 42) rfl) rfl
          have ho : (0 ≤ p ∧ p < 6 ∧ 1 ≤ n ∧ n ≤ 12) := by omega
          have h0 : yMr g p i 0 g := ⟨hp0, by omega, fun j hj => absurd hj (by omega), fun _ _ _ _ _ => rfl⟩
          refine yt_MCSx hY ?_
          by_cases hs : g 121 (Int.toNat p) < 0
          · exact hK _ _ (fun h => absurd (by omega) h) (fun _ _ => ⟨rfl, rfl⟩) (fun _ h => absurd h (by omega)) (fun _ h => absurd h (by omega))
          · exact hK _ _ (fun h => absurd (by omega) h) (fun _ h => absurd h hs) (fun _ _ h => absurd (by omega) h) (fun _ _ => ⟨0, rfl, by omega, by omega, Or.inr (Or.inr (fun z => by have := z.1; omega)), h0⟩)
        · refine ⟨fun h13 => ?_, fun h13 => ?_⟩
          · have hz := hp0.fO (j := 22) (List.mem_of_getElem? (i := 42) rfl) rfl
            have ho : (0 ≤ p ∧ p < 6 ∧ 1 ≤ n ∧ n ≤ 12) := by omega
            have h0 : yMr g p i 0 g := ⟨hp0, by omega, fun j hj => absurd hj (by omega), fun _ _ _ _ _ => rfl⟩
            refine yt_MCSx hY ?_
            by_cases hs : g 121 (Int.toNat p) < 0
            · exact hK _ _ (fun h => absurd (by omega) h) (fun _ _ => ⟨rfl, rfl⟩) (fun _ h => absurd h (by omega)) (fun _ h => absurd h (by omega))
            · exact hK _ _ (fun h => absurd (by omega) h) (fun _ h => absurd h hs) (fun _ _ h => absurd (by omega) h) (fun _ _ => ⟨0, rfl, by omega, by omega, Or.inr (Or.inr (fun z => by have := z.1; omega)), h0⟩)
          · have hz := hp0.fO (j := 22) (List.mem_of_getElem? (i := 42) rfl) rfl
            have ho : (0 ≤ p ∧ p < 6 ∧ 1 ≤ n ∧ n ≤ 12) := by omega
            have h0 : yMr g p i 0 g := ⟨hp0, by omega, fun j hj => absurd hj (by omega), fun _ _ _ _ _ => rfl⟩
            have e := yl_MCS hY hp0 ⟨by omega, hr_i.2⟩ ho (fun r g' h => hK r g' (fun h => absurd ho h) (fun _ h => absurd h (by omega)) (fun _ _ h => absurd (by omega) h) (fun _ _ => h)) (Int.toNat n) 0 (by omega) g (0, 0) h0 (by omega)
            exact e
      · refine ⟨(by omega), ?_⟩
        refine ⟨fun h14 => ?_, fun h14 => ?_⟩
        · refine ⟨(by omega), ?_⟩
          refine ⟨fun h15 => ?_, fun h15 => ?_⟩
          · have hz := hp0.fO (j := 22) (List.mem_of_getElem? (i := 42) rfl) rfl
            have ho : (0 ≤ p ∧ p < 6 ∧ 1 ≤ n ∧ n ≤ 12) := by omega
            have h0 : yMr g p i 0 g := ⟨hp0, by omega, fun j hj => absurd hj (by omega), fun _ _ _ _ _ => rfl⟩
            refine yt_MCSx hY ?_
            by_cases hs : g 121 (Int.toNat p) < 0
            · exact hK _ _ (fun h => absurd (by omega) h) (fun _ _ => ⟨rfl, rfl⟩) (fun _ h => absurd h (by omega)) (fun _ h => absurd h (by omega))
            · exact hK _ _ (fun h => absurd (by omega) h) (fun _ h => absurd h hs) (fun _ _ h => absurd (by omega) h) (fun _ _ => ⟨0, rfl, by omega, by omega, Or.inr (Or.inr (fun z => by have := z.1; omega)), h0⟩)
          · refine ⟨fun h16 => ?_, fun h16 => ?_⟩
            · have hz := hp0.fO (j := 22) (List.mem_of_getElem? (i := 42) rfl) rfl
              have ho : (0 ≤ p ∧ p < 6 ∧ 1 ≤ n ∧ n ≤ 12) := by omega
              have h0 : yMr g p i 0 g := ⟨hp0, by omega, fun j hj => absurd hj (by omega), fun _ _ _ _ _ => rfl⟩
              refine yt_MCSx hY ?_
              by_cases hs : g 121 (Int.toNat p) < 0
              · exact hK _ _ (fun h => absurd (by omega) h) (fun _ _ => ⟨rfl, rfl⟩) (fun _ h => absurd h (by omega)) (fun _ h => absurd h (by omega))
              · exact hK _ _ (fun h => absurd (by omega) h) (fun _ h => absurd h hs) (fun _ _ h => absurd (by omega) h) (fun _ _ => ⟨0, rfl, by omega, by omega, Or.inr (Or.inr (fun z => by have := z.1; omega)), h0⟩)
            · have hz := hp0.fO (j := 22) (List.mem_of_getElem? (i := 42) rfl) rfl
              have ho : (0 ≤ p ∧ p < 6 ∧ 1 ≤ n ∧ n ≤ 12) := by omega
              have h0 : yMr g p i 0 g := ⟨hp0, by omega, fun j hj => absurd hj (by omega), fun _ _ _ _ _ => rfl⟩
              have e := yl_MCS hY hp0 ⟨by omega, hr_i.2⟩ ho (fun r g' h => hK r g' (fun h => absurd ho h) (fun _ h => absurd h (by omega)) (fun _ _ h => absurd (by omega) h) (fun _ _ => h)) (Int.toNat n) 0 (by omega) g (0, 0) h0 (by omega)
              exact e
        · exact hK _ _ (fun h => absurd (by omega) h) (fun _ h => absurd h (by omega)) (fun _ _ _ => ⟨rfl, rfl⟩) (fun _ h => absurd h (by omega))
    · exact hK _ _ (fun _ => ⟨rfl, rfl⟩) (fun h => absurd h (by omega)) (fun h => absurd h (by omega)) (fun h => absurd h (by omega))
theorem yM_MCS {l : Launch} {Ts : List Cond} {cl : List vw_C} {RO : zRO} (H : zHyp Ts cl RO) : yMet l Ts cl zpZ RO zpMT yC_MCS := ymet_of2 H.1 H.2.1 zpDj H.2.2.1 yRb H.p12 (ymets_cons (yM_IS H) (ymets_cons (yM_WM H) (ymets_cons (yM_IMI H) (ymets_cons (yM_IDO H) (ymets_cons (yM_MAD H) ymets_nil))))) (zrc1 rfl) (plainFor_of_name zpy12) zpDk148 (fun as g K Y h hA hY => by
  obtain ⟨p, i, n, rfl, hp0, hK⟩ := h
  exact yv_MCS hY (yAr1 hA (by simp)) (yAr1 hA (by simp)) (yAr1 hA (by simp)) hp0 hK)
