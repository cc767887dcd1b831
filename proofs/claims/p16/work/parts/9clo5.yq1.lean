/-! THE QUESTIONS OVER THE STARTS: THE CLASS -/
/-- what a loop adds up, as a relation: from a, d where P holds -/
def ySu (P : Nat → Prop) (d : Nat → Int) (a : Int) : Nat → Int → Prop
  | 0, v => v = a
  | n + 1, v => ∃ u : Int, ySu P d a n u ∧ ((P n ∧ v = yw (u + d n)) ∨ (¬ P n ∧ v = u))
def yDu (P : Nat → Nat → Prop) (m : Nat) : Nat → Int → Prop
  | 0, v => v = 0
  | n + 1, v => ∃ u : Int, yDu P m n u ∧ ySu (P n) (fun _ => 1) u m v
def yBt (P : Nat → Prop) : Nat → Int → Prop
  | 0, v => v = 0
  | n + 1, v => ∃ u : Int, yBt P n u ∧ ((P n ∧ v = ybl (fun x y => x ||| y) u (ysh (fun x y => x <<< (y.toInt64 &&& 63)) 1 (n : Int))) ∨ (¬ P n ∧ v = u))
def yFst (P : Nat → Prop) (n : Int) (r : Int) : Prop := (∃ i : Nat, r = i ∧ (i : Int) < n ∧ P i ∧ ∀ j : Nat, j < i → ¬ P j) ∨ (r = -2 ∧ ∀ j : Nat, (j : Int) < n → ¬ P j)
theorem ySu_rng {P : Nat → Prop} {d : Nat → Int} {a : Int} (ha : -2147483648 ≤ a ∧ a ≤ 2147483647) : ∀ (n : Nat) (v : Int), ySu P d a n v → -2147483648 ≤ v ∧ v ≤ 2147483647
  | 0, v, h => by
    have h : v = a := h
    rw [h]
    exact ha
  | n + 1, v, h => by
    obtain ⟨u, h1, h2⟩ := h
    rcases h2 with ⟨-, rfl⟩ | ⟨-, rfl⟩
    · exact yw_rng _
    · exact ySu_rng ha n _ h1
theorem ySu_u {P Q : Nat → Prop} {d e : Nat → Int} {a : Int} : ∀ (n : Nat) (v w : Int), (∀ i : Nat, i < n → (P i ↔ Q i)) → (∀ i : Nat, i < n → P i → d i = e i) → ySu P d a n v → ySu Q e a n w → v = w
  | 0, v, w, _, _, h1, h2 => by
    have h1 : v = a := h1
    have h2 : w = a := h2
    rw [h1, h2]
  | n + 1, v, w, hP, hd, h1, h2 => by
    obtain ⟨u, h3, h4⟩ := h1
    obtain ⟨z, h5, h6⟩ := h2
    have e := ySu_u n u z (fun i hi => hP i (by omega)) (fun i hi => hd i (by omega)) h3 h5
    rw [e] at h4
    have hp := hP n (by omega)
    rcases h4 with ⟨q1, q2⟩ | ⟨q1, q2⟩
    · rcases h6 with ⟨t1, t2⟩ | ⟨t1, t2⟩
      · rw [q2, t2, hd n (by omega) q1]
      · exact absurd (hp.mp q1) t1
    · rcases h6 with ⟨t1, t2⟩ | ⟨t1, t2⟩
      · exact absurd (hp.mpr t1) q1
      · rw [q2, t2]
theorem yDu_rng {P : Nat → Nat → Prop} {m : Nat} : ∀ (n : Nat) (v : Int), yDu P m n v → -2147483648 ≤ v ∧ v ≤ 2147483647
  | 0, v, h => by
    have h : v = 0 := h
    rw [h]
    decide
  | n + 1, v, h => by
    obtain ⟨u, h1, h2⟩ := h
    exact ySu_rng (yDu_rng n u h1) _ _ h2
theorem yDu_u {P Q : Nat → Nat → Prop} {m : Nat} : ∀ (n : Nat) (v w : Int), (∀ i j : Nat, i < n → j < m → (P i j ↔ Q i j)) → yDu P m n v → yDu Q m n w → v = w
  | 0, v, w, _, h1, h2 => by
    have h1 : v = 0 := h1
    have h2 : w = 0 := h2
    rw [h1, h2]
  | n + 1, v, w, hP, h1, h2 => by
    obtain ⟨u, h3, h4⟩ := h1
    obtain ⟨z, h5, h6⟩ := h2
    have e := yDu_u n u z (fun i j hi hj => hP i j (by omega) hj) h3 h5
    rw [e] at h4
    exact ySu_u m v w (fun j hj => hP n j (by omega) hj) (fun _ _ _ => rfl) h4 h6
theorem yBt_u {P Q : Nat → Prop} : ∀ (n : Nat) (v w : Int), (∀ i : Nat, i < n → (P i ↔ Q i)) → yBt P n v → yBt Q n w → v = w
  | 0, v, w, _, h1, h2 => by
    have h1 : v = 0 := h1
    have h2 : w = 0 := h2
    rw [h1, h2]
  | n + 1, v, w, hP, h1, h2 => by
    obtain ⟨u, h3, h4⟩ := h1
    obtain ⟨z, h5, h6⟩ := h2
    have e := yBt_u n u z (fun i hi => hP i (by omega)) h3 h5
    rw [e] at h4
    have hp := hP n (by omega)
    rcases h4 with ⟨q1, q2⟩ | ⟨q1, q2⟩
    · rcases h6 with ⟨t1, t2⟩ | ⟨t1, t2⟩
      · rw [q2, t2]
      · exact absurd (hp.mp q1) t1
    · rcases h6 with ⟨t1, t2⟩ | ⟨t1, t2⟩
      · exact absurd (hp.mpr t1) q1
      · rw [q2, t2]
theorem yFst_u {P Q : Nat → Prop} {n v w : Int} (hP : ∀ i : Nat, (i : Int) < n → (P i ↔ Q i)) (h1 : yFst P n v) (h2 : yFst Q n w) : v = w := by
  rcases h1 with ⟨i, a1, a2, a3, a4⟩ | ⟨a1, a2⟩
  · rcases h2 with ⟨j, b1, b2, b3, b4⟩ | ⟨b1, b2⟩
    · rcases Nat.lt_trichotomy i j with h | h | h
      · exact absurd ((hP i a2).mp a3) (b4 i h)
      · rw [a1, b1, h]
      · exact absurd ((hP j b2).mpr b3) (a4 j h)
    · exact absurd ((hP i a2).mp a3) (b2 i a2)
  · rcases h2 with ⟨j, b1, b2, b3, b4⟩ | ⟨b1, b2⟩
    · exact absurd ((hP j b2).mpr b3) (a2 j b2)
    · rw [a1, b1]
theorem ySu_1 {P : Nat → Prop} {d : Nat → Int} {a u x : Int} {n : Nat} (h : ySu P d a n u) (hP : P n) (hx : d n = x) : ySu P d a (n + 1) (yw (u + x)) := ⟨u, h, Or.inl ⟨hP, by rw [hx]⟩⟩
theorem ySu_0 {P : Nat → Prop} {d : Nat → Int} {a u : Int} {n : Nat} (h : ySu P d a n u) (hP : ¬ P n) : ySu P d a (n + 1) u := ⟨u, h, Or.inr ⟨hP, rfl⟩⟩
theorem yBt_1 {P : Nat → Prop} {u : Int} {n : Nat} (h : yBt P n u) (hP : P n) : yBt P (n + 1) (ybl (fun x y => x ||| y) u (ysh (fun x y => x <<< (y.toInt64 &&& 63)) 1 (n : Int))) := ⟨u, h, Or.inl ⟨hP, rfl⟩⟩
theorem yBt_0 {P : Nat → Prop} {u : Int} {n : Nat} (h : yBt P n u) (hP : ¬ P n) : yBt P (n + 1) u := ⟨u, h, Or.inr ⟨hP, rfl⟩⟩
/-- the class: served; could pass; passes; mistold -/
def ySv (g : yM) (p : Nat) : Int := if g (50 + p) 8 = -1 then g (50 + p) 10 else g (50 + p) 8
def yCp (g : yM) (p q : Nat) : Prop := g (50 + p) 0 = g (50 + q) 0 ∧ (g 1 10 = 0 ∨ g (50 + p) 7 = g (50 + q) 7) ∧ yw (g (50 + q) 1 + g 1 9) < yw (g (50 + p) 1 - g 1 9)
def yPs (g : yM) (h : Int) (p q : Nat) : Prop := yCp g p q ∧ (h = 2 → 0 ≤ ySv g p ∧ ySv g p < ySv g q) ∧ (h ≠ 2 → g (50 + p) 10 ≠ -2 ∧ g (50 + q) 10 ≠ -2 ∧ (h = 0 → g (50 + p) 11 < g (50 + q) 10) ∧ (h ≠ 0 → g (50 + p) 10 < g (50 + q) 11))
theorem yq100 {v : Int} (h : -2147483648 ≤ v ∧ v ≤ 2147483647) : yb (fun x y => x - x / y * y) v 100 = v - 100 * yb (fun x y => x / y) v 100 := by
  have e0 : (Int32.ofInt v).toInt = v := zofI h.1 h.2
  have e1 : yb (fun x y => x / y) v 100 = v.tdiv 100 := by
    show (Int32.ofInt v / Int32.ofInt 100).toInt = _
    rw [zdivI (by decide), e0]
    rfl
  have e2 : yb (fun x y => x - x / y * y) v 100 = v.tmod 100 := by
    show (Int32.ofInt v - Int32.ofInt v / Int32.ofInt 100 * Int32.ofInt 100).toInt = _
    rw [zremI (by decide), e0]
    rfl
  rw [e1, e2]
  exact Int.tmod_def v 100
def yMs (g : yM) (t : Int) (i : Nat) : Prop := g (50 + i) 0 = t ∧ g (50 + i) 8 ≠ -1 ∧ ¬ (g (50 + i) 10 ≠ -2 ∧ g (50 + i) 10 ≤ g (50 + i) 8 ∧ g (50 + i) 8 ≤ g (50 + i) 11)
def yP_HST : yPT := fun as g K => ∃ (w : Int), as = [(141, w)] ∧ (0 ≤ w ∧ w < 40) ∧ (∀ (r : Int), ((r = 1 ∧ g (50 + Int.toNat w) 10 ≠ -2) ∨ (r = 0 ∧ g (50 + Int.toNat w) 10 = -2)) → K [(1, r)] g)
def yC_HST : yC := (51, (1, 40), yP_HST)
set_option maxRecDepth 8000 in
theorem yv_HST {K : List yV → yM → Prop} {Y : yNx} {g : yM} {w : Int} (hY : yCl zpD51 (zpZ, zpRS, zpP3, zpMT, [], (1, 40), 2) K Y) (hp0 : 0 ≤ w ∧ w < 40) (hK : ∀ (r : Int), ((r = 1 ∧ g (50 + Int.toNat w) 10 ≠ -2) ∨ (r = 0 ∧ g (50 + Int.toNat w) 10 = -2)) → K [(1, r)] g) : Y 0 [(141, w)] [] g := by
  refine yrun_ok (sp := fun pc => false) hY 7 0 _ [] g ?_
  show (((g (50 + Int.toNat w) 10) = (-2) → (((0 : Int) ≤ 0 ∧ 0 ≤ (1 : Int)) ∧ (K [(1, 0)] g))) ∧ (¬ ((g (50 + Int.toNat w) 10) = (-2)) → (((0 : Int) ≤ 1 ∧ 1 ≤ (1 : Int)) ∧ (K [(1, 1)] g))))
  refine ⟨fun h1 => ?_, fun h1 => ?_⟩
  · refine ⟨(by omega), ?_⟩
    exact hK _ (by first | omega | exact fun _ => rfl | exact fun h => absurd h (by omega) | exact rfl | exact fun _ _ => rfl | exact fun h _ => absurd h (by omega) | exact fun _ h => absurd h (by omega))
  · refine ⟨(by omega), ?_⟩
    exact hK _ (by first | omega | exact fun _ => rfl | exact fun h => absurd h (by omega) | exact rfl | exact fun _ _ => rfl | exact fun h _ => absurd h (by omega) | exact fun _ h => absurd h (by omega))
theorem yM_HST {l : Launch} {Ts : List Cond} {cl : List vw_C} {RO : zRO} (H : zHyp Ts cl RO) : yMet l Ts cl zpZ RO zpMT yC_HST := ymet_of2 H.1 H.2.1 zpDj H.2.2.1 yRb H.p3 ymets_nil (zrc2 rfl) (plainFor_of_name zpy3) zpDk51 (fun as g K Y h hA hY => by
  obtain ⟨w, rfl, hp0, hK⟩ := h
  exact yv_HST hY  hp0 hK)
def yP_IST : yPT := fun as g K => ∃ (w t : Int), as = [(141, w), (1, t)] ∧ (0 ≤ w ∧ w < 40) ∧ (∀ (r : Int), ((r = 1 ∧ (g (50 + Int.toNat w) 10 ≠ -2 ∧ g (50 + Int.toNat w) 10 ≤ t ∧ t ≤ g (50 + Int.toNat w) 11)) ∨ (r = 0 ∧ ¬ (g (50 + Int.toNat w) 10 ≠ -2 ∧ g (50 + Int.toNat w) 10 ≤ t ∧ t ≤ g (50 + Int.toNat w) 11))) → K [(1, r)] g)
def yC_IST : yC := (52, (2, 60), yP_IST)
set_option maxRecDepth 8000 in
theorem yv_IST {K : List yV → yM → Prop} {Y : yNx} {g : yM} {w t : Int} (hY : yCl zpD52 (zpZ, zpRS, zpP3, zpMT, [yC_HST], (2, 60), 2) K Y) (hr_t : -2147483648 ≤ t ∧ t ≤ 2147483647) (hp0 : 0 ≤ w ∧ w < 40) (hK : ∀ (r : Int), ((r = 1 ∧ (g (50 + Int.toNat w) 10 ≠ -2 ∧ g (50 + Int.toNat w) 10 ≤ t ∧ t ≤ g (50 + Int.toNat w) 11)) ∨ (r = 0 ∧ ¬ (g (50 + Int.toNat w) 10 ≠ -2 ∧ g (50 + Int.toNat w) 10 ≤ t ∧ t ≤ g (50 + Int.toNat w) 11))) → K [(1, r)] g) : Y 0 [(141, w), (1, t)] [] g := by
  refine yrun_ok (sp := fun pc => false) hY 14 0 _ [] g ?_
  show (∃ (w1 : Int), [(141, w)] = [(141, w1)] ∧ (0 ≤ w1 ∧ w1 < 40) ∧ (∀ (r2 : Int), ((r2 = 1 ∧ g (50 + Int.toNat w1) 10 ≠ -2) ∨ (r2 = 0 ∧ g (50 + Int.toNat w1) 10 = -2)) → ((r2 = 0 → (((0 : Int) ≤ 0 ∧ 0 ≤ (1 : Int)) ∧ (K [(1, 0)] g))) ∧ (¬ (r2 = 0) → ((t < (g (50 + Int.toNat w) 10) → (((0 : Int) ≤ 0 ∧ 0 ≤ (1 : Int)) ∧ (K [(1, 0)] g))) ∧ (¬ (t < (g (50 + Int.toNat w) 10)) → (((g (50 + Int.toNat w) 11) < t → (((0 : Int) ≤ 0 ∧ 0 ≤ (1 : Int)) ∧ (K [(1, 0)] g))) ∧ (¬ ((g (50 + Int.toNat w) 11) < t) → (((0 : Int) ≤ 1 ∧ 1 ≤ (1 : Int)) ∧ (K [(1, 1)] g))))))))))
  refine ⟨_, rfl, (by omega), ?_⟩
  intro r2 p30
  refine ⟨fun h4 => ?_, fun h4 => ?_⟩
  · refine ⟨(by omega), ?_⟩
    exact hK _ (by first | omega | exact fun _ => rfl | exact fun h => absurd h (by omega) | exact rfl | exact fun _ _ => rfl | exact fun h _ => absurd h (by omega) | exact fun _ h => absurd h (by omega))
  · refine ⟨fun h5 => ?_, fun h5 => ?_⟩
    · refine ⟨(by omega), ?_⟩
      exact hK _ (by first | omega | exact fun _ => rfl | exact fun h => absurd h (by omega) | exact rfl | exact fun _ _ => rfl | exact fun h _ => absurd h (by omega) | exact fun _ h => absurd h (by omega))
    · refine ⟨fun h6 => ?_, fun h6 => ?_⟩
      · refine ⟨(by omega), ?_⟩
        exact hK _ (by first | omega | exact fun _ => rfl | exact fun h => absurd h (by omega) | exact rfl | exact fun _ _ => rfl | exact fun h _ => absurd h (by omega) | exact fun _ h => absurd h (by omega))
      · refine ⟨(by omega), ?_⟩
        exact hK _ (by first | omega | exact fun _ => rfl | exact fun h => absurd h (by omega) | exact rfl | exact fun _ _ => rfl | exact fun h _ => absurd h (by omega) | exact fun _ h => absurd h (by omega))
theorem yM_IST {l : Launch} {Ts : List Cond} {cl : List vw_C} {RO : zRO} (H : zHyp Ts cl RO) : yMet l Ts cl zpZ RO zpMT yC_IST := ymet_of2 H.1 H.2.1 zpDj H.2.2.1 yRb H.p3 (ymets_cons (yM_HST H) ymets_nil) (zrc2 rfl) (plainFor_of_name zpy3) zpDk52 (fun as g K Y h hA hY => by
  obtain ⟨w, t, rfl, hp0, hK⟩ := h
  exact yv_IST hY (yAr1 hA (by simp)) hp0 hK)
def yP_SVD : yPT := fun as g K => ∃ (w : Int), as = [(141, w)] ∧ (0 ≤ w ∧ w < 40) ∧ (∀ (r : Int), (r = ySv g (Int.toNat w)) → K [(1, r)] g)
def yC_SVD : yC := (53, (1, 40), yP_SVD)
set_option maxRecDepth 8000 in
theorem yv_SVD {K : List yV → yM → Prop} {Y : yNx} {g : yM} {w : Int} (hY : yCl zpD53 (zpZ, zpRS, zpP3, zpMT, [], (1, 40), 1) K Y) (hp0 : 0 ≤ w ∧ w < 40) (hK : ∀ (r : Int), (r = ySv g (Int.toNat w)) → K [(1, r)] g) : Y 0 [(141, w)] [] g := by
  refine yrun_ok (sp := fun pc => false) hY 8 0 _ [] g ?_
  show (((g (50 + Int.toNat w) 8) ≠ (-1) → (K [(1, (g (50 + Int.toNat w) 8))] g)) ∧ (¬ ((g (50 + Int.toNat w) 8) ≠ (-1)) → (K [(1, (g (50 + Int.toNat w) 10))] g)))
  refine ⟨fun h1 => ?_, fun h1 => ?_⟩
  · exact hK _ (by unfold ySv; split <;> omega)
  · exact hK _ (by unfold ySv; split <;> omega)
theorem yM_SVD {l : Launch} {Ts : List Cond} {cl : List vw_C} {RO : zRO} (H : zHyp Ts cl RO) : yMet l Ts cl zpZ RO zpMT yC_SVD := ymet_of2 H.1 H.2.1 zpDj H.2.2.1 yRb H.p3 ymets_nil (zrc1 rfl) (plainFor_of_name zpy3) zpDk53 (fun as g K Y h hA hY => by
  obtain ⟨w, rfl, hp0, hK⟩ := h
  exact yv_SVD hY  hp0 hK)
def yP_CPS : yPT := fun as g K => ∃ (a b : Int), as = [(3, 5), (141, a), (141, b)] ∧ (0 ≤ a ∧ a < 40) ∧ (0 ≤ b ∧ b < 40) ∧ (∀ (r : Int), ((r = 1 ∧ yCp g (Int.toNat a) (Int.toNat b)) ∨ (r = 0 ∧ ¬ yCp g (Int.toNat a) (Int.toNat b))) → K [(1, r)] g)
def yC_CPS : yC := (59, (1, 40), yP_CPS)
set_option maxRecDepth 8000 in
theorem yv_CPS {K : List yV → yM → Prop} {Y : yNx} {g : yM} {a b : Int} (hY : yCl zpD59 (zpZ, zpRS, zpP5, zpMT, [], (1, 40), 2) K Y) (hp0 : 0 ≤ a ∧ a < 40) (hp1 : 0 ≤ b ∧ b < 40) (hK : ∀ (r : Int), ((r = 1 ∧ yCp g (Int.toNat a) (Int.toNat b)) ∨ (r = 0 ∧ ¬ yCp g (Int.toNat a) (Int.toNat b))) → K [(1, r)] g) : Y 0 [(3, 5), (141, a), (141, b)] [] g := by
  refine yrun_ok (sp := fun pc => false) hY 30 0 _ [] g ?_
  show (((g (50 + Int.toNat a) 0) ≠ (g (50 + Int.toNat b) 0) → (((0 : Int) ≤ 0 ∧ 0 ≤ (1 : Int)) ∧ (K [(1, 0)] g))) ∧ (¬ ((g (50 + Int.toNat a) 0) ≠ (g (50 + Int.toNat b) 0)) → (((g 1 10) = 0 → (((yw ((g (50 + Int.toNat a) 1) - (g 1 9))) ≤ (yw ((g (50 + Int.toNat b) 1) + (g 1 9))) → (((0 : Int) ≤ 0 ∧ 0 ≤ (1 : Int)) ∧ (K [(1, 0)] g))) ∧ (¬ ((yw ((g (50 + Int.toNat a) 1) - (g 1 9))) ≤ (yw ((g (50 + Int.toNat b) 1) + (g 1 9)))) → (((0 : Int) ≤ 1 ∧ 1 ≤ (1 : Int)) ∧ (K [(1, 1)] g))))) ∧ (¬ ((g 1 10) = 0) → (((g (50 + Int.toNat a) 7) ≠ (g (50 + Int.toNat b) 7) → (((0 : Int) ≤ 0 ∧ 0 ≤ (1 : Int)) ∧ (K [(1, 0)] g))) ∧ (¬ ((g (50 + Int.toNat a) 7) ≠ (g (50 + Int.toNat b) 7)) → (((yw ((g (50 + Int.toNat a) 1) - (g 1 9))) ≤ (yw ((g (50 + Int.toNat b) 1) + (g 1 9))) → (((0 : Int) ≤ 0 ∧ 0 ≤ (1 : Int)) ∧ (K [(1, 0)] g))) ∧ (¬ ((yw ((g (50 + Int.toNat a) 1) - (g 1 9))) ≤ (yw ((g (50 + Int.toNat b) 1) + (g 1 9)))) → (((0 : Int) ≤ 1 ∧ 1 ≤ (1 : Int)) ∧ (K [(1, 1)] g))))))))))
  refine ⟨fun h1 => ?_, fun h1 => ?_⟩
  · refine ⟨(by omega), ?_⟩
    exact hK _ (by unfold yCp; omega)
  · refine ⟨fun h2 => ?_, fun h2 => ?_⟩
    · refine ⟨fun h3 => ?_, fun h3 => ?_⟩
      · refine ⟨(by have := yw_s ((g (50 + Int.toNat a) 1) - (g 1 9)); have := yw_s ((g (50 + Int.toNat b) 1) + (g 1 9)); omega), ?_⟩
        exact hK _ (by unfold yCp; omega)
      · refine ⟨(by have := yw_s ((g (50 + Int.toNat a) 1) - (g 1 9)); have := yw_s ((g (50 + Int.toNat b) 1) + (g 1 9)); omega), ?_⟩
        exact hK _ (by unfold yCp; omega)
    · refine ⟨fun h4 => ?_, fun h4 => ?_⟩
      · refine ⟨(by omega), ?_⟩
        exact hK _ (by unfold yCp; omega)
      · refine ⟨fun h5 => ?_, fun h5 => ?_⟩
        · refine ⟨(by have := yw_s ((g (50 + Int.toNat a) 1) - (g 1 9)); have := yw_s ((g (50 + Int.toNat b) 1) + (g 1 9)); omega), ?_⟩
          exact hK _ (by unfold yCp; omega)
        · refine ⟨(by have := yw_s ((g (50 + Int.toNat a) 1) - (g 1 9)); have := yw_s ((g (50 + Int.toNat b) 1) + (g 1 9)); omega), ?_⟩
          exact hK _ (by unfold yCp; omega)
theorem yM_CPS {l : Launch} {Ts : List Cond} {cl : List vw_C} {RO : zRO} (H : zHyp Ts cl RO) : yMet l Ts cl zpZ RO zpMT yC_CPS := ymet_of2 H.1 H.2.1 zpDj H.2.2.1 yRb H.p5 ymets_nil (zrc2 rfl) (plainFor_of_name zpy5) zpDk59 (fun as g K Y h hA hY => by
  obtain ⟨a, b, rfl, hp0, hp1, hK⟩ := h
  exact yv_CPS hY  hp0 hp1 hK)
def yP_PSS : yPT := fun as g K => ∃ (a b h : Int), as = [(3, 5), (141, a), (141, b), (1, h)] ∧ (0 ≤ a ∧ a < 40) ∧ (0 ≤ b ∧ b < 40) ∧ (∀ (r : Int), ((r = 1 ∧ yPs g h (Int.toNat a) (Int.toNat b)) ∨ (r = 0 ∧ ¬ yPs g h (Int.toNat a) (Int.toNat b))) → K [(1, r)] g)
def yC_PSS : yC := (65, (2, 62), yP_PSS)
set_option maxRecDepth 8000 in
theorem yv_PSS {K : List yV → yM → Prop} {Y : yNx} {g : yM} {a b h : Int} (hY : yCl zpD65 (zpZ, zpRS, zpP5, zpMT, [yC_CPS, yC_SVD, yC_HST], (2, 62), 2) K Y) (hr_h : -2147483648 ≤ h ∧ h ≤ 2147483647) (hp0 : 0 ≤ a ∧ a < 40) (hp1 : 0 ≤ b ∧ b < 40) (hK : ∀ (r : Int), ((r = 1 ∧ yPs g h (Int.toNat a) (Int.toNat b)) ∨ (r = 0 ∧ ¬ yPs g h (Int.toNat a) (Int.toNat b))) → K [(1, r)] g) : Y 0 [(3, 5), (141, a), (141, b), (1, h)] [] g := by
  refine yrun_ok (sp := fun pc => false) hY 24 0 _ [] g ?_
  show (∃ (a1 b2 : Int), [(3, 5), (141, a), (141, b)] = [(3, 5), (141, a1), (141, b2)] ∧ (0 ≤ a1 ∧ a1 < 40) ∧ (0 ≤ b2 ∧ b2 < 40) ∧ (∀ (r3 : Int), ((r3 = 1 ∧ yCp g (Int.toNat a1) (Int.toNat b2)) ∨ (r3 = 0 ∧ ¬ yCp g (Int.toNat a1) (Int.toNat b2))) → ((r3 ≠ 0 → ((h ≠ 2 → (∃ (w7 : Int), [(141, a)] = [(141, w7)] ∧ (0 ≤ w7 ∧ w7 < 40) ∧ (∀ (r8 : Int), ((r8 = 1 ∧ g (50 + Int.toNat w7) 10 ≠ -2) ∨ (r8 = 0 ∧ g (50 + Int.toNat w7) 10 = -2)) → ((r8 = 0 → (((0 : Int) ≤ 0 ∧ 0 ≤ (1 : Int)) ∧ (K [(1, 0)] g))) ∧ (¬ (r8 = 0) → (∃ (w11 : Int), [(141, b)] = [(141, w11)] ∧ (0 ≤ w11 ∧ w11 < 40) ∧ (∀ (r12 : Int), ((r12 = 1 ∧ g (50 + Int.toNat w11) 10 ≠ -2) ∨ (r12 = 0 ∧ g (50 + Int.toNat w11) 10 = -2)) → ((r12 ≠ 0 → ((h ≠ 0 → (((g (50 + Int.toNat b) 11) ≤ (g (50 + Int.toNat a) 10) → (((0 : Int) ≤ 0 ∧ 0 ≤ (1 : Int)) ∧ (K [(1, 0)] g))) ∧ (¬ ((g (50 + Int.toNat b) 11) ≤ (g (50 + Int.toNat a) 10)) → (((0 : Int) ≤ 1 ∧ 1 ≤ (1 : Int)) ∧ (K [(1, 1)] g))))) ∧ (¬ (h ≠ 0) → (((g (50 + Int.toNat b) 10) ≤ (g (50 + Int.toNat a) 11) → (((0 : Int) ≤ 0 ∧ 0 ≤ (1 : Int)) ∧ (K [(1, 0)] g))) ∧ (¬ ((g (50 + Int.toNat b) 10) ≤ (g (50 + Int.toNat a) 11)) → (((0 : Int) ≤ 1 ∧ 1 ≤ (1 : Int)) ∧ (K [(1, 1)] g))))))) ∧ (¬ (r12 ≠ 0) → (((0 : Int) ≤ 0 ∧ 0 ≤ (1 : Int)) ∧ (K [(1, 0)] g))))))))))) ∧ (¬ (h ≠ 2) → (∃ (w18 : Int), [(141, a)] = [(141, w18)] ∧ (0 ≤ w18 ∧ w18 < 40) ∧ (∀ (r19 : Int), (r19 = ySv g (Int.toNat w18)) → ((r19 < 0 → (((0 : Int) ≤ 0 ∧ 0 ≤ (1 : Int)) ∧ (K [(1, 0)] g))) ∧ (¬ (r19 < 0) → (∃ (w22 : Int), [(141, a)] = [(141, w22)] ∧ (0 ≤ w22 ∧ w22 < 40) ∧ (∀ (r23 : Int), (r23 = ySv g (Int.toNat w22)) → (∃ (w25 : Int), [(141, b)] = [(141, w25)] ∧ (0 ≤ w25 ∧ w25 < 40) ∧ (∀ (r26 : Int), (r26 = ySv g (Int.toNat w25)) → ((r26 ≤ r23 → (((0 : Int) ≤ 0 ∧ 0 ≤ (1 : Int)) ∧ (K [(1, 0)] g))) ∧ (¬ (r26 ≤ r23) → (((0 : Int) ≤ 1 ∧ 1 ≤ (1 : Int)) ∧ (K [(1, 1)] g))))))))))))))) ∧ (¬ (r3 ≠ 0) → (((0 : Int) ≤ 0 ∧ 0 ≤ (1 : Int)) ∧ (K [(1, 0)] g))))))
  refine ⟨_, _, rfl, (by omega), (by omega), ?_⟩
  intro r3 p40
  refine ⟨fun h5 => ?_, fun h5 => ?_⟩
  · refine ⟨fun h6 => ?_, fun h6 => ?_⟩
    · refine ⟨_, rfl, (by omega), ?_⟩
      intro r8 p90
      refine ⟨fun h10 => ?_, fun h10 => ?_⟩
      · refine ⟨(by omega), ?_⟩
        rcases p40 with ⟨q1, q2⟩ | ⟨q1, q2⟩
        · first
          | omega
          | exact hK _ (Or.inr ⟨rfl, fun z => by have z1 := z.2.1; have z2 := z.2.2; omega⟩)
        · first
          | omega
          | exact hK _ (Or.inr ⟨rfl, fun z => q2 z.1⟩)
      · refine ⟨_, rfl, (by omega), ?_⟩
        intro r12 p130
        refine ⟨fun h14 => ?_, fun h14 => ?_⟩
        · refine ⟨fun h15 => ?_, fun h15 => ?_⟩
          · refine ⟨fun h16 => ?_, fun h16 => ?_⟩
            · refine ⟨(by omega), ?_⟩
              rcases p40 with ⟨q1, q2⟩ | ⟨q1, q2⟩
              · first
                | omega
                | exact hK _ (Or.inr ⟨rfl, fun z => by have z1 := z.2.1; have z2 := z.2.2; omega⟩)
              · first
                | omega
                | exact hK _ (Or.inr ⟨rfl, fun z => q2 z.1⟩)
            · refine ⟨(by omega), ?_⟩
              rcases p40 with ⟨q1, q2⟩ | ⟨q1, q2⟩
              · first
                | omega
                | exact hK _ (Or.inl ⟨rfl, q2, by omega, by omega⟩)
              · first
                | omega
                | omega
          · refine ⟨fun h17 => ?_, fun h17 => ?_⟩
            · refine ⟨(by omega), ?_⟩
              rcases p40 with ⟨q1, q2⟩ | ⟨q1, q2⟩
              · first
                | omega
                | exact hK _ (Or.inr ⟨rfl, fun z => by have z1 := z.2.1; have z2 := z.2.2; omega⟩)
              · first
                | omega
                | exact hK _ (Or.inr ⟨rfl, fun z => q2 z.1⟩)
            · refine ⟨(by omega), ?_⟩
              rcases p40 with ⟨q1, q2⟩ | ⟨q1, q2⟩
              · first
                | omega
                | exact hK _ (Or.inl ⟨rfl, q2, by omega, by omega⟩)
              · first
                | omega
                | omega
        · refine ⟨(by omega), ?_⟩
          rcases p40 with ⟨q1, q2⟩ | ⟨q1, q2⟩
          · first
            | omega
            | exact hK _ (Or.inr ⟨rfl, fun z => by have z1 := z.2.1; have z2 := z.2.2; omega⟩)
          · first
            | omega
            | exact hK _ (Or.inr ⟨rfl, fun z => q2 z.1⟩)
    · refine ⟨_, rfl, (by omega), ?_⟩
      intro r19 p200
      refine ⟨fun h21 => ?_, fun h21 => ?_⟩
      · refine ⟨(by omega), ?_⟩
        rcases p40 with ⟨q1, q2⟩ | ⟨q1, q2⟩
        · first
          | omega
          | exact hK _ (Or.inr ⟨rfl, fun z => by have z1 := z.2.1; have z2 := z.2.2; omega⟩)
        · first
          | omega
          | exact hK _ (Or.inr ⟨rfl, fun z => q2 z.1⟩)
      · refine ⟨_, rfl, (by omega), ?_⟩
        intro r23 p240
        refine ⟨_, rfl, (by omega), ?_⟩
        intro r26 p270
        refine ⟨fun h28 => ?_, fun h28 => ?_⟩
        · refine ⟨(by omega), ?_⟩
          rcases p40 with ⟨q1, q2⟩ | ⟨q1, q2⟩
          · first
            | omega
            | exact hK _ (Or.inr ⟨rfl, fun z => by have z1 := z.2.1; have z2 := z.2.2; omega⟩)
          · first
            | omega
            | exact hK _ (Or.inr ⟨rfl, fun z => q2 z.1⟩)
        · refine ⟨(by omega), ?_⟩
          rcases p40 with ⟨q1, q2⟩ | ⟨q1, q2⟩
          · first
            | omega
            | exact hK _ (Or.inl ⟨rfl, q2, by omega, by omega⟩)
          · first
            | omega
            | omega
  · refine ⟨(by omega), ?_⟩
    rcases p40 with ⟨q1, q2⟩ | ⟨q1, q2⟩
    · first
      | omega
      | exact hK _ (Or.inr ⟨rfl, fun z => by have z1 := z.2.1; have z2 := z.2.2; omega⟩)
    · first
      | omega
      | exact hK _ (Or.inr ⟨rfl, fun z => q2 z.1⟩)
theorem yM_PSS {l : Launch} {Ts : List Cond} {cl : List vw_C} {RO : zRO} (H : zHyp Ts cl RO) : yMet l Ts cl zpZ RO zpMT yC_PSS := ymet_of2 H.1 H.2.1 zpDj H.2.2.1 yRb H.p5 (ymets_cons (yM_CPS H) (ymets_cons (yM_SVD H) (ymets_cons (yM_HST H) ymets_nil))) (zrc2 rfl) (plainFor_of_name zpy5) zpDk65 (fun as g K Y h hA hY => by
  obtain ⟨a, b, h, rfl, hp0, hp1, hK⟩ := h
  exact yv_PSS hY (yAr1 hA (by simp)) hp0 hp1 hK)
def yP_CCN : yPT := fun as g K => ∃ (t : Int), as = [(3, 0), (1, t)] ∧ (0 ≤ g 1 1 ∧ g 1 1 ≤ 40) ∧ (∀ (r : Int), (¬ (0 ≤ t ∧ t < 4) → r = -1) → (0 ≤ t ∧ t < 4 → yFst (fun i => g (50 + i) 0 = t ∧ g (50 + i) 10 = -2) (g 1 1) r) → K [(1, r)] g)
def yC_CCN : yC := (5, (2, 61), yP_CCN)
set_option maxRecDepth 8000 in
theorem yl_CCN {K : List yV → yM → Prop} {Y : yNx} {g : yM} {t : Int} (hY : yCl zpD5 (zpZ, zpRS, zpP0, zpMT, [yC_W, yC_HST], (2, 61), 1) K Y) (hq0 : 0 ≤ g 1 1 ∧ g 1 1 ≤ 40) (hK : ∀ v : Int, yFst (fun i => g (50 + i) 0 = t ∧ g (50 + i) 10 = -2) (g 1 1) v → K [(1, v)] g) : ∀ (n : Nat) (i : Int), i + n = g 1 1 → 0 ≤ i → ∀ (w3 : yV), (∀ j : Nat, (j : Int) < i → ¬ (fun i => g (50 + i) 0 = t ∧ g (50 + i) 10 = -2) j) → Y 12 [(3, 0), (1, t), (1, i), w3] [] g := by
  intro n
  induction n with
  | zero =>
    intro i hd h0 w3 hu
    refine yrun_ok (sp := fun pc => Nat.beq pc 12) hY 21 12 _ [] g ?_
    show (((g 1 1) ≤ i → (K [(1, (-2))] g)) ∧ (¬ ((g 1 1) ≤ i) → (((0 : Int) ≤ i ∧ i < ((40 : Nat) : Int)) ∧ (((g (50 + Int.toNat i) 0) ≠ t → (Y 12 [(3, 0), (1, t), (1, (yw (i + 1))), (141, i)] [] g)) ∧ (¬ ((g (50 + Int.toNat i) 0) ≠ t) → (∃ (w3 : Int), [(141, i)] = [(141, w3)] ∧ (0 ≤ w3 ∧ w3 < 40) ∧ (∀ (r4 : Int), ((r4 = 1 ∧ g (50 + Int.toNat w3) 10 ≠ -2) ∨ (r4 = 0 ∧ g (50 + Int.toNat w3) 10 = -2)) → ((r4 ≠ 0 → (Y 12 [(3, 0), (1, t), (1, (yw (i + 1))), (141, i)] [] g)) ∧ (¬ (r4 ≠ 0) → (K [(1, i)] g))))))))))
    refine ⟨fun h1 => ?_, fun h1 => ?_⟩
    · obtain rfl : i = g 1 1 := by omega
      exact hK _ (Or.inr ⟨rfl, hu⟩)
    · refine ⟨(by omega), ?_⟩
      refine ⟨fun h2 => ?_, fun h2 => ?_⟩
      · omega
      · refine ⟨_, rfl, (by omega), ?_⟩
        intro r4 p50
        refine ⟨fun h6 => ?_, fun h6 => ?_⟩
        · omega
        · omega
  | succ n ih =>
    intro i hd h0 w3 hu
    refine yrun_ok (sp := fun pc => Nat.beq pc 12) hY 21 12 _ [] g ?_
    show (((g 1 1) ≤ i → (K [(1, (-2))] g)) ∧ (¬ ((g 1 1) ≤ i) → (((0 : Int) ≤ i ∧ i < ((40 : Nat) : Int)) ∧ (((g (50 + Int.toNat i) 0) ≠ t → (Y 12 [(3, 0), (1, t), (1, (yw (i + 1))), (141, i)] [] g)) ∧ (¬ ((g (50 + Int.toNat i) 0) ≠ t) → (∃ (w3 : Int), [(141, i)] = [(141, w3)] ∧ (0 ≤ w3 ∧ w3 < 40) ∧ (∀ (r4 : Int), ((r4 = 1 ∧ g (50 + Int.toNat w3) 10 ≠ -2) ∨ (r4 = 0 ∧ g (50 + Int.toNat w3) 10 = -2)) → ((r4 ≠ 0 → (Y 12 [(3, 0), (1, t), (1, (yw (i + 1))), (141, i)] [] g)) ∧ (¬ (r4 ≠ 0) → (K [(1, i)] g))))))))))
    refine ⟨fun h1 => ?_, fun h1 => ?_⟩
    · omega
    · refine ⟨(by omega), ?_⟩
      refine ⟨fun h2 => ?_, fun h2 => ?_⟩
      · have yi : yw (i + 1) = i + 1 := yw_s (i + 1) (by omega) (by omega)
        rw [yi]
        refine ih (i + 1) (by omega) (by omega) (141, i) (fun j hj => ?_)
        by_cases hji : (j : Int) < i
        · exact hu j hji
        · obtain rfl : j = Int.toNat i := by omega
          exact fun z => by have z1 := z.1; have z2 := z.2; omega
      · refine ⟨_, rfl, (by omega), ?_⟩
        intro r4 p50
        refine ⟨fun h6 => ?_, fun h6 => ?_⟩
        · have yi : yw (i + 1) = i + 1 := yw_s (i + 1) (by omega) (by omega)
          rw [yi]
          refine ih (i + 1) (by omega) (by omega) (141, i) (fun j hj => ?_)
          by_cases hji : (j : Int) < i
          · exact hu j hji
          · obtain rfl : j = Int.toNat i := by omega
            exact fun z => by have z1 := z.1; have z2 := z.2; omega
        · exact hK _ (Or.inl ⟨Int.toNat i, by omega, by omega, ⟨by omega, by omega⟩, fun j hj => hu j (by omega)⟩)
set_option maxRecDepth 8000 in
theorem yv_CCN {K : List yV → yM → Prop} {Y : yNx} {g : yM} {t : Int} (hY : yCl zpD5 (zpZ, zpRS, zpP0, zpMT, [yC_W, yC_HST], (2, 61), 1) K Y) (hr_t : -2147483648 ≤ t ∧ t ≤ 2147483647) (hp0 : 0 ≤ g 1 1 ∧ g 1 1 ≤ 40) (hK : ∀ (r : Int), (¬ (0 ≤ t ∧ t < 4) → r = -1) → (0 ≤ t ∧ t < 4 → yFst (fun i => g (50 + i) 0 = t ∧ g (50 + i) 10 = -2) (g 1 1) r) → K [(1, r)] g) : Y 0 [(3, 0), (1, t), (0, 0), (0, 0)] [] g := by
  refine yrun_ok (sp := fun pc => Nat.beq pc 12) hY 7 0 _ [] g ?_
  show (∃ (v1 b2 : Int), [(1, t), (1, 4)] = [(1, v1), (1, b2)] ∧ (∀ (r3 : Int), ((r3 = 1 ∧ 0 ≤ v1 ∧ v1 < b2) ∨ (r3 = 0 ∧ (v1 < 0 ∨ b2 ≤ v1))) → ((r3 ≠ 0 → (Y 12 [(3, 0), (1, t), (1, 0), (0, 0)] [] g)) ∧ (¬ (r3 ≠ 0) → (K [(1, (-1))] g)))))
  refine ⟨_, _, rfl, ?_⟩
  intro r3 p40
  refine ⟨fun h5 => ?_, fun h5 => ?_⟩
  · exact yl_CCN hY hp0 (fun v hv => hK v (fun h => absurd (by omega) h) (fun _ => hv)) (Int.toNat (g 1 1)) 0 (by omega) (by decide) _ (fun j hj => absurd hj (by omega))
  · exact hK _ (fun _ => rfl) (fun h => absurd h (by omega))
theorem yM_CCN {l : Launch} {Ts : List Cond} {cl : List vw_C} {RO : zRO} (H : zHyp Ts cl RO) : yMet l Ts cl zpZ RO zpMT yC_CCN := ymet_of2 H.1 H.2.1 zpDj H.2.2.1 yRb H.p0 (ymets_cons (yM_W H) (ymets_cons (yM_HST H) ymets_nil)) (zrc1 rfl) (plainFor_of_name zpy0) zpDk5 (fun as g K Y h hA hY => by
  obtain ⟨t, rfl, hp0, hK⟩ := h
  exact yv_CCN hY (yAr1 hA (by simp)) hp0 hK)
def yP_CPD : yPT := fun as g K => ∃ (v h : Int), as = [(3, 0), (1, v), (1, h)] ∧ (0 ≤ g 1 1 ∧ g 1 1 ≤ 40) ∧ (∀ (r : Int), (¬ ((0 ≤ (yb (fun x y => x / y) v 100) ∧ (yb (fun x y => x / y) v 100) < g 1 1) ∧ (0 ≤ (yb (fun x y => x - x / y * y) v 100) ∧ (yb (fun x y => x - x / y * y) v 100) < g 1 1) ∧ (yb (fun x y => x / y) v 100) ≠ (yb (fun x y => x - x / y * y) v 100) ∧ 0 ≤ h ∧ h ≤ 1 ∧ g (50 + Int.toNat (yb (fun x y => x / y) v 100)) 0 = g (50 + Int.toNat (yb (fun x y => x - x / y * y) v 100)) 0) → r = -1) → (((0 ≤ (yb (fun x y => x / y) v 100) ∧ (yb (fun x y => x / y) v 100) < g 1 1) ∧ (0 ≤ (yb (fun x y => x - x / y * y) v 100) ∧ (yb (fun x y => x - x / y * y) v 100) < g 1 1) ∧ (yb (fun x y => x / y) v 100) ≠ (yb (fun x y => x - x / y * y) v 100) ∧ 0 ≤ h ∧ h ≤ 1 ∧ g (50 + Int.toNat (yb (fun x y => x / y) v 100)) 0 = g (50 + Int.toNat (yb (fun x y => x - x / y * y) v 100)) 0) → (r = 1 ∧ yPs g h (Int.toNat (yb (fun x y => x / y) v 100)) (Int.toNat (yb (fun x y => x - x / y * y) v 100))) ∨ (r = 0 ∧ ¬ yPs g h (Int.toNat (yb (fun x y => x / y) v 100)) (Int.toNat (yb (fun x y => x - x / y * y) v 100)))) → (-2147483648 ≤ v ∧ v ≤ 2147483647) → K [(1, r)] g)
def yC_CPD : yC := (25, (3, 85), yP_CPD)
set_option maxRecDepth 8000 in
theorem yv_CPD {K : List yV → yM → Prop} {Y : yNx} {g : yM} {v h : Int} (hY : yCl zpD25 (zpZ, zpRS, zpP0, zpMT, [yC_HC, yC_W, yC_PSS], (3, 85), 1) K Y) (hr_v : -2147483648 ≤ v ∧ v ≤ 2147483647) (hr_h : -2147483648 ≤ h ∧ h ≤ 2147483647) (hp0 : 0 ≤ g 1 1 ∧ g 1 1 ≤ 40) (hK : ∀ (r : Int), (¬ ((0 ≤ (yb (fun x y => x / y) v 100) ∧ (yb (fun x y => x / y) v 100) < g 1 1) ∧ (0 ≤ (yb (fun x y => x - x / y * y) v 100) ∧ (yb (fun x y => x - x / y * y) v 100) < g 1 1) ∧ (yb (fun x y => x / y) v 100) ≠ (yb (fun x y => x - x / y * y) v 100) ∧ 0 ≤ h ∧ h ≤ 1 ∧ g (50 + Int.toNat (yb (fun x y => x / y) v 100)) 0 = g (50 + Int.toNat (yb (fun x y => x - x / y * y) v 100)) 0) → r = -1) → (((0 ≤ (yb (fun x y => x / y) v 100) ∧ (yb (fun x y => x / y) v 100) < g 1 1) ∧ (0 ≤ (yb (fun x y => x - x / y * y) v 100) ∧ (yb (fun x y => x - x / y * y) v 100) < g 1 1) ∧ (yb (fun x y => x / y) v 100) ≠ (yb (fun x y => x - x / y * y) v 100) ∧ 0 ≤ h ∧ h ≤ 1 ∧ g (50 + Int.toNat (yb (fun x y => x / y) v 100)) 0 = g (50 + Int.toNat (yb (fun x y => x - x / y * y) v 100)) 0) → (r = 1 ∧ yPs g h (Int.toNat (yb (fun x y => x / y) v 100)) (Int.toNat (yb (fun x y => x - x / y * y) v 100))) ∨ (r = 0 ∧ ¬ yPs g h (Int.toNat (yb (fun x y => x / y) v 100)) (Int.toNat (yb (fun x y => x - x / y * y) v 100)))) → (-2147483648 ≤ v ∧ v ≤ 2147483647) → K [(1, r)] g) : Y 0 [(3, 0), (1, v), (1, h), (0, 0), (0, 0), (0, 0), (0, 0)] [] g := by
  refine yrun_ok (sp := fun pc => false) hY 52 0 _ [] g ?_
  show ((100 : Int) ≠ 0 ∧ ((100 : Int) ≠ 0 ∧ (∃ (w1 : Int), [(3, 1), (1, (yb (fun x y => x / y) v 100))] = [(3, 1), (1, w1)] ∧ (∀ (r2 : Int), ((r2 = 1 ∧ 0 ≤ w1 ∧ w1 < g 1 1) ∨ (r2 = 0 ∧ (w1 < 0 ∨ g 1 1 ≤ w1))) → ((r2 = 0 → (K [(1, (-1))] g)) ∧ (¬ (r2 = 0) → (∃ (w5 : Int), [(3, 1), (1, (yb (fun x y => x - x / y * y) v 100))] = [(3, 1), (1, w5)] ∧ (∀ (r6 : Int), ((r6 = 1 ∧ 0 ≤ w5 ∧ w5 < g 1 1) ∨ (r6 = 0 ∧ (w5 < 0 ∨ g 1 1 ≤ w5))) → ((r6 = 0 → (K [(1, (-1))] g)) ∧ (¬ (r6 = 0) → (((yb (fun x y => x / y) v 100) = (yb (fun x y => x - x / y * y) v 100) → (K [(1, (-1))] g)) ∧ (¬ ((yb (fun x y => x / y) v 100) = (yb (fun x y => x - x / y * y) v 100)) → (∃ (v10 b11 : Int), [(1, h), (1, 2)] = [(1, v10), (1, b11)] ∧ (∀ (r12 : Int), ((r12 = 1 ∧ 0 ≤ v10 ∧ v10 < b11) ∨ (r12 = 0 ∧ (v10 < 0 ∨ b11 ≤ v10))) → ((r12 ≠ 0 → (((0 : Int) ≤ (yb (fun x y => x / y) v 100) ∧ (yb (fun x y => x / y) v 100) < ((40 : Nat) : Int)) ∧ (((0 : Int) ≤ (yb (fun x y => x - x / y * y) v 100) ∧ (yb (fun x y => x - x / y * y) v 100) < ((40 : Nat) : Int)) ∧ (((g (50 + Int.toNat (yb (fun x y => x / y) v 100)) 0) = (g (50 + Int.toNat (yb (fun x y => x - x / y * y) v 100)) 0) → (∃ (a16 b17 h18 : Int), [(3, 5), (141, (yb (fun x y => x / y) v 100)), (141, (yb (fun x y => x - x / y * y) v 100)), (1, h)] = [(3, 5), (141, a16), (141, b17), (1, h18)] ∧ (0 ≤ a16 ∧ a16 < 40) ∧ (0 ≤ b17 ∧ b17 < 40) ∧ (∀ (r19 : Int), ((r19 = 1 ∧ yPs g h18 (Int.toNat a16) (Int.toNat b17)) ∨ (r19 = 0 ∧ ¬ yPs g h18 (Int.toNat a16) (Int.toNat b17))) → ((r19 = 0 → (K [(1, 0)] g)) ∧ (¬ (r19 = 0) → (K [(1, 1)] g)))))) ∧ (¬ ((g (50 + Int.toNat (yb (fun x y => x / y) v 100)) 0) = (g (50 + Int.toNat (yb (fun x y => x - x / y * y) v 100)) 0)) → (K [(1, (-1))] g)))))) ∧ (¬ (r12 ≠ 0) → (K [(1, (-1))] g)))))))))))))))))
  refine ⟨(by have q1 := yb_rng (fun x y => x / y) v 100; have q2 := yb_rng (fun x y => x - x / y * y) v 100; omega), ?_⟩
  refine ⟨(by have q1 := yb_rng (fun x y => x / y) v 100; have q2 := yb_rng (fun x y => x - x / y * y) v 100; omega), ?_⟩
  refine ⟨_, rfl, ?_⟩
  intro r2 p30
  refine ⟨fun h4 => ?_, fun h4 => ?_⟩
  · have q1 := yb_rng (fun x y => x / y) v 100
    have q2 := yb_rng (fun x y => x - x / y * y) v 100
    exact hK _ (fun _ => rfl) (fun h => absurd h (by omega)) hr_v
  · refine ⟨_, rfl, ?_⟩
    intro r6 p70
    refine ⟨fun h8 => ?_, fun h8 => ?_⟩
    · have q1 := yb_rng (fun x y => x / y) v 100
      have q2 := yb_rng (fun x y => x - x / y * y) v 100
      exact hK _ (fun _ => rfl) (fun h => absurd h (by omega)) hr_v
    · refine ⟨fun h9 => ?_, fun h9 => ?_⟩
      · have q1 := yb_rng (fun x y => x / y) v 100
        have q2 := yb_rng (fun x y => x - x / y * y) v 100
        exact hK _ (fun _ => rfl) (fun h => absurd h (by omega)) hr_v
      · refine ⟨_, _, rfl, ?_⟩
        intro r12 p130
        refine ⟨fun h14 => ?_, fun h14 => ?_⟩
        · refine ⟨(by have q1 := yb_rng (fun x y => x / y) v 100; have q2 := yb_rng (fun x y => x - x / y * y) v 100; omega), ?_⟩
          refine ⟨(by have q1 := yb_rng (fun x y => x / y) v 100; have q2 := yb_rng (fun x y => x - x / y * y) v 100; omega), ?_⟩
          refine ⟨fun h15 => ?_, fun h15 => ?_⟩
          · refine ⟨_, _, _, rfl, (by have q1 := yb_rng (fun x y => x / y) v 100; have q2 := yb_rng (fun x y => x - x / y * y) v 100; omega), (by have q1 := yb_rng (fun x y => x / y) v 100; have q2 := yb_rng (fun x y => x - x / y * y) v 100; omega), ?_⟩
            intro r19 p200
            refine ⟨fun h21 => ?_, fun h21 => ?_⟩
            · have q1 := yb_rng (fun x y => x / y) v 100
              have q2 := yb_rng (fun x y => x - x / y * y) v 100
              rcases p200 with ⟨q8, q9⟩ | ⟨q8, q9⟩
              · first
                | omega
                | exact hK _ (fun h => absurd (by omega) h) (fun _ => Or.inr ⟨rfl, absurd q8 (by omega)⟩) hr_v
              · first
                | omega
                | exact hK _ (fun h => absurd (by omega) h) (fun _ => Or.inr ⟨rfl, q9⟩) hr_v
            · have q1 := yb_rng (fun x y => x / y) v 100
              have q2 := yb_rng (fun x y => x - x / y * y) v 100
              rcases p200 with ⟨q8, q9⟩ | ⟨q8, q9⟩
              · first
                | omega
                | exact hK _ (fun h => absurd (by omega) h) (fun _ => Or.inl ⟨rfl, q9⟩) hr_v
              · first
                | omega
                | exact hK _ (fun h => absurd (by omega) h) (fun _ => Or.inl ⟨rfl, absurd q8 (by omega)⟩) hr_v
          · have q1 := yb_rng (fun x y => x / y) v 100
            have q2 := yb_rng (fun x y => x - x / y * y) v 100
            exact hK _ (fun _ => rfl) (fun h => absurd h (by omega)) hr_v
        · have q1 := yb_rng (fun x y => x / y) v 100
          have q2 := yb_rng (fun x y => x - x / y * y) v 100
          exact hK _ (fun _ => rfl) (fun h => absurd h (by omega)) hr_v
theorem yM_CPD {l : Launch} {Ts : List Cond} {cl : List vw_C} {RO : zRO} (H : zHyp Ts cl RO) : yMet l Ts cl zpZ RO zpMT yC_CPD := ymet_of2 H.1 H.2.1 zpDj H.2.2.1 yRb H.p0 (ymets_cons (yM_HC H) (ymets_cons (yM_W H) (ymets_cons (yM_PSS H) ymets_nil))) (zrc1 rfl) (plainFor_of_name zpy0) zpDk25 (fun as g K Y h hA hY => by
  obtain ⟨v, h, rfl, hp0, hK⟩ := h
  exact yv_CPD hY (yAr1 hA (by simp)) (yAr1 hA (by simp)) hp0 hK)
def yP_PON : yPT := fun as g K => ∃ (t h : Int), as = [(3, 5), (1, t), (1, h)] ∧ (0 ≤ g 1 1 ∧ g 1 1 ≤ 40) ∧ (∀ (r : Int), (yDu (fun p q => g (50 + p) 0 = t ∧ yPs g h p q) (Int.toNat (g 1 1)) (Int.toNat (g 1 1)) r) → K [(1, r)] g)
def yC_PON : yC := (66, (3, 85), yP_PON)
set_option maxRecDepth 8000 in
theorem yl_PONj {K : List yV → yM → Prop} {Y : yNx} {g : yM} {t h o e : Int} (hY : yCl zpD66 (zpZ, zpRS, zpP5, zpMT, [yC_PSS], (3, 85), 1) K Y) (hq0 : 0 ≤ g 1 1 ∧ g 1 1 ≤ 40) (hq1 : 0 ≤ o ∧ o < 40) (hK : ∀ (v : Int), ySu (fun q => g (50 + Int.toNat o) 0 = t ∧ yPs g h (Int.toNat o) q) (fun _ => 1) e (Int.toNat (g 1 1)) v → Y 86 [(3, 5), (1, t), (1, h), (1, v), (1, o), (1, g 1 1)] [] g) : ∀ (n : Nat) (i : Int), i + n = g 1 1 → 0 ≤ i → ∀ (u : Int), ySu (fun q => g (50 + Int.toNat o) 0 = t ∧ yPs g h (Int.toNat o) q) (fun _ => 1) e (Int.toNat i) u → Y 20 [(3, 5), (1, t), (1, h), (1, u), (1, o), (1, i)] [] g := by
  intro n
  induction n with
  | zero =>
    intro i hd h0 u  hu
    refine yrun_ok (sp := fun pc => Nat.beq pc 20 || Nat.beq pc 86) hY 31 20 _ [] g ?_
    show (((g 1 1) ≤ i → (Y 86 [(3, 5), (1, t), (1, h), (1, u), (1, o), (1, i)] [] g)) ∧ (¬ ((g 1 1) ≤ i) → (((0 : Int) ≤ o ∧ o < ((40 : Nat) : Int)) ∧ (((g (50 + Int.toNat o) 0) ≠ t → (Y 20 [(3, 5), (1, t), (1, h), (1, u), (1, o), (1, (yw (i + 1)))] [] g)) ∧ (¬ ((g (50 + Int.toNat o) 0) ≠ t) → (((0 : Int) ≤ o ∧ o < ((40 : Nat) : Int)) ∧ (((0 : Int) ≤ i ∧ i < ((40 : Nat) : Int)) ∧ (∃ (a3 b4 h5 : Int), [(3, 5), (141, o), (141, i), (1, h)] = [(3, 5), (141, a3), (141, b4), (1, h5)] ∧ (0 ≤ a3 ∧ a3 < 40) ∧ (0 ≤ b4 ∧ b4 < 40) ∧ (∀ (r6 : Int), ((r6 = 1 ∧ yPs g h5 (Int.toNat a3) (Int.toNat b4)) ∨ (r6 = 0 ∧ ¬ yPs g h5 (Int.toNat a3) (Int.toNat b4))) → ((r6 = 0 → (Y 20 [(3, 5), (1, t), (1, h), (1, u), (1, o), (1, (yw (i + 1)))] [] g)) ∧ (¬ (r6 = 0) → (Y 20 [(3, 5), (1, t), (1, h), (1, (yw (u + 1))), (1, o), (1, (yw (i + 1)))] [] g))))))))))))
    refine ⟨fun h1 => ?_, fun h1 => ?_⟩
    · obtain rfl : i = g 1 1 := by omega
      exact hK u  hu
    · refine ⟨(by omega), ?_⟩
      refine ⟨fun h2 => ?_, fun h2 => ?_⟩
      · omega
      · refine ⟨(by omega), ?_⟩
        refine ⟨(by omega), ?_⟩
        refine ⟨_, _, _, rfl, (by omega), (by omega), ?_⟩
        intro r6 p70
        refine ⟨fun h8 => ?_, fun h8 => ?_⟩
        · omega
        · omega
  | succ n ih =>
    intro i hd h0 u  hu
    refine yrun_ok (sp := fun pc => Nat.beq pc 20 || Nat.beq pc 86) hY 31 20 _ [] g ?_
    show (((g 1 1) ≤ i → (Y 86 [(3, 5), (1, t), (1, h), (1, u), (1, o), (1, i)] [] g)) ∧ (¬ ((g 1 1) ≤ i) → (((0 : Int) ≤ o ∧ o < ((40 : Nat) : Int)) ∧ (((g (50 + Int.toNat o) 0) ≠ t → (Y 20 [(3, 5), (1, t), (1, h), (1, u), (1, o), (1, (yw (i + 1)))] [] g)) ∧ (¬ ((g (50 + Int.toNat o) 0) ≠ t) → (((0 : Int) ≤ o ∧ o < ((40 : Nat) : Int)) ∧ (((0 : Int) ≤ i ∧ i < ((40 : Nat) : Int)) ∧ (∃ (a3 b4 h5 : Int), [(3, 5), (141, o), (141, i), (1, h)] = [(3, 5), (141, a3), (141, b4), (1, h5)] ∧ (0 ≤ a3 ∧ a3 < 40) ∧ (0 ≤ b4 ∧ b4 < 40) ∧ (∀ (r6 : Int), ((r6 = 1 ∧ yPs g h5 (Int.toNat a3) (Int.toNat b4)) ∨ (r6 = 0 ∧ ¬ yPs g h5 (Int.toNat a3) (Int.toNat b4))) → ((r6 = 0 → (Y 20 [(3, 5), (1, t), (1, h), (1, u), (1, o), (1, (yw (i + 1)))] [] g)) ∧ (¬ (r6 = 0) → (Y 20 [(3, 5), (1, t), (1, h), (1, (yw (u + 1))), (1, o), (1, (yw (i + 1)))] [] g))))))))))))
    refine ⟨fun h1 => ?_, fun h1 => ?_⟩
    · omega
    · refine ⟨(by omega), ?_⟩
      refine ⟨fun h2 => ?_, fun h2 => ?_⟩
      · have yi : yw (i + 1) = i + 1 := yw_s (i + 1) (by omega) (by omega)
        rw [yi]
        refine ih (i + 1) (by omega) (by omega) _  ?_
        rw [show Int.toNat (i + 1) = Int.toNat i + 1 by omega]
        exact ySu_0 hu (fun z => by have z1 := z.1; omega)
      · refine ⟨(by omega), ?_⟩
        refine ⟨(by omega), ?_⟩
        refine ⟨_, _, _, rfl, (by omega), (by omega), ?_⟩
        intro r6 p70
        refine ⟨fun h8 => ?_, fun h8 => ?_⟩
        · rcases p70 with ⟨q1, q2⟩ | ⟨q1, q2⟩
          · omega
          · have yi : yw (i + 1) = i + 1 := yw_s (i + 1) (by omega) (by omega)
            rw [yi]
            refine ih (i + 1) (by omega) (by omega) _  ?_
            rw [show Int.toNat (i + 1) = Int.toNat i + 1 by omega]
            exact ySu_0 hu (fun z => q2 z.2)
        · rcases p70 with ⟨q1, q2⟩ | ⟨q1, q2⟩
          · have yi : yw (i + 1) = i + 1 := yw_s (i + 1) (by omega) (by omega)
            rw [yi]
            refine ih (i + 1) (by omega) (by omega) _  ?_
            rw [show Int.toNat (i + 1) = Int.toNat i + 1 by omega]
            exact ySu_1 hu (⟨by omega, q2⟩) rfl
          · omega
set_option maxRecDepth 8000 in
theorem yt_PON {K : List yV → yM → Prop} {Y : yNx} {g : yM} {t h u o : Int} {z : yV} (hY : yCl zpD66 (zpZ, zpRS, zpP5, zpMT, [yC_PSS], (3, 85), 1) K Y) (hq1 : 0 ≤ o ∧ o < 40) (hE : Y 5 [(3, 5), (1, t), (1, h), (1, u), (1, o + 1), z] [] g) : Y 86 [(3, 5), (1, t), (1, h), (1, u), (1, o), z] [] g := by
  refine yrun_ok (sp := fun pc => Nat.beq pc 5) hY 3 86 _ [] g ?_
  show (Y 5 [(3, 5), (1, t), (1, h), (1, u), (1, (yw (o + 1))), z] [] g)
  rw [show yw (o + 1) = o + 1 from yw_s (o + 1) (by omega) (by omega)]
  exact hE
set_option maxRecDepth 8000 in
theorem yl_PON {K : List yV → yM → Prop} {Y : yNx} {g : yM} {t h : Int} (hY : yCl zpD66 (zpZ, zpRS, zpP5, zpMT, [yC_PSS], (3, 85), 1) K Y) (hq0 : 0 ≤ g 1 1 ∧ g 1 1 ≤ 40) (hK : ∀ v : Int, yDu (fun p q => g (50 + p) 0 = t ∧ yPs g h p q) (Int.toNat (g 1 1)) (Int.toNat (g 1 1)) v → K [(1, v)] g) : ∀ (n : Nat) (i : Int), i + n = g 1 1 → 0 ≤ i → ∀ (u : Int) (w5 : yV), yDu (fun p q => g (50 + p) 0 = t ∧ yPs g h p q) (Int.toNat (g 1 1)) (Int.toNat i) u → Y 5 [(3, 5), (1, t), (1, h), (1, u), (1, i), w5] [] g := by
  intro n
  induction n with
  | zero =>
    intro i hd h0 u w5 hu
    refine yrun_ok (sp := fun pc => Nat.beq pc 5 || Nat.beq pc 20) hY 8 5 _ [] g ?_
    show (((g 1 1) ≤ i → (K [(1, u)] g)) ∧ (¬ ((g 1 1) ≤ i) → (Y 20 [(3, 5), (1, t), (1, h), (1, u), (1, i), (1, 0)] [] g)))
    refine ⟨fun h1 => ?_, fun h1 => ?_⟩
    · obtain rfl : i = g 1 1 := by omega
      exact hK u hu
    · omega
  | succ n ih =>
    intro i hd h0 u w5 hu
    refine yrun_ok (sp := fun pc => Nat.beq pc 5 || Nat.beq pc 20) hY 8 5 _ [] g ?_
    show (((g 1 1) ≤ i → (K [(1, u)] g)) ∧ (¬ ((g 1 1) ≤ i) → (Y 20 [(3, 5), (1, t), (1, h), (1, u), (1, i), (1, 0)] [] g)))
    refine ⟨fun h1 => ?_, fun h1 => ?_⟩
    · omega
    · refine yl_PONj (e := u) hY hq0 ⟨h0, by omega⟩ (fun v hv => yt_PON hY ⟨h0, by omega⟩ (ih (i + 1) (by omega) (by omega) v _ ?_)) (Int.toNat (g 1 1)) 0 (by omega) (by decide) u rfl
      rw [show Int.toNat (i + 1) = Int.toNat i + 1 by omega]
      exact ⟨u, hu, hv⟩
set_option maxRecDepth 8000 in
theorem yv_PON {K : List yV → yM → Prop} {Y : yNx} {g : yM} {t h : Int} (hY : yCl zpD66 (zpZ, zpRS, zpP5, zpMT, [yC_PSS], (3, 85), 1) K Y) (hr_t : -2147483648 ≤ t ∧ t ≤ 2147483647) (hr_h : -2147483648 ≤ h ∧ h ≤ 2147483647) (hp0 : 0 ≤ g 1 1 ∧ g 1 1 ≤ 40) (hK : ∀ (r : Int), (yDu (fun p q => g (50 + p) 0 = t ∧ yPs g h p q) (Int.toNat (g 1 1)) (Int.toNat (g 1 1)) r) → K [(1, r)] g) : Y 0 [(3, 5), (1, t), (1, h), (0, 0), (0, 0), (0, 0)] [] g := by
  refine yrun_ok (sp := fun pc => Nat.beq pc 5) hY 5 0 _ [] g ?_
  show (Y 5 [(3, 5), (1, t), (1, h), (1, 0), (1, 0), (0, 0)] [] g)
  exact yl_PON hY hp0 (fun v hv => hK v hv) (Int.toNat (g 1 1)) 0 (by omega) (by decide) 0 _ rfl
theorem yM_PON {l : Launch} {Ts : List Cond} {cl : List vw_C} {RO : zRO} (H : zHyp Ts cl RO) : yMet l Ts cl zpZ RO zpMT yC_PON := ymet_of2 H.1 H.2.1 zpDj H.2.2.1 yRb H.p5 (ymets_cons (yM_PSS H) ymets_nil) (zrc1 rfl) (plainFor_of_name zpy5) zpDk66 (fun as g K Y h hA hY => by
  obtain ⟨t, h, rfl, hp0, hK⟩ := h
  exact yv_PON hY (yAr1 hA (by simp)) (yAr1 hA (by simp)) hp0 hK)
def yP_CPR : yPT := fun as g K => ∃ (t h : Int), as = [(3, 0), (1, t), (1, h)] ∧ (0 ≤ g 1 1 ∧ g 1 1 ≤ 40) ∧ (∀ (r : Int), (¬ (0 ≤ t ∧ t < 4 ∧ 0 ≤ h ∧ h < 2) → r = -1) → ((0 ≤ t ∧ t < 4 ∧ 0 ≤ h ∧ h < 2) → yDu (fun p q => g (50 + p) 0 = t ∧ yPs g h p q) (Int.toNat (g 1 1)) (Int.toNat (g 1 1)) r) → K [(1, r)] g)
def yC_CPR : yC := (24, (4, 110), yP_CPR)
set_option maxRecDepth 8000 in
theorem yv_CPR {K : List yV → yM → Prop} {Y : yNx} {g : yM} {t h : Int} (hY : yCl zpD24 (zpZ, zpRS, zpP0, zpMT, [yC_W, yC_PON], (4, 110), 1) K Y) (hr_t : -2147483648 ≤ t ∧ t ≤ 2147483647) (hr_h : -2147483648 ≤ h ∧ h ≤ 2147483647) (hp0 : 0 ≤ g 1 1 ∧ g 1 1 ≤ 40) (hK : ∀ (r : Int), (¬ (0 ≤ t ∧ t < 4 ∧ 0 ≤ h ∧ h < 2) → r = -1) → ((0 ≤ t ∧ t < 4 ∧ 0 ≤ h ∧ h < 2) → yDu (fun p q => g (50 + p) 0 = t ∧ yPs g h p q) (Int.toNat (g 1 1)) (Int.toNat (g 1 1)) r) → K [(1, r)] g) : Y 0 [(3, 0), (1, t), (1, h)] [] g := by
  refine yrun_ok (sp := fun pc => false) hY 14 0 _ [] g ?_
  show (∃ (v1 b2 : Int), [(1, t), (1, 4)] = [(1, v1), (1, b2)] ∧ (∀ (r3 : Int), ((r3 = 1 ∧ 0 ≤ v1 ∧ v1 < b2) ∨ (r3 = 0 ∧ (v1 < 0 ∨ b2 ≤ v1))) → ((r3 = 0 → (K [(1, (-1))] g)) ∧ (¬ (r3 = 0) → (∃ (v6 b7 : Int), [(1, h), (1, 2)] = [(1, v6), (1, b7)] ∧ (∀ (r8 : Int), ((r8 = 1 ∧ 0 ≤ v6 ∧ v6 < b7) ∨ (r8 = 0 ∧ (v6 < 0 ∨ b7 ≤ v6))) → ((r8 ≠ 0 → (∃ (t11 h12 : Int), [(3, 5), (1, t), (1, h)] = [(3, 5), (1, t11), (1, h12)] ∧ (0 ≤ g 1 1 ∧ g 1 1 ≤ 40) ∧ (∀ (r13 : Int), (yDu (fun p q => g (50 + p) 0 = t11 ∧ yPs g h12 p q) (Int.toNat (g 1 1)) (Int.toNat (g 1 1)) r13) → (K [(1, r13)] g)))) ∧ (¬ (r8 ≠ 0) → (K [(1, (-1))] g)))))))))
  refine ⟨_, _, rfl, ?_⟩
  intro r3 p40
  refine ⟨fun h5 => ?_, fun h5 => ?_⟩
  · exact hK _ (fun _ => rfl) (fun h => absurd h (by omega))
  · refine ⟨_, _, rfl, ?_⟩
    intro r8 p90
    refine ⟨fun h10 => ?_, fun h10 => ?_⟩
    · refine ⟨_, _, rfl, (by omega), ?_⟩
      intro r13 p140
      exact hK _ (fun h => absurd (by omega) h) (fun _ => p140)
    · exact hK _ (fun _ => rfl) (fun h => absurd h (by omega))
theorem yM_CPR {l : Launch} {Ts : List Cond} {cl : List vw_C} {RO : zRO} (H : zHyp Ts cl RO) : yMet l Ts cl zpZ RO zpMT yC_CPR := ymet_of2 H.1 H.2.1 zpDj H.2.2.1 yRb H.p0 (ymets_cons (yM_W H) (ymets_cons (yM_PON H) ymets_nil)) (zrc1 rfl) (plainFor_of_name zpy0) zpDk24 (fun as g K Y h hA hY => by
  obtain ⟨t, h, rfl, hp0, hK⟩ := h
  exact yv_CPR hY (yAr1 hA (by simp)) (yAr1 hA (by simp)) hp0 hK)
def yP_FMT : yPT := fun as g K => ∃ (t : Int), as = [(3, 5), (1, t)] ∧ (0 ≤ g 1 1 ∧ g 1 1 ≤ 40) ∧ (∀ (r : Int), (yFst (yMs g t) (g 1 1) r) → K [(1, r)] g)
def yC_FMT : yC := (61, (3, 81), yP_FMT)
set_option maxRecDepth 8000 in
theorem yl_FMT {K : List yV → yM → Prop} {Y : yNx} {g : yM} {t : Int} (hY : yCl zpD61 (zpZ, zpRS, zpP5, zpMT, [yC_IST], (3, 81), 1) K Y) (hq0 : 0 ≤ g 1 1 ∧ g 1 1 ≤ 40) (hK : ∀ v : Int, yFst (yMs g t) (g 1 1) v → K [(1, v)] g) : ∀ (n : Nat) (i : Int), i + n = g 1 1 → 0 ≤ i → ∀ (w3 : yV), (∀ j : Nat, (j : Int) < i → ¬ (yMs g t) j) → Y 2 [(3, 5), (1, t), (1, i), w3] [] g := by
  intro n
  induction n with
  | zero =>
    intro i hd h0 w3 hu
    refine yrun_ok (sp := fun pc => Nat.beq pc 2) hY 27 2 _ [] g ?_
    show (((g 1 1) ≤ i → (K [(1, (-2))] g)) ∧ (¬ ((g 1 1) ≤ i) → (((0 : Int) ≤ i ∧ i < ((40 : Nat) : Int)) ∧ (((g (50 + Int.toNat i) 0) ≠ t → (Y 2 [(3, 5), (1, t), (1, (yw (i + 1))), (141, i)] [] g)) ∧ (¬ ((g (50 + Int.toNat i) 0) ≠ t) → (((g (50 + Int.toNat i) 8) = (-1) → (Y 2 [(3, 5), (1, t), (1, (yw (i + 1))), (141, i)] [] g)) ∧ (¬ ((g (50 + Int.toNat i) 8) = (-1)) → (∃ (w4 t5 : Int), [(141, i), (1, (g (50 + Int.toNat i) 8))] = [(141, w4), (1, t5)] ∧ (0 ≤ w4 ∧ w4 < 40) ∧ (∀ (r6 : Int), ((r6 = 1 ∧ (g (50 + Int.toNat w4) 10 ≠ -2 ∧ g (50 + Int.toNat w4) 10 ≤ t5 ∧ t5 ≤ g (50 + Int.toNat w4) 11)) ∨ (r6 = 0 ∧ ¬ (g (50 + Int.toNat w4) 10 ≠ -2 ∧ g (50 + Int.toNat w4) 10 ≤ t5 ∧ t5 ≤ g (50 + Int.toNat w4) 11))) → ((r6 ≠ 0 → (Y 2 [(3, 5), (1, t), (1, (yw (i + 1))), (141, i)] [] g)) ∧ (¬ (r6 ≠ 0) → (K [(1, i)] g))))))))))))
    refine ⟨fun h1 => ?_, fun h1 => ?_⟩
    · obtain rfl : i = g 1 1 := by omega
      exact hK _ (Or.inr ⟨rfl, hu⟩)
    · refine ⟨(by omega), ?_⟩
      refine ⟨fun h2 => ?_, fun h2 => ?_⟩
      · omega
      · refine ⟨fun h3 => ?_, fun h3 => ?_⟩
        · omega
        · refine ⟨_, _, rfl, (by omega), ?_⟩
          intro r6 p70
          refine ⟨fun h8 => ?_, fun h8 => ?_⟩
          · omega
          · omega
  | succ n ih =>
    intro i hd h0 w3 hu
    refine yrun_ok (sp := fun pc => Nat.beq pc 2) hY 27 2 _ [] g ?_
    show (((g 1 1) ≤ i → (K [(1, (-2))] g)) ∧ (¬ ((g 1 1) ≤ i) → (((0 : Int) ≤ i ∧ i < ((40 : Nat) : Int)) ∧ (((g (50 + Int.toNat i) 0) ≠ t → (Y 2 [(3, 5), (1, t), (1, (yw (i + 1))), (141, i)] [] g)) ∧ (¬ ((g (50 + Int.toNat i) 0) ≠ t) → (((g (50 + Int.toNat i) 8) = (-1) → (Y 2 [(3, 5), (1, t), (1, (yw (i + 1))), (141, i)] [] g)) ∧ (¬ ((g (50 + Int.toNat i) 8) = (-1)) → (∃ (w4 t5 : Int), [(141, i), (1, (g (50 + Int.toNat i) 8))] = [(141, w4), (1, t5)] ∧ (0 ≤ w4 ∧ w4 < 40) ∧ (∀ (r6 : Int), ((r6 = 1 ∧ (g (50 + Int.toNat w4) 10 ≠ -2 ∧ g (50 + Int.toNat w4) 10 ≤ t5 ∧ t5 ≤ g (50 + Int.toNat w4) 11)) ∨ (r6 = 0 ∧ ¬ (g (50 + Int.toNat w4) 10 ≠ -2 ∧ g (50 + Int.toNat w4) 10 ≤ t5 ∧ t5 ≤ g (50 + Int.toNat w4) 11))) → ((r6 ≠ 0 → (Y 2 [(3, 5), (1, t), (1, (yw (i + 1))), (141, i)] [] g)) ∧ (¬ (r6 ≠ 0) → (K [(1, i)] g))))))))))))
    refine ⟨fun h1 => ?_, fun h1 => ?_⟩
    · omega
    · refine ⟨(by omega), ?_⟩
      refine ⟨fun h2 => ?_, fun h2 => ?_⟩
      · have yi : yw (i + 1) = i + 1 := yw_s (i + 1) (by omega) (by omega)
        rw [yi]
        refine ih (i + 1) (by omega) (by omega) (141, i) (fun j hj => ?_)
        by_cases hji : (j : Int) < i
        · exact hu j hji
        · obtain rfl : j = Int.toNat i := by omega
          exact fun z => by unfold yMs at z; omega
      · refine ⟨fun h3 => ?_, fun h3 => ?_⟩
        · have yi : yw (i + 1) = i + 1 := yw_s (i + 1) (by omega) (by omega)
          rw [yi]
          refine ih (i + 1) (by omega) (by omega) (141, i) (fun j hj => ?_)
          by_cases hji : (j : Int) < i
          · exact hu j hji
          · obtain rfl : j = Int.toNat i := by omega
            exact fun z => by unfold yMs at z; omega
        · refine ⟨_, _, rfl, (by omega), ?_⟩
          intro r6 p70
          refine ⟨fun h8 => ?_, fun h8 => ?_⟩
          · have yi : yw (i + 1) = i + 1 := yw_s (i + 1) (by omega) (by omega)
            rw [yi]
            refine ih (i + 1) (by omega) (by omega) (141, i) (fun j hj => ?_)
            by_cases hji : (j : Int) < i
            · exact hu j hji
            · obtain rfl : j = Int.toNat i := by omega
              exact fun z => by unfold yMs at z; omega
          · exact hK _ (Or.inl ⟨Int.toNat i, by omega, by omega, (by unfold yMs; omega), fun j hj => hu j (by omega)⟩)
set_option maxRecDepth 8000 in
theorem yv_FMT {K : List yV → yM → Prop} {Y : yNx} {g : yM} {t : Int} (hY : yCl zpD61 (zpZ, zpRS, zpP5, zpMT, [yC_IST], (3, 81), 1) K Y) (hr_t : -2147483648 ≤ t ∧ t ≤ 2147483647) (hp0 : 0 ≤ g 1 1 ∧ g 1 1 ≤ 40) (hK : ∀ (r : Int), (yFst (yMs g t) (g 1 1) r) → K [(1, r)] g) : Y 0 [(3, 5), (1, t), (0, 0), (0, 0)] [] g := by
  refine yrun_ok (sp := fun pc => Nat.beq pc 2) hY 3 0 _ [] g ?_
  show (Y 2 [(3, 5), (1, t), (1, 0), (0, 0)] [] g)
  exact yl_FMT hY hp0 (fun v hv => hK v hv) (Int.toNat (g 1 1)) 0 (by omega) (by decide) _ (fun j hj => absurd hj (by omega))
theorem yM_FMT {l : Launch} {Ts : List Cond} {cl : List vw_C} {RO : zRO} (H : zHyp Ts cl RO) : yMet l Ts cl zpZ RO zpMT yC_FMT := ymet_of2 H.1 H.2.1 zpDj H.2.2.1 yRb H.p5 (ymets_cons (yM_IST H) ymets_nil) (zrc1 rfl) (plainFor_of_name zpy5) zpDk61 (fun as g K Y h hA hY => by
  obtain ⟨t, rfl, hp0, hK⟩ := h
  exact yv_FMT hY (yAr1 hA (by simp)) hp0 hK)
def yP_CJU : yPT := fun as g K => ∃ (t h : Int), as = [(3, 0), (1, t), (1, h)] ∧ (0 ≤ g 1 1 ∧ g 1 1 ≤ 40) ∧ (∀ (r : Int), (¬ (0 ≤ t ∧ t < 4 ∧ 0 ≤ h ∧ h < 2) → r = -1) → ((0 ≤ t ∧ t < 4 ∧ 0 ≤ h ∧ h < 2) → h = 0 → yFst (yMs g t) (g 1 1) r) → ((0 ≤ t ∧ t < 4 ∧ 0 ≤ h ∧ h < 2) → h = 1 → yDu (fun p q => g (50 + p) 0 = t ∧ yPs g 2 p q) (Int.toNat (g 1 1)) (Int.toNat (g 1 1)) r) → K [(1, r)] g)
def yC_CJU : yC := (17, (4, 110), yP_CJU)
set_option maxRecDepth 8000 in
theorem yv_CJU {K : List yV → yM → Prop} {Y : yNx} {g : yM} {t h : Int} (hY : yCl zpD17 (zpZ, zpRS, zpP0, zpMT, [yC_W, yC_FMT, yC_PON], (4, 110), 1) K Y) (hr_t : -2147483648 ≤ t ∧ t ≤ 2147483647) (hr_h : -2147483648 ≤ h ∧ h ≤ 2147483647) (hp0 : 0 ≤ g 1 1 ∧ g 1 1 ≤ 40) (hK : ∀ (r : Int), (¬ (0 ≤ t ∧ t < 4 ∧ 0 ≤ h ∧ h < 2) → r = -1) → ((0 ≤ t ∧ t < 4 ∧ 0 ≤ h ∧ h < 2) → h = 0 → yFst (yMs g t) (g 1 1) r) → ((0 ≤ t ∧ t < 4 ∧ 0 ≤ h ∧ h < 2) → h = 1 → yDu (fun p q => g (50 + p) 0 = t ∧ yPs g 2 p q) (Int.toNat (g 1 1)) (Int.toNat (g 1 1)) r) → K [(1, r)] g) : Y 0 [(3, 0), (1, t), (1, h)] [] g := by
  refine yrun_ok (sp := fun pc => false) hY 16 0 _ [] g ?_
  show (∃ (v1 b2 : Int), [(1, t), (1, 4)] = [(1, v1), (1, b2)] ∧ (∀ (r3 : Int), ((r3 = 1 ∧ 0 ≤ v1 ∧ v1 < b2) ∨ (r3 = 0 ∧ (v1 < 0 ∨ b2 ≤ v1))) → ((r3 = 0 → (K [(1, (-1))] g)) ∧ (¬ (r3 = 0) → (∃ (v6 b7 : Int), [(1, h), (1, 2)] = [(1, v6), (1, b7)] ∧ (∀ (r8 : Int), ((r8 = 1 ∧ 0 ≤ v6 ∧ v6 < b7) ∨ (r8 = 0 ∧ (v6 < 0 ∨ b7 ≤ v6))) → ((r8 ≠ 0 → ((h ≠ 0 → (∃ (t12 h13 : Int), [(3, 5), (1, t), (1, 2)] = [(3, 5), (1, t12), (1, h13)] ∧ (0 ≤ g 1 1 ∧ g 1 1 ≤ 40) ∧ (∀ (r14 : Int), (yDu (fun p q => g (50 + p) 0 = t12 ∧ yPs g h13 p q) (Int.toNat (g 1 1)) (Int.toNat (g 1 1)) r14) → (K [(1, r14)] g)))) ∧ (¬ (h ≠ 0) → (∃ (t16 : Int), [(3, 5), (1, t)] = [(3, 5), (1, t16)] ∧ (0 ≤ g 1 1 ∧ g 1 1 ≤ 40) ∧ (∀ (r17 : Int), (yFst (yMs g t16) (g 1 1) r17) → (K [(1, r17)] g)))))) ∧ (¬ (r8 ≠ 0) → (K [(1, (-1))] g)))))))))
  refine ⟨_, _, rfl, ?_⟩
  intro r3 p40
  refine ⟨fun h5 => ?_, fun h5 => ?_⟩
  · exact hK _ (fun _ => rfl) (fun h => absurd h (by omega)) (fun h => absurd h (by omega))
  · refine ⟨_, _, rfl, ?_⟩
    intro r8 p90
    refine ⟨fun h10 => ?_, fun h10 => ?_⟩
    · refine ⟨fun h11 => ?_, fun h11 => ?_⟩
      · refine ⟨_, _, rfl, (by omega), ?_⟩
        intro r14 p150
        exact hK _ (fun h => absurd (by omega) h) (fun _ h => absurd h (by omega)) (fun _ _ => p150)
      · refine ⟨_, rfl, (by omega), ?_⟩
        intro r17 p180
        exact hK _ (fun h => absurd (by omega) h) (fun _ _ => p180) (fun _ h => absurd h (by omega))
    · exact hK _ (fun _ => rfl) (fun h => absurd h (by omega)) (fun h => absurd h (by omega))
theorem yM_CJU {l : Launch} {Ts : List Cond} {cl : List vw_C} {RO : zRO} (H : zHyp Ts cl RO) : yMet l Ts cl zpZ RO zpMT yC_CJU := ymet_of2 H.1 H.2.1 zpDj H.2.2.1 yRb H.p0 (ymets_cons (yM_W H) (ymets_cons (yM_FMT H) (ymets_cons (yM_PON H) ymets_nil))) (zrc1 rfl) (plainFor_of_name zpy0) zpDk17 (fun as g K Y h hA hY => by
  obtain ⟨t, h, rfl, hp0, hK⟩ := h
  exact yv_CJU hY (yAr1 hA (by simp)) (yAr1 hA (by simp)) hp0 hK)
def yP_PBY : yPT := fun as g K => ∃ (w : Int), as = [(3, 5), (141, w)] ∧ (0 ≤ g 1 1 ∧ g 1 1 ≤ 40) ∧ (0 ≤ w ∧ w < 40) ∧ (∀ (r : Int), (yBt (yPs g 2 (Int.toNat w)) (Int.toNat (g 1 1)) r) → K [(2, r)] g)
def yC_PBY : yC := (63, (3, 85), yP_PBY)
set_option maxRecDepth 8000 in
theorem yl_PBY {K : List yV → yM → Prop} {Y : yNx} {g : yM} {w : Int} (hY : yCl zpD63 (zpZ, zpRS, zpP5, zpMT, [yC_PSS], (3, 85), 3) K Y) (hq0 : 0 ≤ g 1 1 ∧ g 1 1 ≤ 40) (hq1 : 0 ≤ w ∧ w < 40) (hK : ∀ v : Int, yBt (yPs g 2 (Int.toNat w)) (Int.toNat (g 1 1)) v → K [(2, v)] g) : ∀ (n : Nat) (i : Int), i + n = g 1 1 → 0 ≤ i → ∀ u : Int, yBt (yPs g 2 (Int.toNat w)) (Int.toNat i) u → Y 5 [(3, 5), (141, w), (2, u), (0, 0), (1, i)] [] g := by
  intro n
  induction n with
  | zero =>
    intro i hd h0 u hu
    refine yrun_ok (sp := fun pc => Nat.beq pc 5) hY 24 5 _ [] g ?_
    show (((g 1 1) ≤ i → (K [(2, u)] g)) ∧ (¬ ((g 1 1) ≤ i) → (((0 : Int) ≤ i ∧ i < ((40 : Nat) : Int)) ∧ (∃ (a2 b3 h4 : Int), [(3, 5), (141, w), (141, i), (1, 2)] = [(3, 5), (141, a2), (141, b3), (1, h4)] ∧ (0 ≤ a2 ∧ a2 < 40) ∧ (0 ≤ b3 ∧ b3 < 40) ∧ (∀ (r5 : Int), ((r5 = 1 ∧ yPs g h4 (Int.toNat a2) (Int.toNat b3)) ∨ (r5 = 0 ∧ ¬ yPs g h4 (Int.toNat a2) (Int.toNat b3))) → ((r5 = 0 → (Y 5 [(3, 5), (141, w), (2, u), (0, 0), (1, (yw (i + 1)))] [] g)) ∧ (¬ (r5 = 0) → (Y 5 [(3, 5), (141, w), (2, (ybl (fun x y => x ||| y) u (ysh (fun x y => x <<< (y.toInt64 &&& 63)) 1 i))), (0, 0), (1, (yw (i + 1)))] [] g))))))))
    refine ⟨fun h1 => ?_, fun h1 => ?_⟩
    · obtain rfl : i = g 1 1 := by omega
      exact hK u hu
    · refine ⟨(by omega), ?_⟩
      refine ⟨_, _, _, rfl, (by omega), (by omega), ?_⟩
      intro r5 p60
      refine ⟨fun h7 => ?_, fun h7 => ?_⟩
      · omega
      · omega
  | succ n ih =>
    intro i hd h0 u hu
    refine yrun_ok (sp := fun pc => Nat.beq pc 5) hY 24 5 _ [] g ?_
    show (((g 1 1) ≤ i → (K [(2, u)] g)) ∧ (¬ ((g 1 1) ≤ i) → (((0 : Int) ≤ i ∧ i < ((40 : Nat) : Int)) ∧ (∃ (a2 b3 h4 : Int), [(3, 5), (141, w), (141, i), (1, 2)] = [(3, 5), (141, a2), (141, b3), (1, h4)] ∧ (0 ≤ a2 ∧ a2 < 40) ∧ (0 ≤ b3 ∧ b3 < 40) ∧ (∀ (r5 : Int), ((r5 = 1 ∧ yPs g h4 (Int.toNat a2) (Int.toNat b3)) ∨ (r5 = 0 ∧ ¬ yPs g h4 (Int.toNat a2) (Int.toNat b3))) → ((r5 = 0 → (Y 5 [(3, 5), (141, w), (2, u), (0, 0), (1, (yw (i + 1)))] [] g)) ∧ (¬ (r5 = 0) → (Y 5 [(3, 5), (141, w), (2, (ybl (fun x y => x ||| y) u (ysh (fun x y => x <<< (y.toInt64 &&& 63)) 1 i))), (0, 0), (1, (yw (i + 1)))] [] g))))))))
    refine ⟨fun h1 => ?_, fun h1 => ?_⟩
    · omega
    · refine ⟨(by omega), ?_⟩
      refine ⟨_, _, _, rfl, (by omega), (by omega), ?_⟩
      intro r5 p60
      refine ⟨fun h7 => ?_, fun h7 => ?_⟩
      · rcases p60 with ⟨q1, q2⟩ | ⟨q1, q2⟩
        · omega
        · have yi : yw (i + 1) = i + 1 := yw_s (i + 1) (by omega) (by omega)
          rw [yi]
          refine ih (i + 1) (by omega) (by omega) _ ?_
          rw [show Int.toNat (i + 1) = Int.toNat i + 1 by omega]
          exact yBt_0 hu q2
      · rcases p60 with ⟨q1, q2⟩ | ⟨q1, q2⟩
        · have yi : yw (i + 1) = i + 1 := yw_s (i + 1) (by omega) (by omega)
          rw [yi]
          refine ih (i + 1) (by omega) (by omega) _ ?_
          rw [show Int.toNat (i + 1) = Int.toNat i + 1 by omega]
          have h9 := yBt_1 hu q2
          rw [show ((Int.toNat i : Nat) : Int) = i by omega] at h9
          exact h9
        · omega
set_option maxRecDepth 8000 in
theorem yv_PBY {K : List yV → yM → Prop} {Y : yNx} {g : yM} {w : Int} (hY : yCl zpD63 (zpZ, zpRS, zpP5, zpMT, [yC_PSS], (3, 85), 3) K Y) (hp0 : 0 ≤ g 1 1 ∧ g 1 1 ≤ 40) (hp1 : 0 ≤ w ∧ w < 40) (hK : ∀ (r : Int), (yBt (yPs g 2 (Int.toNat w)) (Int.toNat (g 1 1)) r) → K [(2, r)] g) : Y 0 [(3, 5), (141, w), (0, 0), (0, 0), (0, 0)] [] g := by
  refine yrun_ok (sp := fun pc => Nat.beq pc 5) hY 5 0 _ [] g ?_
  show (Y 5 [(3, 5), (141, w), (2, 0), (0, 0), (1, 0)] [] g)
  exact yl_PBY hY hp0 hp1 (fun v hv => hK v hv) (Int.toNat (g 1 1)) 0 (by omega) (by decide) 0 rfl
theorem yM_PBY {l : Launch} {Ts : List Cond} {cl : List vw_C} {RO : zRO} (H : zHyp Ts cl RO) : yMet l Ts cl zpZ RO zpMT yC_PBY := ymet_of2 H.1 H.2.1 zpDj H.2.2.1 yRb H.p5 (ymets_cons (yM_PSS H) ymets_nil) (zrc3 rfl) (plainFor_of_name zpy5) zpDk63 (fun as g K Y h hA hY => by
  obtain ⟨w, rfl, hp0, hp1, hK⟩ := h
  exact yv_PBY hY  hp0 hp1 hK)
def yP_CWH : yPT := fun as g K => ∃ (w : Int), as = [(3, 0), (1, w)] ∧ (0 ≤ g 1 1 ∧ g 1 1 ≤ 40) ∧ (∀ (r : Int), (¬ (0 ≤ w ∧ w < g 1 1) → r = -1) → (0 ≤ w ∧ w < g 1 1 → yBt (yPs g 2 (Int.toNat w)) (Int.toNat (g 1 1)) r) → K [(2, r)] g)
def yC_CWH : yC := (38, (4, 109), yP_CWH)
set_option maxRecDepth 8000 in
theorem yv_CWH {K : List yV → yM → Prop} {Y : yNx} {g : yM} {w : Int} (hY : yCl zpD38 (zpZ, zpRS, zpP0, zpMT, [yC_HC, yC_PBY], (4, 109), 3) K Y) (hr_w : -2147483648 ≤ w ∧ w ≤ 2147483647) (hp0 : 0 ≤ g 1 1 ∧ g 1 1 ≤ 40) (hK : ∀ (r : Int), (¬ (0 ≤ w ∧ w < g 1 1) → r = -1) → (0 ≤ w ∧ w < g 1 1 → yBt (yPs g 2 (Int.toNat w)) (Int.toNat (g 1 1)) r) → K [(2, r)] g) : Y 0 [(3, 0), (1, w)] [] g := by
  refine yrun_ok (sp := fun pc => false) hY 15 0 _ [] g ?_
  show (∃ (w1 : Int), [(3, 1), (1, w)] = [(3, 1), (1, w1)] ∧ (∀ (r2 : Int), ((r2 = 1 ∧ 0 ≤ w1 ∧ w1 < g 1 1) ∨ (r2 = 0 ∧ (w1 < 0 ∨ g 1 1 ≤ w1))) → ((r2 = 0 → (K [(2, (-1))] g)) ∧ (¬ (r2 = 0) → (((0 : Int) ≤ w ∧ w < ((40 : Nat) : Int)) ∧ (∃ (w5 : Int), [(3, 5), (141, w)] = [(3, 5), (141, w5)] ∧ (0 ≤ g 1 1 ∧ g 1 1 ≤ 40) ∧ (0 ≤ w5 ∧ w5 < 40) ∧ (∀ (r6 : Int), (yBt (yPs g 2 (Int.toNat w5)) (Int.toNat (g 1 1)) r6) → (K [(2, r6)] g))))))))
  refine ⟨_, rfl, ?_⟩
  intro r2 p30
  refine ⟨fun h4 => ?_, fun h4 => ?_⟩
  · exact hK _ (fun _ => rfl) (fun h => absurd h (by omega))
  · refine ⟨(by omega), ?_⟩
    refine ⟨_, rfl, (by omega), (by omega), ?_⟩
    intro r6 p70
    exact hK _ (fun h => absurd (by omega) h) (fun _ => p70)
theorem yM_CWH {l : Launch} {Ts : List Cond} {cl : List vw_C} {RO : zRO} (H : zHyp Ts cl RO) : yMet l Ts cl zpZ RO zpMT yC_CWH := ymet_of2 H.1 H.2.1 zpDj H.2.2.1 yRb H.p0 (ymets_cons (yM_HC H) (ymets_cons (yM_PBY H) ymets_nil)) (zrc3 rfl) (plainFor_of_name zpy0) zpDk38 (fun as g K Y h hA hY => by
  obtain ⟨w, rfl, hp0, hK⟩ := h
  exact yv_CWH hY (yAr1 hA (by simp)) hp0 hK)
