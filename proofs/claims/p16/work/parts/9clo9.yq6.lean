/-! SELDOM -/
/-- the next seed; the place drawn; two changed; all drawn about; a sort's waits; how often as long -/
def yns (z : Int) : Int := yw (yw (z * 1103515245) + 12345)
def yjx (z i : Int) : Int := yb (fun x y => x - x / y * y) (yb (fun x y => (x.toUInt32 >>> (y.toUInt32 &&& Int32.toUInt32 31)).toInt32) z 8) (yw (i + 1))
theorem yu8 (z : Int) : 0 ≤ (yb (fun x y => (x.toUInt32 >>> (y.toUInt32 &&& Int32.toUInt32 31)).toInt32) z 8) ∧ (yb (fun x y => (x.toUInt32 >>> (y.toUInt32 &&& Int32.toUInt32 31)).toInt32) z 8) ≤ 16777215 := by
  have e := pk_ushr (Int32.ofInt z) (Int32.ofInt 8) 8 (by decide)
  have hl := (Int32.ofInt z).toBitVec.isLt
  have h5 := znn' (x := ((Int32.ofInt z).toUInt32 >>> ((Int32.ofInt 8).toUInt32 &&& Int32.toUInt32 31)).toInt32) (by rw [e]; omega)
  show 0 ≤ (((Int32.ofInt z).toUInt32 >>> ((Int32.ofInt 8).toUInt32 &&& Int32.toUInt32 31)).toInt32).toInt ∧ (((Int32.ofInt z).toUInt32 >>> ((Int32.ofInt 8).toUInt32 &&& Int32.toUInt32 31)).toInt32).toInt ≤ 16777215
  rw [h5, e]
  omega
theorem yjx_b (z : Int) {i : Int} (h : 1 ≤ i ∧ i ≤ 39) : 0 ≤ yjx z i ∧ yjx z i ≤ i := by
  unfold yjx
  have hu := yu8 z
  generalize (yb (fun x y => (x.toUInt32 >>> (y.toUInt32 &&& Int32.toUInt32 31)).toInt32) z 8) = u at hu
  have ey : yw (i + 1) = i + 1 := yw_s (i + 1) (by omega) (by omega)
  have e0 : (Int32.ofInt u).toInt = u := zofI (by omega) (by omega)
  have e1 : (Int32.ofInt (i + 1)).toInt = i + 1 := zofI (by omega) (by omega)
  have e2 : yb (fun x y => x - x / y * y) u (i + 1) = u.tmod (i + 1) := by
    show (Int32.ofInt u - Int32.ofInt u / Int32.ofInt (i + 1) * Int32.ofInt (i + 1)).toInt = _
    rw [zremI (by rw [e1]; omega), e0, e1]
  rw [ey, e2]
  have h1 := Int.tmod_nonneg (i + 1) hu.1
  have h2 := Int.tmod_lt_of_pos u (show 0 < i + 1 by omega)
  exact ⟨h1, by omega⟩
def ysw (S : Nat → Int) (i j : Nat) : Nat → Int := fun q => if q = j then S i else if q = i then S j else S q
theorem ysw_mem {g m : yM} {q a b : Nat} (h : ∀ p, m q p = g q p) : (yset (yset m q a (g q b)) q b (g q a)) q = ysw (g q) a b := by
  funext p
  unfold ysw
  by_cases h1 : p = b
  · rw [if_pos h1, h1, yset_eq]
  · rw [if_neg h1, yset_nj h1]
    by_cases h2 : p = a
    · rw [if_pos h2, h2, yset_eq]
    · rw [if_neg h2, yset_nj h2, h]
theorem ysw_c {S S' : Nat → Int} {i j n : Nat} (h : ∀ q, q < n → S q = S' q) (hi : i < n) (hj : j < n) : ∀ q, q < n → ysw S i j q = ysw S' i j q := fun q hq => by
  unfold ysw
  rw [h i hi, h j hj, h q hq]
def yDz : Nat → Int → (Nat → Int) → Int × (Nat → Int)
  | 0, z, S => (z, S)
  | i + 1, z, S => yDz i (yns z) (ysw S (i + 1) (Int.toNat (yjx (yns z) ((i + 1 : Nat) : Int))))
theorem yDz_c {n : Nat} (hn : n ≤ 40) : ∀ (i : Nat) (z : Int) (S S' : Nat → Int), (i < n ∨ i = 0) → (∀ q, q < n → S q = S' q) → (yDz i z S).1 = (yDz i z S').1 ∧ ∀ q, q < n → (yDz i z S).2 q = (yDz i z S').2 q
  | 0, _, _, _, _, h => ⟨rfl, h⟩
  | i + 1, z, S, S', hi, h => by
    have hb := yjx_b (yns z) (i := ((i + 1 : Nat) : Int)) (by omega)
    exact yDz_c hn i _ _ _ (by omega) (ysw_c h (by omega) (by omega))
def yZm (w S : Nat → Int) (s : Int) : Nat → Int
  | 0 => 0
  | q + 1 => if S q = s then yw (yZm w S s q + w q) else yZm w S s q
theorem yZm_1 {w S : Nat → Int} {s : Int} {q : Nat} (h : S q = s) : yZm w S s (q + 1) = yw (yZm w S s q + w q) := if_pos h
theorem yZm_0 {w S : Nat → Int} {s : Int} {q : Nat} (h : ¬ S q = s) : yZm w S s (q + 1) = yZm w S s q := if_neg h
theorem yZm_r {w S : Nat → Int} {s : Int} : ∀ q : Nat, -2147483648 ≤ yZm w S s q ∧ yZm w S s q ≤ 2147483647
  | 0 => ⟨by show (-2147483648 : Int) ≤ 0; decide, by show (0 : Int) ≤ 2147483647; decide⟩
  | q + 1 => by
    by_cases h : S q = s
    · rw [yZm_1 h]
      exact yw_rng _
    · rw [yZm_0 h]
      exact yZm_r q
theorem yZm_c {w w' S S' : Nat → Int} {s : Int} : ∀ n : Nat, (∀ q, q < n → w q = w' q) → (∀ q, q < n → S q = S' q) → yZm w S s n = yZm w' S' s n
  | 0, _, _ => rfl
  | n + 1, h1, h2 => by
    have ih := yZm_c (s := s) n (fun q hq => h1 q (by omega)) (fun q hq => h2 q (by omega))
    by_cases h : S n = s
    · rw [yZm_1 h, yZm_1 (by rw [← h2 n (by omega)]; exact h), ih, h1 n (by omega)]
    · rw [yZm_0 h, yZm_0 (by rw [← h2 n (by omega)]; exact h), ih]
def yTr (w : Nat → Int) (s now : Int) (n : Nat) : Nat → Int → Int → (Nat → Int) → Int
  | 0, t, _, _ => t
  | d + 1, t, z, S => yTr w s now n d (if now ≤ yZm w (yDz (n - 1) z S).2 s n then yw (t + 1) else t) (yDz (n - 1) z S).1 (yDz (n - 1) z S).2
theorem yTr_c {w w' : Nat → Int} {s now : Int} {n : Nat} (hn : n ≤ 40) (hw : ∀ q, q < n → w q = w' q) : ∀ (d : Nat) (t z : Int) (S S' : Nat → Int), (∀ q, q < n → S q = S' q) → yTr w s now n d t z S = yTr w' s now n d t z S'
  | 0, _, _, _, _, _ => rfl
  | d + 1, t, z, S, S', h => by
    obtain ⟨e1, e2⟩ := yDz_c hn (n - 1) z S S' (by omega) h
    show yTr w s now n d (if now ≤ yZm w (yDz (n - 1) z S).2 s n then yw (t + 1) else t) (yDz (n - 1) z S).1 (yDz (n - 1) z S).2 = yTr w' s now n d (if now ≤ yZm w' (yDz (n - 1) z S').2 s n then yw (t + 1) else t) (yDz (n - 1) z S').1 (yDz (n - 1) z S').2
    rw [yZm_c (s := s) n hw e2, e1]
    exact yTr_c hn hw d _ _ _ _ e2
/-- how many among the first have a day; those are gathered -/
def yDn (D : Nat → Int) (t : Int) : Nat → Nat
  | 0 => 0
  | n + 1 => if D n = t then yDn D t n + 1 else yDn D t n
theorem yDn_1 {D : Nat → Int} {t : Int} {n : Nat} (h : D n = t) : yDn D t (n + 1) = yDn D t n + 1 := if_pos h
theorem yDn_0 {D : Nat → Int} {t : Int} {n : Nat} (h : ¬ D n = t) : yDn D t (n + 1) = yDn D t n := if_neg h
theorem yDn_b {D : Nat → Int} {t : Int} : ∀ n : Nat, yDn D t n ≤ n
  | 0 => Nat.le_refl _
  | n + 1 => by
    have ih := @yDn_b D t n
    by_cases h : D n = t
    · rw [yDn_1 h]; omega
    · rw [yDn_0 h]; omega
theorem yDn_lt {D : Nat → Int} {t : Int} {j : Nat} (hj : D j = t) : ∀ n : Nat, j < n → yDn D t j < yDn D t n
  | 0, h => absurd h (by omega)
  | n + 1, h => by
    by_cases e : j = n
    · rw [e] at hj ⊢
      rw [yDn_1 hj]
      omega
    · have ih := yDn_lt hj n (by omega)
      by_cases c : D n = t
      · rw [yDn_1 c]; omega
      · rw [yDn_0 c]; exact ih
theorem yDn_ex {D : Nat → Int} {t : Int} : ∀ (n q : Nat), q < yDn D t n → ∃ j : Nat, j < n ∧ D j = t ∧ yDn D t j = q
  | 0, q, h => absurd h (Nat.not_lt_zero q)
  | n + 1, q, h => by
    by_cases c : D n = t
    · rw [yDn_1 c] at h
      by_cases e : q = yDn D t n
      · exact ⟨n, by omega, c, e.symm⟩
      · obtain ⟨j, h1, h2⟩ := yDn_ex (D := D) (t := t) n q (by omega)
        exact ⟨j, by omega, h2⟩
    · rw [yDn_0 c] at h
      obtain ⟨j, h1, h2⟩ := yDn_ex n q h
      exact ⟨j, by omega, h2⟩
theorem yDn_c {D D' : Nat → Int} {t : Int} : ∀ n : Nat, (∀ j, j < n → D j = D' j) → yDn D t n = yDn D' t n
  | 0, _ => rfl
  | n + 1, h => by
    have ih := yDn_c (t := t) n (fun j hj => h j (by omega))
    by_cases c : D n = t
    · rw [yDn_1 c, yDn_1 (by rw [← h n (by omega)]; exact c), ih]
    · rw [yDn_0 c, yDn_0 (by rw [← h n (by omega)]; exact c), ih]
def yGa (D A B : Nat → Int) (t : Int) (a b : Nat → Int) (i : Nat) : Prop := ∀ j : Nat, j < i → D j = t → a (yDn D t j) = A j ∧ b (yDn D t j) = B j
theorem yGa_0 {D A B a b : Nat → Int} {t : Int} {i : Nat} (h : yGa D A B t a b i) (hi : ¬ D i = t) : yGa D A B t a b (i + 1) := fun j hj e => by
  by_cases q : j = i
  · rw [q] at e
    exact absurd e hi
  · exact h j (by omega) e
theorem yGa_1 {D A B a b a' b' : Nat → Int} {t : Int} {i : Nat} (h : yGa D A B t a b i) (e1 : a' (yDn D t i) = A i) (e2 : b' (yDn D t i) = B i) (f1 : ∀ q, q ≠ yDn D t i → a' q = a q) (f2 : ∀ q, q ≠ yDn D t i → b' q = b q) : yGa D A B t a' b' (i + 1) := fun j hj e => by
  by_cases q : j = i
  · rw [q]
    exact ⟨e1, e2⟩
  · have hl := yDn_lt e i (by omega)
    rw [f1 _ (by omega), f2 _ (by omega)]
    exact h j (by omega) e
/-- a comer's wait: the class, the reference -/
def yWv (g : yM) (c : Nat) : Int := if ySv g c < 0 then 0 else yw (ySv g c - g (50 + c) 1)
def yWr (g : yM) (q : Nat) : Int := if 0 ≤ g 111 (Int.toNat (g 118 q)) then yw (g 111 (Int.toNat (g 118 q)) - g 91 (Int.toNat (g 118 q))) else 0
def yFs (g m : yM) : Prop := ∀ a b : Nat, a ≠ 38 → ¬ (a = 7 ∧ b = 4) → m a b = g a b
def yFg (g m : yM) : Prop := ∀ a b : Nat, a ≠ 37 → a ≠ 38 → ¬ (a = 7 ∧ b = 3) → m a b = g a b
def yFh (g m : yM) : Prop := ∀ a b : Nat, a ≠ 37 → a ≠ 38 → ¬ (a = 7 ∧ (b = 3 ∨ b = 4)) → m a b = g a b
def yFr (g m : yM) : Prop := ∀ a b : Nat, a ≠ 118 → a ≠ 119 → m a b = g a b
def yP_WOF : yPT := fun as g K => ∃ (s : Int), as = [(3, 7), (1, s)] ∧ (0 ≤ g 7 3 ∧ g 7 3 ≤ 40) ∧ (∀ (r : Int), (r = yZm (g 37) (g 38) s (Int.toNat (g 7 3))) → K [(1, r)] g)
def yC_WOF : yC := (100, (1, 40), yP_WOF)
set_option maxRecDepth 8000 in
theorem yl_WOF {K : List yV → yM → Prop} {Y : yNx} {g : yM} {s : Int} (hY : yCl zpD100 (zpZ, zpRS, zpP8, zpMT, [], (1, 40), 1) K Y) (hs : 0 ≤ g 7 3 ∧ g 7 3 ≤ 40) (hK : K [(1, yZm (g 37) (g 38) s (Int.toNat (g 7 3)))] g) : ∀ (n : Nat) (i : Int), i + n = g 7 3 → 0 ≤ i → Y 4 [(3, 7), (1, s), (1, yZm (g 37) (g 38) s (Int.toNat i)), (1, i)] [] g := by
  intro n
  induction n with
  | zero =>
    intro i hd h0
    refine yrun_ok (sp := fun pc => Nat.beq pc 4) hY 20 4 _ [] g ?_
    show (((g 7 3) ≤ i → (K [(1, yZm (g 37) (g 38) s (Int.toNat i))] g)) ∧ (¬ ((g 7 3) ≤ i) → (((0 : Int) ≤ i ∧ i < ((40 : Nat) : Int)) ∧ (((g 38 (Int.toNat i)) ≠ s → (Y 4 [(3, 7), (1, s), (1, yZm (g 37) (g 38) s (Int.toNat i)), (1, (yw (i + 1)))] [] g)) ∧ (¬ ((g 38 (Int.toNat i)) ≠ s) → (((0 : Int) ≤ i ∧ i < ((40 : Nat) : Int)) ∧ (Y 4 [(3, 7), (1, s), (1, (yw (yZm (g 37) (g 38) s (Int.toNat i) + (g 37 (Int.toNat i))))), (1, (yw (i + 1)))] [] g)))))))
    refine ⟨fun h1 => ?_, fun h1 => ?_⟩
    · obtain rfl : i = g 7 3 := by omega
      exact hK
    · refine ⟨(by omega), ?_⟩
      refine ⟨fun h2 => ?_, fun h2 => ?_⟩
      · omega
      · refine ⟨(by omega), ?_⟩
        omega
  | succ n ih =>
    intro i hd h0
    refine yrun_ok (sp := fun pc => Nat.beq pc 4) hY 20 4 _ [] g ?_
    show (((g 7 3) ≤ i → (K [(1, yZm (g 37) (g 38) s (Int.toNat i))] g)) ∧ (¬ ((g 7 3) ≤ i) → (((0 : Int) ≤ i ∧ i < ((40 : Nat) : Int)) ∧ (((g 38 (Int.toNat i)) ≠ s → (Y 4 [(3, 7), (1, s), (1, yZm (g 37) (g 38) s (Int.toNat i)), (1, (yw (i + 1)))] [] g)) ∧ (¬ ((g 38 (Int.toNat i)) ≠ s) → (((0 : Int) ≤ i ∧ i < ((40 : Nat) : Int)) ∧ (Y 4 [(3, 7), (1, s), (1, (yw (yZm (g 37) (g 38) s (Int.toNat i) + (g 37 (Int.toNat i))))), (1, (yw (i + 1)))] [] g)))))))
    refine ⟨fun h1 => ?_, fun h1 => ?_⟩
    · omega
    · refine ⟨(by omega), ?_⟩
      refine ⟨fun h2 => ?_, fun h2 => ?_⟩
      · have yi : yw (i + 1) = i + 1 := yw_s (i + 1) (by omega) (by omega)
        have e : yZm (g 37) (g 38) s (Int.toNat (i + 1)) = yZm (g 37) (g 38) s (Int.toNat i) := by
          rw [show Int.toNat (i + 1) = Int.toNat i + 1 by omega]
          exact yZm_0 (by omega)
        have h9 := ih (i + 1) (by omega) (by omega)
        rw [e] at h9
        rw [yi]
        exact h9
      · refine ⟨(by omega), ?_⟩
        have yi : yw (i + 1) = i + 1 := yw_s (i + 1) (by omega) (by omega)
        have e : yZm (g 37) (g 38) s (Int.toNat (i + 1)) = (yw (yZm (g 37) (g 38) s (Int.toNat i) + (g 37 (Int.toNat i)))) := by
          rw [show Int.toNat (i + 1) = Int.toNat i + 1 by omega]
          exact yZm_1 (by omega)
        have h9 := ih (i + 1) (by omega) (by omega)
        rw [e] at h9
        rw [yi]
        exact h9
set_option maxRecDepth 8000 in
theorem yv_WOF {K : List yV → yM → Prop} {Y : yNx} {g : yM} {s : Int} (hY : yCl zpD100 (zpZ, zpRS, zpP8, zpMT, [], (1, 40), 1) K Y) (hr_s : -2147483648 ≤ s ∧ s ≤ 2147483647) (hp0 : 0 ≤ g 7 3 ∧ g 7 3 ≤ 40) (hK : ∀ (r : Int), (r = yZm (g 37) (g 38) s (Int.toNat (g 7 3))) → K [(1, r)] g) : Y 0 [(3, 7), (1, s), (0, 0), (0, 0)] [] g := by
  refine yrun_ok (sp := fun pc => Nat.beq pc 4) hY 5 0 _ [] g ?_
  show (Y 4 [(3, 7), (1, s), (1, 0), (1, 0)] [] g)
  exact yl_WOF hY hp0 (hK _ rfl) (Int.toNat (g 7 3)) 0 (by omega) (by decide)
theorem yM_WOF {l : Launch} {Ts : List Cond} {cl : List vw_C} {RO : zRO} (H : zHyp Ts cl RO) : yMet l Ts cl zpZ RO zpMT yC_WOF := ymet_of2 H.1 H.2.1 zpDj H.2.2.1 yRb H.p8 ymets_nil (zrc1 rfl) (plainFor_of_name zpy8) zpDk100 (fun as g K Y h hA hY => by
  obtain ⟨s, rfl, hp0, hK⟩ := h
  exact yv_WOF hY (yAr1 hA (by simp)) hp0 hK)
def yP_DRA : yPT := fun as g K => as = [(3, 7)] ∧ (yTy zpZ g) ∧ (0 ≤ g 7 3 ∧ g 7 3 ≤ 40) ∧ (∀ (g' : yM), (yTy zpZ g') → (yFs g g') → (g' 7 4 = (yDz (Int.toNat (g 7 3 - 1)) (g 7 4) (g 38)).1) → (g' 38 = (yDz (Int.toNat (g 7 3 - 1)) (g 7 4) (g 38)).2) → K [] g')
def yC_DRA : yC := (92, (1, 40), yP_DRA)
set_option maxRecDepth 8000 in
theorem yl_DRA {K : List yV → yM → Prop} {Y : yNx} (hY : yCl zpD92 (zpZ, zpRS, zpP8, zpMT, [], (1, 40), 0) K Y) : ∀ (d : Nat) (i : Int), Int.toNat i = d → -1 ≤ i ∧ i ≤ 39 → ∀ (g : yM) (w2 w3 : yV), yTy zpZ g → (∀ g' : yM, yTy zpZ g' → yFs g g' → g' 7 4 = (yDz d (g 7 4) (g 38)).1 → g' 38 = (yDz d (g 7 4) (g 38)).2 → K [] g') → Y 7 [(3, 7), (1, i), w2, w3] [] g := by
  intro d
  induction d with
  | zero =>
    intro i hd hi g w2 w3 hT hK
    refine yrun_ok (sp := fun pc => Nat.beq pc 7) hY 40 7 _ [] g ?_
    show ((i ≤ 0 → (K [] g)) ∧ (¬ (i ≤ 0) → (((yw (i + 1)) : Int) ≠ 0 ∧ (((0 : Int) ≤ i ∧ i < ((40 : Nat) : Int)) ∧ (((0 : Int) ≤ (yb (fun x y => x - x / y * y) (yb (fun x y => (x.toUInt32 >>> (y.toUInt32 &&& Int32.toUInt32 31)).toInt32) (yw ((yw ((g 7 4) * 1103515245)) + 12345)) 8) (yw (i + 1))) ∧ (yb (fun x y => x - x / y * y) (yb (fun x y => (x.toUInt32 >>> (y.toUInt32 &&& Int32.toUInt32 31)).toInt32) (yw ((yw ((g 7 4) * 1103515245)) + 12345)) 8) (yw (i + 1))) < ((40 : Nat) : Int)) ∧ (((0 : Int) ≤ i ∧ i < ((40 : Nat) : Int)) ∧ (((0 : Int) ≤ (yb (fun x y => x - x / y * y) (yb (fun x y => (x.toUInt32 >>> (y.toUInt32 &&& Int32.toUInt32 31)).toInt32) (yw ((yw ((g 7 4) * 1103515245)) + 12345)) 8) (yw (i + 1))) ∧ (yb (fun x y => x - x / y * y) (yb (fun x y => (x.toUInt32 >>> (y.toUInt32 &&& Int32.toUInt32 31)).toInt32) (yw ((yw ((g 7 4) * 1103515245)) + 12345)) 8) (yw (i + 1))) < ((40 : Nat) : Int)) ∧ (Y 7 [(3, 7), (1, (yw (i + (-1)))), (1, (yb (fun x y => x - x / y * y) (yb (fun x y => (x.toUInt32 >>> (y.toUInt32 &&& Int32.toUInt32 31)).toInt32) (yw ((yw ((g 7 4) * 1103515245)) + 12345)) 8) (yw (i + 1)))), (1, (g 38 (Int.toNat i)))] [] (yset (yset (yset g 7 4 (yw ((yw ((g 7 4) * 1103515245)) + 12345))) 38 (Int.toNat i) (g 38 (Int.toNat (yb (fun x y => x - x / y * y) (yb (fun x y => (x.toUInt32 >>> (y.toUInt32 &&& Int32.toUInt32 31)).toInt32) (yw ((yw ((g 7 4) * 1103515245)) + 12345)) 8) (yw (i + 1)))))) 38 (Int.toNat (yb (fun x y => x - x / y * y) (yb (fun x y => (x.toUInt32 >>> (y.toUInt32 &&& Int32.toUInt32 31)).toInt32) (yw ((yw ((g 7 4) * 1103515245)) + 12345)) 8) (yw (i + 1)))) (g 38 (Int.toNat i)))))))))))
    refine ⟨fun h1 => ?_, fun h1 => ?_⟩
    · exact hK g hT (fun _ _ _ _ => rfl) rfl rfl
    · refine ⟨(by omega), ?_⟩
      refine ⟨(by omega), ?_⟩
      refine ⟨(by omega), ?_⟩
      refine ⟨(by omega), ?_⟩
      refine ⟨(by omega), ?_⟩
      omega
  | succ d ih =>
    intro i hd hi g w2 w3 hT hK
    refine yrun_ok (sp := fun pc => Nat.beq pc 7) hY 40 7 _ [] g ?_
    show ((i ≤ 0 → (K [] g)) ∧ (¬ (i ≤ 0) → (((yw (i + 1)) : Int) ≠ 0 ∧ (((0 : Int) ≤ i ∧ i < ((40 : Nat) : Int)) ∧ (((0 : Int) ≤ (yb (fun x y => x - x / y * y) (yb (fun x y => (x.toUInt32 >>> (y.toUInt32 &&& Int32.toUInt32 31)).toInt32) (yw ((yw ((g 7 4) * 1103515245)) + 12345)) 8) (yw (i + 1))) ∧ (yb (fun x y => x - x / y * y) (yb (fun x y => (x.toUInt32 >>> (y.toUInt32 &&& Int32.toUInt32 31)).toInt32) (yw ((yw ((g 7 4) * 1103515245)) + 12345)) 8) (yw (i + 1))) < ((40 : Nat) : Int)) ∧ (((0 : Int) ≤ i ∧ i < ((40 : Nat) : Int)) ∧ (((0 : Int) ≤ (yb (fun x y => x - x / y * y) (yb (fun x y => (x.toUInt32 >>> (y.toUInt32 &&& Int32.toUInt32 31)).toInt32) (yw ((yw ((g 7 4) * 1103515245)) + 12345)) 8) (yw (i + 1))) ∧ (yb (fun x y => x - x / y * y) (yb (fun x y => (x.toUInt32 >>> (y.toUInt32 &&& Int32.toUInt32 31)).toInt32) (yw ((yw ((g 7 4) * 1103515245)) + 12345)) 8) (yw (i + 1))) < ((40 : Nat) : Int)) ∧ (Y 7 [(3, 7), (1, (yw (i + (-1)))), (1, (yb (fun x y => x - x / y * y) (yb (fun x y => (x.toUInt32 >>> (y.toUInt32 &&& Int32.toUInt32 31)).toInt32) (yw ((yw ((g 7 4) * 1103515245)) + 12345)) 8) (yw (i + 1)))), (1, (g 38 (Int.toNat i)))] [] (yset (yset (yset g 7 4 (yw ((yw ((g 7 4) * 1103515245)) + 12345))) 38 (Int.toNat i) (g 38 (Int.toNat (yb (fun x y => x - x / y * y) (yb (fun x y => (x.toUInt32 >>> (y.toUInt32 &&& Int32.toUInt32 31)).toInt32) (yw ((yw ((g 7 4) * 1103515245)) + 12345)) 8) (yw (i + 1)))))) 38 (Int.toNat (yb (fun x y => x - x / y * y) (yb (fun x y => (x.toUInt32 >>> (y.toUInt32 &&& Int32.toUInt32 31)).toInt32) (yw ((yw ((g 7 4) * 1103515245)) + 12345)) 8) (yw (i + 1)))) (g 38 (Int.toNat i)))))))))))
    refine ⟨fun h1 => ?_, fun h1 => ?_⟩
    · omega
    · refine ⟨(by rw [yw_s (i + 1) (by omega) (by omega)]; omega), ?_⟩
      refine ⟨(by omega), ?_⟩
      refine ⟨(by have hj := yjx_b (yns (g 7 4)) (i := i) (by omega); have hj2 : 0 ≤ yjx (yns (g 7 4)) i ∧ yjx (yns (g 7 4)) i < 40 := (by omega); exact hj2), ?_⟩
      refine ⟨(by omega), ?_⟩
      refine ⟨(by have hj := yjx_b (yns (g 7 4)) (i := i) (by omega); have hj2 : 0 ≤ yjx (yns (g 7 4)) i ∧ yjx (yns (g 7 4)) i < 40 := (by omega); exact hj2), ?_⟩
      have hj := yjx_b (yns (g 7 4)) (i := i) (by omega)
      have hj2 : 0 ≤ yjx (yns (g 7 4)) i ∧ yjx (yns (g 7 4)) i < 40 := (by omega)
      have yi : yw (i + -1) = i - 1 := yw_s (i + -1) (by omega) (by omega)
      rw [yi]
      have a1 := hT.fA (j := Int.toNat i) (List.mem_of_getElem? (i := 34) rfl) (by omega)
      have a2 := hT.fA (j := Int.toNat (yjx (yns (g 7 4)) i)) (List.mem_of_getElem? (i := 34) rfl) (by omega)
      refine ih (i - 1) (by omega) (by omega) _ _ _ (((hT.sO (List.mem_of_getElem? (i := 7) rfl) rfl (by decide +kernel) (yw_rng _)).sA (List.mem_of_getElem? (i := 34) rfl) (by decide +kernel) a2).sA (List.mem_of_getElem? (i := 34) rfl) (by decide +kernel) a1) (fun g' t f e1 e2 => ?_)
      have m1 : (yset (yset (yset g 7 4 (yw ((yw ((g 7 4) * 1103515245)) + 12345))) 38 (Int.toNat i) (g 38 (Int.toNat (yb (fun x y => x - x / y * y) (yb (fun x y => (x.toUInt32 >>> (y.toUInt32 &&& Int32.toUInt32 31)).toInt32) (yw ((yw ((g 7 4) * 1103515245)) + 12345)) 8) (yw (i + 1)))))) 38 (Int.toNat (yb (fun x y => x - x / y * y) (yb (fun x y => (x.toUInt32 >>> (y.toUInt32 &&& Int32.toUInt32 31)).toInt32) (yw ((yw ((g 7 4) * 1103515245)) + 12345)) 8) (yw (i + 1)))) (g 38 (Int.toNat i))) 7 4 = yns (g 7 4) := by
        rw [yset_nc (by decide), yset_nc (by decide), yset_eq]
        rfl
      have m2 : (yset (yset (yset g 7 4 (yw ((yw ((g 7 4) * 1103515245)) + 12345))) 38 (Int.toNat i) (g 38 (Int.toNat (yb (fun x y => x - x / y * y) (yb (fun x y => (x.toUInt32 >>> (y.toUInt32 &&& Int32.toUInt32 31)).toInt32) (yw ((yw ((g 7 4) * 1103515245)) + 12345)) 8) (yw (i + 1)))))) 38 (Int.toNat (yb (fun x y => x - x / y * y) (yb (fun x y => (x.toUInt32 >>> (y.toUInt32 &&& Int32.toUInt32 31)).toInt32) (yw ((yw ((g 7 4) * 1103515245)) + 12345)) 8) (yw (i + 1)))) (g 38 (Int.toNat i))) 38 = ysw (g 38) (Int.toNat i) (Int.toNat (yjx (yns (g 7 4)) i)) := ysw_mem (m := yset g 7 4 (yns (g 7 4))) (fun p => yset_nc (by decide))
      have e0 : i = ((d + 1 : Nat) : Int) := by omega
      have e3 : yDz (d + 1) (g 7 4) (g 38) = yDz d ((yset (yset (yset g 7 4 (yw ((yw ((g 7 4) * 1103515245)) + 12345))) 38 (Int.toNat i) (g 38 (Int.toNat (yb (fun x y => x - x / y * y) (yb (fun x y => (x.toUInt32 >>> (y.toUInt32 &&& Int32.toUInt32 31)).toInt32) (yw ((yw ((g 7 4) * 1103515245)) + 12345)) 8) (yw (i + 1)))))) 38 (Int.toNat (yb (fun x y => x - x / y * y) (yb (fun x y => (x.toUInt32 >>> (y.toUInt32 &&& Int32.toUInt32 31)).toInt32) (yw ((yw ((g 7 4) * 1103515245)) + 12345)) 8) (yw (i + 1)))) (g 38 (Int.toNat i))) 7 4) ((yset (yset (yset g 7 4 (yw ((yw ((g 7 4) * 1103515245)) + 12345))) 38 (Int.toNat i) (g 38 (Int.toNat (yb (fun x y => x - x / y * y) (yb (fun x y => (x.toUInt32 >>> (y.toUInt32 &&& Int32.toUInt32 31)).toInt32) (yw ((yw ((g 7 4) * 1103515245)) + 12345)) 8) (yw (i + 1)))))) 38 (Int.toNat (yb (fun x y => x - x / y * y) (yb (fun x y => (x.toUInt32 >>> (y.toUInt32 &&& Int32.toUInt32 31)).toInt32) (yw ((yw ((g 7 4) * 1103515245)) + 12345)) 8) (yw (i + 1)))) (g 38 (Int.toNat i))) 38) := by
        rw [m1, m2, show Int.toNat i = d + 1 by omega, e0]
        rfl
      rw [← e3] at e1 e2
      exact hK g' t (fun a b h1 h2 => (f a b h1 h2).trans (by rw [yset_nc h1, yset_nc h1, yset_ne h2])) e1 e2
set_option maxRecDepth 8000 in
theorem yv_DRA {K : List yV → yM → Prop} {Y : yNx} {g : yM} (hY : yCl zpD92 (zpZ, zpRS, zpP8, zpMT, [], (1, 40), 0) K Y) (hp0 : yTy zpZ g) (hp1 : 0 ≤ g 7 3 ∧ g 7 3 ≤ 40) (hK : ∀ (g' : yM), (yTy zpZ g') → (yFs g g') → (g' 7 4 = (yDz (Int.toNat (g 7 3 - 1)) (g 7 4) (g 38)).1) → (g' 38 = (yDz (Int.toNat (g 7 3 - 1)) (g 7 4) (g 38)).2) → K [] g') : Y 0 [(3, 7), (0, 0), (0, 0), (0, 0)] [] g := by
  refine yrun_ok (sp := fun pc => Nat.beq pc 7) hY 6 0 _ [] g ?_
  show (Y 7 [(3, 7), (1, (yw ((g 7 3) - 1))), (0, 0), (0, 0)] [] g)
  rw [yw_s (g 7 3 - 1) (by omega) (by omega)]
  exact yl_DRA hY _ (g 7 3 - 1) rfl (by omega) g _ _ hp0 (fun g' q1 q2 q3 q4 => hK g' q1 q2 q3 q4)
theorem yM_DRA {l : Launch} {Ts : List Cond} {cl : List vw_C} {RO : zRO} (H : zHyp Ts cl RO) : yMet l Ts cl zpZ RO zpMT yC_DRA := ymet_of2 H.1 H.2.1 zpDj H.2.2.1 yRb H.p8 ymets_nil (zrc0 rfl) (plainFor_of_name zpy8) zpDk92 (fun as g K Y h hA hY => by
  obtain ⟨rfl, hp0, hp1, hK⟩ := h
  exact yv_DRA hY  hp0 hp1 hK)
def yP_GAT : yPT := fun as g K => ∃ (t : Int), as = [(3, 7), (1, t)] ∧ (yTy zpZ g) ∧ (∀ (g' : yM), (yTy zpZ g') → (yFg g g') → (g' 7 3 = (yDn (fun q => g (50 + q) 0) t (Int.toNat (g 1 1)))) → (yGa (fun q => g (50 + q) 0) (yWv g) (fun q => g (50 + q) 5) t (g' 37) (g' 38) (Int.toNat (g 1 1))) → K [] g')
def yC_GAT : yC := (93, (2, 60), yP_GAT)
set_option maxRecDepth 8000 in
theorem yl_GAT {K : List yV → yM → Prop} {Y : yNx} {g : yM} {t : Int} (hY : yCl zpD93 (zpZ, zpRS, zpP8, zpMT, [yC_SVD], (2, 60), 0) K Y) (hs : 0 ≤ g 1 1 ∧ g 1 1 ≤ 40) (hT0 : yTy zpZ g) (hK : ∀ g' : yM, yTy zpZ g' → yFg g g' → g' 7 3 = (yDn (fun q => g (50 + q) 0) t (Int.toNat (g 1 1))) → yGa (fun q => g (50 + q) 0) (yWv g) (fun q => g (50 + q) 5) t (g' 37) (g' 38) (Int.toNat (g 1 1)) → K [] g') : ∀ (n : Nat) (i : Int), i + n = g 1 1 → 0 ≤ i → ∀ (m : yM) (w3 : yV), yTy zpZ m → yFg g m → m 7 3 = (yDn (fun q => g (50 + q) 0) t (Int.toNat i)) → yGa (fun q => g (50 + q) 0) (yWv g) (fun q => g (50 + q) 5) t (m 37) (m 38) (Int.toNat i) → Y 7 [(3, 7), (1, t), (1, i), w3] [] m := by
  intro n
  induction n with
  | zero =>
    intro i hd h0 m w3 hT hF hN hG
    refine yrun_ok (sp := fun pc => Nat.beq pc 7) hY 44 7 _ [] m ?_
    show (((m 1 1) ≤ i → (K [] m)) ∧ (¬ ((m 1 1) ≤ i) → (((0 : Int) ≤ i ∧ i < ((40 : Nat) : Int)) ∧ (((m (50 + Int.toNat i) 0) ≠ t → (Y 7 [(3, 7), (1, t), (1, (yw (i + 1))), (141, i)] [] m)) ∧ (¬ ((m (50 + Int.toNat i) 0) ≠ t) → (∃ (w3 : Int), [(141, i)] = [(141, w3)] ∧ (0 ≤ w3 ∧ w3 < 40) ∧ (∀ (r4 : Int), (r4 = ySv m (Int.toNat w3)) → ((0 ≤ r4 → (∃ (w7 : Int), [(141, i)] = [(141, w7)] ∧ (0 ≤ w7 ∧ w7 < 40) ∧ (∀ (r8 : Int), (r8 = ySv m (Int.toNat w7)) → (((0 : Int) ≤ (m 7 3) ∧ (m 7 3) < ((40 : Nat) : Int)) ∧ (((0 : Int) ≤ (m 7 3) ∧ (m 7 3) < ((40 : Nat) : Int)) ∧ (Y 7 [(3, 7), (1, t), (1, (yw (i + 1))), (141, i)] [] (yset (yset (yset m 37 (Int.toNat (m 7 3)) (yw (r8 - (m (50 + Int.toNat i) 1)))) 38 (Int.toNat (m 7 3)) ((yset m 37 (Int.toNat (m 7 3)) (yw (r8 - (m (50 + Int.toNat i) 1)))) (50 + Int.toNat i) 5)) 7 3 (yw ((m 7 3) + 1))))))))) ∧ (¬ (0 ≤ r4) → (((0 : Int) ≤ (m 7 3) ∧ (m 7 3) < ((40 : Nat) : Int)) ∧ (((0 : Int) ≤ (m 7 3) ∧ (m 7 3) < ((40 : Nat) : Int)) ∧ (Y 7 [(3, 7), (1, t), (1, (yw (i + 1))), (141, i)] [] (yset (yset (yset m 37 (Int.toNat (m 7 3)) 0) 38 (Int.toNat (m 7 3)) ((yset m 37 (Int.toNat (m 7 3)) 0) (50 + Int.toNat i) 5)) 7 3 (yw ((m 7 3) + 1)))))))))))))))
    refine ⟨fun h1 => ?_, fun h1 => ?_⟩
    · have e1 : m 1 1 = g 1 1 := hF _ _ (by omega) (by omega) (by omega)
      have f0 : m (50 + Int.toNat i) 0 = g (50 + Int.toNat i) 0 := hF _ _ (by omega) (by omega) (by omega)
      have f1 : m (50 + Int.toNat i) 1 = g (50 + Int.toNat i) 1 := hF _ _ (by omega) (by omega) (by omega)
      have f5 : m (50 + Int.toNat i) 5 = g (50 + Int.toNat i) 5 := hF _ _ (by omega) (by omega) (by omega)
      have f8 : m (50 + Int.toNat i) 8 = g (50 + Int.toNat i) 8 := hF _ _ (by omega) (by omega) (by omega)
      have f10 : m (50 + Int.toNat i) 10 = g (50 + Int.toNat i) 10 := hF _ _ (by omega) (by omega) (by omega)
      have hb := @yDn_b (fun q => g (50 + q) 0) t (Int.toNat i)
      obtain rfl : i = g 1 1 := by omega
      exact hK _ hT hF hN hG
    · refine ⟨(by have e1 : m 1 1 = g 1 1 := hF _ _ (by omega) (by omega) (by omega); have f0 : m (50 + Int.toNat i) 0 = g (50 + Int.toNat i) 0 := hF _ _ (by omega) (by omega) (by omega); have f1 : m (50 + Int.toNat i) 1 = g (50 + Int.toNat i) 1 := hF _ _ (by omega) (by omega) (by omega); have f5 : m (50 + Int.toNat i) 5 = g (50 + Int.toNat i) 5 := hF _ _ (by omega) (by omega) (by omega); have f8 : m (50 + Int.toNat i) 8 = g (50 + Int.toNat i) 8 := hF _ _ (by omega) (by omega) (by omega); have f10 : m (50 + Int.toNat i) 10 = g (50 + Int.toNat i) 10 := hF _ _ (by omega) (by omega) (by omega); have hb := @yDn_b (fun q => g (50 + q) 0) t (Int.toNat i); omega), ?_⟩
      refine ⟨fun h2 => ?_, fun h2 => ?_⟩
      · have e1 : m 1 1 = g 1 1 := hF _ _ (by omega) (by omega) (by omega)
        have f0 : m (50 + Int.toNat i) 0 = g (50 + Int.toNat i) 0 := hF _ _ (by omega) (by omega) (by omega)
        have f1 : m (50 + Int.toNat i) 1 = g (50 + Int.toNat i) 1 := hF _ _ (by omega) (by omega) (by omega)
        have f5 : m (50 + Int.toNat i) 5 = g (50 + Int.toNat i) 5 := hF _ _ (by omega) (by omega) (by omega)
        have f8 : m (50 + Int.toNat i) 8 = g (50 + Int.toNat i) 8 := hF _ _ (by omega) (by omega) (by omega)
        have f10 : m (50 + Int.toNat i) 10 = g (50 + Int.toNat i) 10 := hF _ _ (by omega) (by omega) (by omega)
        have hb := @yDn_b (fun q => g (50 + q) 0) t (Int.toNat i)
        omega
      · refine ⟨_, rfl, (by have e1 : m 1 1 = g 1 1 := hF _ _ (by omega) (by omega) (by omega); have f0 : m (50 + Int.toNat i) 0 = g (50 + Int.toNat i) 0 := hF _ _ (by omega) (by omega) (by omega); have f1 : m (50 + Int.toNat i) 1 = g (50 + Int.toNat i) 1 := hF _ _ (by omega) (by omega) (by omega); have f5 : m (50 + Int.toNat i) 5 = g (50 + Int.toNat i) 5 := hF _ _ (by omega) (by omega) (by omega); have f8 : m (50 + Int.toNat i) 8 = g (50 + Int.toNat i) 8 := hF _ _ (by omega) (by omega) (by omega); have f10 : m (50 + Int.toNat i) 10 = g (50 + Int.toNat i) 10 := hF _ _ (by omega) (by omega) (by omega); have hb := @yDn_b (fun q => g (50 + q) 0) t (Int.toNat i); omega), ?_⟩
        intro r4 p50
        refine ⟨fun h6 => ?_, fun h6 => ?_⟩
        · refine ⟨_, rfl, (by have e1 : m 1 1 = g 1 1 := hF _ _ (by omega) (by omega) (by omega); have f0 : m (50 + Int.toNat i) 0 = g (50 + Int.toNat i) 0 := hF _ _ (by omega) (by omega) (by omega); have f1 : m (50 + Int.toNat i) 1 = g (50 + Int.toNat i) 1 := hF _ _ (by omega) (by omega) (by omega); have f5 : m (50 + Int.toNat i) 5 = g (50 + Int.toNat i) 5 := hF _ _ (by omega) (by omega) (by omega); have f8 : m (50 + Int.toNat i) 8 = g (50 + Int.toNat i) 8 := hF _ _ (by omega) (by omega) (by omega); have f10 : m (50 + Int.toNat i) 10 = g (50 + Int.toNat i) 10 := hF _ _ (by omega) (by omega) (by omega); have hb := @yDn_b (fun q => g (50 + q) 0) t (Int.toNat i); omega), ?_⟩
          intro r8 p90
          refine ⟨(by have e1 : m 1 1 = g 1 1 := hF _ _ (by omega) (by omega) (by omega); have f0 : m (50 + Int.toNat i) 0 = g (50 + Int.toNat i) 0 := hF _ _ (by omega) (by omega) (by omega); have f1 : m (50 + Int.toNat i) 1 = g (50 + Int.toNat i) 1 := hF _ _ (by omega) (by omega) (by omega); have f5 : m (50 + Int.toNat i) 5 = g (50 + Int.toNat i) 5 := hF _ _ (by omega) (by omega) (by omega); have f8 : m (50 + Int.toNat i) 8 = g (50 + Int.toNat i) 8 := hF _ _ (by omega) (by omega) (by omega); have f10 : m (50 + Int.toNat i) 10 = g (50 + Int.toNat i) 10 := hF _ _ (by omega) (by omega) (by omega); have hb := @yDn_b (fun q => g (50 + q) 0) t (Int.toNat i); omega), ?_⟩
          refine ⟨(by have e1 : m 1 1 = g 1 1 := hF _ _ (by omega) (by omega) (by omega); have f0 : m (50 + Int.toNat i) 0 = g (50 + Int.toNat i) 0 := hF _ _ (by omega) (by omega) (by omega); have f1 : m (50 + Int.toNat i) 1 = g (50 + Int.toNat i) 1 := hF _ _ (by omega) (by omega) (by omega); have f5 : m (50 + Int.toNat i) 5 = g (50 + Int.toNat i) 5 := hF _ _ (by omega) (by omega) (by omega); have f8 : m (50 + Int.toNat i) 8 = g (50 + Int.toNat i) 8 := hF _ _ (by omega) (by omega) (by omega); have f10 : m (50 + Int.toNat i) 10 = g (50 + Int.toNat i) 10 := hF _ _ (by omega) (by omega) (by omega); have hb := @yDn_b (fun q => g (50 + q) 0) t (Int.toNat i); omega), ?_⟩
          have e1 : m 1 1 = g 1 1 := hF _ _ (by omega) (by omega) (by omega)
          have f0 : m (50 + Int.toNat i) 0 = g (50 + Int.toNat i) 0 := hF _ _ (by omega) (by omega) (by omega)
          have f1 : m (50 + Int.toNat i) 1 = g (50 + Int.toNat i) 1 := hF _ _ (by omega) (by omega) (by omega)
          have f5 : m (50 + Int.toNat i) 5 = g (50 + Int.toNat i) 5 := hF _ _ (by omega) (by omega) (by omega)
          have f8 : m (50 + Int.toNat i) 8 = g (50 + Int.toNat i) 8 := hF _ _ (by omega) (by omega) (by omega)
          have f10 : m (50 + Int.toNat i) 10 = g (50 + Int.toNat i) 10 := hF _ _ (by omega) (by omega) (by omega)
          have hb := @yDn_b (fun q => g (50 + q) 0) t (Int.toNat i)
          omega
        · refine ⟨(by have e1 : m 1 1 = g 1 1 := hF _ _ (by omega) (by omega) (by omega); have f0 : m (50 + Int.toNat i) 0 = g (50 + Int.toNat i) 0 := hF _ _ (by omega) (by omega) (by omega); have f1 : m (50 + Int.toNat i) 1 = g (50 + Int.toNat i) 1 := hF _ _ (by omega) (by omega) (by omega); have f5 : m (50 + Int.toNat i) 5 = g (50 + Int.toNat i) 5 := hF _ _ (by omega) (by omega) (by omega); have f8 : m (50 + Int.toNat i) 8 = g (50 + Int.toNat i) 8 := hF _ _ (by omega) (by omega) (by omega); have f10 : m (50 + Int.toNat i) 10 = g (50 + Int.toNat i) 10 := hF _ _ (by omega) (by omega) (by omega); have hb := @yDn_b (fun q => g (50 + q) 0) t (Int.toNat i); omega), ?_⟩
          refine ⟨(by have e1 : m 1 1 = g 1 1 := hF _ _ (by omega) (by omega) (by omega); have f0 : m (50 + Int.toNat i) 0 = g (50 + Int.toNat i) 0 := hF _ _ (by omega) (by omega) (by omega); have f1 : m (50 + Int.toNat i) 1 = g (50 + Int.toNat i) 1 := hF _ _ (by omega) (by omega) (by omega); have f5 : m (50 + Int.toNat i) 5 = g (50 + Int.toNat i) 5 := hF _ _ (by omega) (by omega) (by omega); have f8 : m (50 + Int.toNat i) 8 = g (50 + Int.toNat i) 8 := hF _ _ (by omega) (by omega) (by omega); have f10 : m (50 + Int.toNat i) 10 = g (50 + Int.toNat i) 10 := hF _ _ (by omega) (by omega) (by omega); have hb := @yDn_b (fun q => g (50 + q) 0) t (Int.toNat i); omega), ?_⟩
          have e1 : m 1 1 = g 1 1 := hF _ _ (by omega) (by omega) (by omega)
          have f0 : m (50 + Int.toNat i) 0 = g (50 + Int.toNat i) 0 := hF _ _ (by omega) (by omega) (by omega)
          have f1 : m (50 + Int.toNat i) 1 = g (50 + Int.toNat i) 1 := hF _ _ (by omega) (by omega) (by omega)
          have f5 : m (50 + Int.toNat i) 5 = g (50 + Int.toNat i) 5 := hF _ _ (by omega) (by omega) (by omega)
          have f8 : m (50 + Int.toNat i) 8 = g (50 + Int.toNat i) 8 := hF _ _ (by omega) (by omega) (by omega)
          have f10 : m (50 + Int.toNat i) 10 = g (50 + Int.toNat i) 10 := hF _ _ (by omega) (by omega) (by omega)
          have hb := @yDn_b (fun q => g (50 + q) 0) t (Int.toNat i)
          omega
  | succ n ih =>
    intro i hd h0 m w3 hT hF hN hG
    refine yrun_ok (sp := fun pc => Nat.beq pc 7) hY 44 7 _ [] m ?_
    show (((m 1 1) ≤ i → (K [] m)) ∧ (¬ ((m 1 1) ≤ i) → (((0 : Int) ≤ i ∧ i < ((40 : Nat) : Int)) ∧ (((m (50 + Int.toNat i) 0) ≠ t → (Y 7 [(3, 7), (1, t), (1, (yw (i + 1))), (141, i)] [] m)) ∧ (¬ ((m (50 + Int.toNat i) 0) ≠ t) → (∃ (w3 : Int), [(141, i)] = [(141, w3)] ∧ (0 ≤ w3 ∧ w3 < 40) ∧ (∀ (r4 : Int), (r4 = ySv m (Int.toNat w3)) → ((0 ≤ r4 → (∃ (w7 : Int), [(141, i)] = [(141, w7)] ∧ (0 ≤ w7 ∧ w7 < 40) ∧ (∀ (r8 : Int), (r8 = ySv m (Int.toNat w7)) → (((0 : Int) ≤ (m 7 3) ∧ (m 7 3) < ((40 : Nat) : Int)) ∧ (((0 : Int) ≤ (m 7 3) ∧ (m 7 3) < ((40 : Nat) : Int)) ∧ (Y 7 [(3, 7), (1, t), (1, (yw (i + 1))), (141, i)] [] (yset (yset (yset m 37 (Int.toNat (m 7 3)) (yw (r8 - (m (50 + Int.toNat i) 1)))) 38 (Int.toNat (m 7 3)) ((yset m 37 (Int.toNat (m 7 3)) (yw (r8 - (m (50 + Int.toNat i) 1)))) (50 + Int.toNat i) 5)) 7 3 (yw ((m 7 3) + 1))))))))) ∧ (¬ (0 ≤ r4) → (((0 : Int) ≤ (m 7 3) ∧ (m 7 3) < ((40 : Nat) : Int)) ∧ (((0 : Int) ≤ (m 7 3) ∧ (m 7 3) < ((40 : Nat) : Int)) ∧ (Y 7 [(3, 7), (1, t), (1, (yw (i + 1))), (141, i)] [] (yset (yset (yset m 37 (Int.toNat (m 7 3)) 0) 38 (Int.toNat (m 7 3)) ((yset m 37 (Int.toNat (m 7 3)) 0) (50 + Int.toNat i) 5)) 7 3 (yw ((m 7 3) + 1)))))))))))))))
    refine ⟨fun h1 => ?_, fun h1 => ?_⟩
    · have e1 : m 1 1 = g 1 1 := hF _ _ (by omega) (by omega) (by omega)
      have f0 : m (50 + Int.toNat i) 0 = g (50 + Int.toNat i) 0 := hF _ _ (by omega) (by omega) (by omega)
      have f1 : m (50 + Int.toNat i) 1 = g (50 + Int.toNat i) 1 := hF _ _ (by omega) (by omega) (by omega)
      have f5 : m (50 + Int.toNat i) 5 = g (50 + Int.toNat i) 5 := hF _ _ (by omega) (by omega) (by omega)
      have f8 : m (50 + Int.toNat i) 8 = g (50 + Int.toNat i) 8 := hF _ _ (by omega) (by omega) (by omega)
      have f10 : m (50 + Int.toNat i) 10 = g (50 + Int.toNat i) 10 := hF _ _ (by omega) (by omega) (by omega)
      have hb := @yDn_b (fun q => g (50 + q) 0) t (Int.toNat i)
      omega
    · refine ⟨(by have e1 : m 1 1 = g 1 1 := hF _ _ (by omega) (by omega) (by omega); have f0 : m (50 + Int.toNat i) 0 = g (50 + Int.toNat i) 0 := hF _ _ (by omega) (by omega) (by omega); have f1 : m (50 + Int.toNat i) 1 = g (50 + Int.toNat i) 1 := hF _ _ (by omega) (by omega) (by omega); have f5 : m (50 + Int.toNat i) 5 = g (50 + Int.toNat i) 5 := hF _ _ (by omega) (by omega) (by omega); have f8 : m (50 + Int.toNat i) 8 = g (50 + Int.toNat i) 8 := hF _ _ (by omega) (by omega) (by omega); have f10 : m (50 + Int.toNat i) 10 = g (50 + Int.toNat i) 10 := hF _ _ (by omega) (by omega) (by omega); have hb := @yDn_b (fun q => g (50 + q) 0) t (Int.toNat i); omega), ?_⟩
      refine ⟨fun h2 => ?_, fun h2 => ?_⟩
      · have e1 : m 1 1 = g 1 1 := hF _ _ (by omega) (by omega) (by omega)
        have f0 : m (50 + Int.toNat i) 0 = g (50 + Int.toNat i) 0 := hF _ _ (by omega) (by omega) (by omega)
        have f1 : m (50 + Int.toNat i) 1 = g (50 + Int.toNat i) 1 := hF _ _ (by omega) (by omega) (by omega)
        have f5 : m (50 + Int.toNat i) 5 = g (50 + Int.toNat i) 5 := hF _ _ (by omega) (by omega) (by omega)
        have f8 : m (50 + Int.toNat i) 8 = g (50 + Int.toNat i) 8 := hF _ _ (by omega) (by omega) (by omega)
        have f10 : m (50 + Int.toNat i) 10 = g (50 + Int.toNat i) 10 := hF _ _ (by omega) (by omega) (by omega)
        have hb := @yDn_b (fun q => g (50 + q) 0) t (Int.toNat i)
        have yi : yw (i + 1) = i + 1 := yw_s (i + 1) (by omega) (by omega)
        rw [yi]
        refine ih (i + 1) (by omega) (by omega) m (141, i) hT hF ?_ ?_
        · rw [show Int.toNat (i + 1) = Int.toNat i + 1 by omega, yDn_0 (by show ¬ g (50 + Int.toNat i) 0 = t; omega)]
          exact hN
        · rw [show Int.toNat (i + 1) = Int.toNat i + 1 by omega]
          exact yGa_0 hG (by show ¬ g (50 + Int.toNat i) 0 = t; omega)
      · refine ⟨_, rfl, (by have e1 : m 1 1 = g 1 1 := hF _ _ (by omega) (by omega) (by omega); have f0 : m (50 + Int.toNat i) 0 = g (50 + Int.toNat i) 0 := hF _ _ (by omega) (by omega) (by omega); have f1 : m (50 + Int.toNat i) 1 = g (50 + Int.toNat i) 1 := hF _ _ (by omega) (by omega) (by omega); have f5 : m (50 + Int.toNat i) 5 = g (50 + Int.toNat i) 5 := hF _ _ (by omega) (by omega) (by omega); have f8 : m (50 + Int.toNat i) 8 = g (50 + Int.toNat i) 8 := hF _ _ (by omega) (by omega) (by omega); have f10 : m (50 + Int.toNat i) 10 = g (50 + Int.toNat i) 10 := hF _ _ (by omega) (by omega) (by omega); have hb := @yDn_b (fun q => g (50 + q) 0) t (Int.toNat i); omega), ?_⟩
        intro r4 p50
        refine ⟨fun h6 => ?_, fun h6 => ?_⟩
        · refine ⟨_, rfl, (by have e1 : m 1 1 = g 1 1 := hF _ _ (by omega) (by omega) (by omega); have f0 : m (50 + Int.toNat i) 0 = g (50 + Int.toNat i) 0 := hF _ _ (by omega) (by omega) (by omega); have f1 : m (50 + Int.toNat i) 1 = g (50 + Int.toNat i) 1 := hF _ _ (by omega) (by omega) (by omega); have f5 : m (50 + Int.toNat i) 5 = g (50 + Int.toNat i) 5 := hF _ _ (by omega) (by omega) (by omega); have f8 : m (50 + Int.toNat i) 8 = g (50 + Int.toNat i) 8 := hF _ _ (by omega) (by omega) (by omega); have f10 : m (50 + Int.toNat i) 10 = g (50 + Int.toNat i) 10 := hF _ _ (by omega) (by omega) (by omega); have hb := @yDn_b (fun q => g (50 + q) 0) t (Int.toNat i); omega), ?_⟩
          intro r8 p90
          refine ⟨(by have e1 : m 1 1 = g 1 1 := hF _ _ (by omega) (by omega) (by omega); have f0 : m (50 + Int.toNat i) 0 = g (50 + Int.toNat i) 0 := hF _ _ (by omega) (by omega) (by omega); have f1 : m (50 + Int.toNat i) 1 = g (50 + Int.toNat i) 1 := hF _ _ (by omega) (by omega) (by omega); have f5 : m (50 + Int.toNat i) 5 = g (50 + Int.toNat i) 5 := hF _ _ (by omega) (by omega) (by omega); have f8 : m (50 + Int.toNat i) 8 = g (50 + Int.toNat i) 8 := hF _ _ (by omega) (by omega) (by omega); have f10 : m (50 + Int.toNat i) 10 = g (50 + Int.toNat i) 10 := hF _ _ (by omega) (by omega) (by omega); have hb := @yDn_b (fun q => g (50 + q) 0) t (Int.toNat i); omega), ?_⟩
          refine ⟨(by have e1 : m 1 1 = g 1 1 := hF _ _ (by omega) (by omega) (by omega); have f0 : m (50 + Int.toNat i) 0 = g (50 + Int.toNat i) 0 := hF _ _ (by omega) (by omega) (by omega); have f1 : m (50 + Int.toNat i) 1 = g (50 + Int.toNat i) 1 := hF _ _ (by omega) (by omega) (by omega); have f5 : m (50 + Int.toNat i) 5 = g (50 + Int.toNat i) 5 := hF _ _ (by omega) (by omega) (by omega); have f8 : m (50 + Int.toNat i) 8 = g (50 + Int.toNat i) 8 := hF _ _ (by omega) (by omega) (by omega); have f10 : m (50 + Int.toNat i) 10 = g (50 + Int.toNat i) 10 := hF _ _ (by omega) (by omega) (by omega); have hb := @yDn_b (fun q => g (50 + q) 0) t (Int.toNat i); omega), ?_⟩
          have e1 : m 1 1 = g 1 1 := hF _ _ (by omega) (by omega) (by omega)
          have f0 : m (50 + Int.toNat i) 0 = g (50 + Int.toNat i) 0 := hF _ _ (by omega) (by omega) (by omega)
          have f1 : m (50 + Int.toNat i) 1 = g (50 + Int.toNat i) 1 := hF _ _ (by omega) (by omega) (by omega)
          have f5 : m (50 + Int.toNat i) 5 = g (50 + Int.toNat i) 5 := hF _ _ (by omega) (by omega) (by omega)
          have f8 : m (50 + Int.toNat i) 8 = g (50 + Int.toNat i) 8 := hF _ _ (by omega) (by omega) (by omega)
          have f10 : m (50 + Int.toNat i) 10 = g (50 + Int.toNat i) 10 := hF _ _ (by omega) (by omega) (by omega)
          have hb := @yDn_b (fun q => g (50 + q) 0) t (Int.toNat i)
          have yi : yw (i + 1) = i + 1 := yw_s (i + 1) (by omega) (by omega)
          rw [yi]
          have es : ySv m (Int.toNat i) = ySv g (Int.toNat i) := by
            unfold ySv
            rw [f8, f10]
          rw [es] at p50 p90
          have a5 := hT0.fR (j := 5) (q := (50 + Int.toNat i)) (List.mem_of_getElem? (i := 41) rfl) (by omega) (by omega) rfl
          have eN : Int.toNat (m 7 3) = (yDn (fun q => g (50 + q) 0) t (Int.toNat i)) := by omega
          have ew : (yw (r8 - (m (50 + Int.toNat i) 1))) = yWv g (Int.toNat i) := by
            unfold yWv
            rw [if_neg (by omega), p90, f1]
          have eR : (-2147483648 : Int) ≤ (yw (r8 - (m (50 + Int.toNat i) 1))) ∧ (yw (r8 - (m (50 + Int.toNat i) 1))) ≤ (2147483647 : Int) := yw_rng _
          refine ih (i + 1) (by omega) (by omega) _ (141, i) (((hT.sA (List.mem_of_getElem? (i := 33) rfl) (by decide +kernel) eR).sA (List.mem_of_getElem? (i := 34) rfl) (by decide +kernel) (by rw [yset_nc (by omega)]; omega)).sO (List.mem_of_getElem? (i := 7) rfl) rfl (by decide +kernel) ?_) (fun a b h1 h2 h3 => ?_) ?_ ?_
          · rw [yw_s (m 7 3 + 1) (by omega) (by omega)]
            omega
          · rw [yset_ne h3, yset_nc h2, yset_nc h1]
            exact hF a b h1 h2 h3
          · rw [yset_eq, yw_s (m 7 3 + 1) (by omega) (by omega), show Int.toNat (i + 1) = Int.toNat i + 1 by omega, yDn_1 (by show g (50 + Int.toNat i) 0 = t; omega)]
            omega
          · rw [show Int.toNat (i + 1) = Int.toNat i + 1 by omega]
            rw [eN]
            refine yGa_1 hG ?_ ?_ (fun q hq => ?_) (fun q hq => ?_)
            · rw [yset_nc (by decide), yset_nc (by decide), yset_eq]
              exact ew
            · rw [yset_nc (by decide), yset_eq]
              exact (yset_nc (by omega)).trans f5
            · rw [yset_nc (by decide), yset_nc (by decide), yset_nj hq]
            · rw [yset_nc (by decide), yset_nj hq, yset_nc (by decide)]
        · refine ⟨(by have e1 : m 1 1 = g 1 1 := hF _ _ (by omega) (by omega) (by omega); have f0 : m (50 + Int.toNat i) 0 = g (50 + Int.toNat i) 0 := hF _ _ (by omega) (by omega) (by omega); have f1 : m (50 + Int.toNat i) 1 = g (50 + Int.toNat i) 1 := hF _ _ (by omega) (by omega) (by omega); have f5 : m (50 + Int.toNat i) 5 = g (50 + Int.toNat i) 5 := hF _ _ (by omega) (by omega) (by omega); have f8 : m (50 + Int.toNat i) 8 = g (50 + Int.toNat i) 8 := hF _ _ (by omega) (by omega) (by omega); have f10 : m (50 + Int.toNat i) 10 = g (50 + Int.toNat i) 10 := hF _ _ (by omega) (by omega) (by omega); have hb := @yDn_b (fun q => g (50 + q) 0) t (Int.toNat i); omega), ?_⟩
          refine ⟨(by have e1 : m 1 1 = g 1 1 := hF _ _ (by omega) (by omega) (by omega); have f0 : m (50 + Int.toNat i) 0 = g (50 + Int.toNat i) 0 := hF _ _ (by omega) (by omega) (by omega); have f1 : m (50 + Int.toNat i) 1 = g (50 + Int.toNat i) 1 := hF _ _ (by omega) (by omega) (by omega); have f5 : m (50 + Int.toNat i) 5 = g (50 + Int.toNat i) 5 := hF _ _ (by omega) (by omega) (by omega); have f8 : m (50 + Int.toNat i) 8 = g (50 + Int.toNat i) 8 := hF _ _ (by omega) (by omega) (by omega); have f10 : m (50 + Int.toNat i) 10 = g (50 + Int.toNat i) 10 := hF _ _ (by omega) (by omega) (by omega); have hb := @yDn_b (fun q => g (50 + q) 0) t (Int.toNat i); omega), ?_⟩
          have e1 : m 1 1 = g 1 1 := hF _ _ (by omega) (by omega) (by omega)
          have f0 : m (50 + Int.toNat i) 0 = g (50 + Int.toNat i) 0 := hF _ _ (by omega) (by omega) (by omega)
          have f1 : m (50 + Int.toNat i) 1 = g (50 + Int.toNat i) 1 := hF _ _ (by omega) (by omega) (by omega)
          have f5 : m (50 + Int.toNat i) 5 = g (50 + Int.toNat i) 5 := hF _ _ (by omega) (by omega) (by omega)
          have f8 : m (50 + Int.toNat i) 8 = g (50 + Int.toNat i) 8 := hF _ _ (by omega) (by omega) (by omega)
          have f10 : m (50 + Int.toNat i) 10 = g (50 + Int.toNat i) 10 := hF _ _ (by omega) (by omega) (by omega)
          have hb := @yDn_b (fun q => g (50 + q) 0) t (Int.toNat i)
          have yi : yw (i + 1) = i + 1 := yw_s (i + 1) (by omega) (by omega)
          rw [yi]
          have es : ySv m (Int.toNat i) = ySv g (Int.toNat i) := by
            unfold ySv
            rw [f8, f10]
          rw [es] at p50
          have a5 := hT0.fR (j := 5) (q := (50 + Int.toNat i)) (List.mem_of_getElem? (i := 41) rfl) (by omega) (by omega) rfl
          have eN : Int.toNat (m 7 3) = (yDn (fun q => g (50 + q) 0) t (Int.toNat i)) := by omega
          have ew : 0 = yWv g (Int.toNat i) := by
            unfold yWv
            rw [if_pos (by omega)]
          have eR : (-2147483648 : Int) ≤ 0 ∧ 0 ≤ (2147483647 : Int) := ⟨by decide, by decide⟩
          refine ih (i + 1) (by omega) (by omega) _ (141, i) (((hT.sA (List.mem_of_getElem? (i := 33) rfl) (by decide +kernel) eR).sA (List.mem_of_getElem? (i := 34) rfl) (by decide +kernel) (by rw [yset_nc (by omega)]; omega)).sO (List.mem_of_getElem? (i := 7) rfl) rfl (by decide +kernel) ?_) (fun a b h1 h2 h3 => ?_) ?_ ?_
          · rw [yw_s (m 7 3 + 1) (by omega) (by omega)]
            omega
          · rw [yset_ne h3, yset_nc h2, yset_nc h1]
            exact hF a b h1 h2 h3
          · rw [yset_eq, yw_s (m 7 3 + 1) (by omega) (by omega), show Int.toNat (i + 1) = Int.toNat i + 1 by omega, yDn_1 (by show g (50 + Int.toNat i) 0 = t; omega)]
            omega
          · rw [show Int.toNat (i + 1) = Int.toNat i + 1 by omega]
            rw [eN]
            refine yGa_1 hG ?_ ?_ (fun q hq => ?_) (fun q hq => ?_)
            · rw [yset_nc (by decide), yset_nc (by decide), yset_eq]
              exact ew
            · rw [yset_nc (by decide), yset_eq]
              exact (yset_nc (by omega)).trans f5
            · rw [yset_nc (by decide), yset_nc (by decide), yset_nj hq]
            · rw [yset_nc (by decide), yset_nj hq, yset_nc (by decide)]
set_option maxRecDepth 8000 in
theorem yv_GAT {K : List yV → yM → Prop} {Y : yNx} {g : yM} {t : Int} (hY : yCl zpD93 (zpZ, zpRS, zpP8, zpMT, [yC_SVD], (2, 60), 0) K Y) (hr_t : -2147483648 ≤ t ∧ t ≤ 2147483647) (hp0 : yTy zpZ g) (hK : ∀ (g' : yM), (yTy zpZ g') → (yFg g g') → (g' 7 3 = (yDn (fun q => g (50 + q) 0) t (Int.toNat (g 1 1)))) → (yGa (fun q => g (50 + q) 0) (yWv g) (fun q => g (50 + q) 5) t (g' 37) (g' 38) (Int.toNat (g 1 1))) → K [] g') : Y 0 [(3, 7), (1, t), (0, 0), (0, 0)] [] g := by
  refine yrun_ok (sp := fun pc => Nat.beq pc 7) hY 6 0 _ [] g ?_
  show (Y 7 [(3, 7), (1, t), (1, 0), (0, 0)] [] (yset g 7 3 0))
  have hz := hp0.sz
  exact yl_GAT hY hz hp0 (fun g' q1 q2 q3 q4 => hK g' q1 q2 q3 q4) (Int.toNat (g 1 1)) 0 (by omega) (by decide) _ _ (hp0.sO (List.mem_of_getElem? (i := 7) rfl) rfl (by decide +kernel) ⟨by decide, by decide⟩) (fun a b _ _ h => yset_ne h) yset_eq (fun j hj => absurd hj (by omega))
theorem yM_GAT {l : Launch} {Ts : List Cond} {cl : List vw_C} {RO : zRO} (H : zHyp Ts cl RO) : yMet l Ts cl zpZ RO zpMT yC_GAT := ymet_of2 H.1 H.2.1 zpDj H.2.2.1 yRb H.p8 (ymets_cons (yM_SVD H) ymets_nil) (zrc0 rfl) (plainFor_of_name zpy8) zpDk93 (fun as g K Y h hA hY => by
  obtain ⟨t, rfl, hp0, hK⟩ := h
  exact yv_GAT hY (yAr1 hA (by simp)) hp0 hK)
def yP_SOF : yPT := fun as g K => ∃ (t s z n : Int), as = [(3, 7), (1, t), (1, s), (1, z), (1, n)] ∧ (yTy zpZ g) ∧ (0 ≤ n ∧ n ≤ 200) ∧ (∀ (r : Int) (g' : yM), (yTy zpZ g') → (yFh g g') → (∃ W S : Nat → Int, yGa (fun q => g (50 + q) 0) (yWv g) (fun q => g (50 + q) 5) t W S (Int.toNat (g 1 1)) ∧ r = yTr W s (yZm W S s (yDn (fun q => g (50 + q) 0) t (Int.toNat (g 1 1)))) (yDn (fun q => g (50 + q) 0) t (Int.toNat (g 1 1))) (Int.toNat n) 0 z S) → K [(1, r)] g')
def yC_SOF : yC := (97, (3, 83), yP_SOF)
set_option maxRecDepth 8000 in
theorem yl_SOF {K : List yV → yM → Prop} {Y : yNx} {g : yM} {t s z n w : Int} (hY : yCl zpD97 (zpZ, zpRS, zpP8, zpMT, [yC_GAT, yC_WOF, yC_DRA], (3, 83), 1) K Y) (hn : 0 ≤ n ∧ n ≤ 200) (hz : 0 ≤ g 7 3 ∧ g 7 3 ≤ 40) : ∀ (d : Nat) (i : Int), i + d = n → 0 ≤ i → ∀ (m : yM) (u : Int), yTy zpZ m → yFs g m → (∀ m' : yM, yTy zpZ m' → yFs g m' → K [(1, yTr (g 37) s w (Int.toNat (g 7 3)) d u (m 7 4) (m 38))] m') → Y 23 [(3, 7), (1, t), (1, s), (1, z), (1, n), (1, w), (1, u), (1, i)] [] m := by
  intro d
  induction d with
  | zero =>
    intro i hd h0 m u hT hF hK
    refine yrun_ok (sp := fun pc => Nat.beq pc 23) hY 14 23 _ [] m ?_
    show ((n ≤ i → (K [(1, u)] m)) ∧ (¬ (n ≤ i) → ([(3, 7)] = [(3, 7)] ∧ (yTy zpZ m) ∧ (0 ≤ m 7 3 ∧ m 7 3 ≤ 40) ∧ (∀ (g2 : yM), (yTy zpZ g2) → (yFs m g2) → (g2 7 4 = (yDz (Int.toNat (m 7 3 - 1)) (m 7 4) (m 38)).1) → (g2 38 = (yDz (Int.toNat (m 7 3 - 1)) (m 7 4) (m 38)).2) → (∃ (s4 : Int), [(3, 7), (1, s)] = [(3, 7), (1, s4)] ∧ (0 ≤ g2 7 3 ∧ g2 7 3 ≤ 40) ∧ (∀ (r5 : Int), (r5 = yZm (g2 37) (g2 38) s4 (Int.toNat (g2 7 3))) → ((r5 < w → (Y 23 [(3, 7), (1, t), (1, s), (1, z), (1, n), (1, w), (1, u), (1, (yw (i + 1)))] [] g2)) ∧ (¬ (r5 < w) → (Y 23 [(3, 7), (1, t), (1, s), (1, z), (1, n), (1, w), (1, (yw (u + 1))), (1, (yw (i + 1)))] [] g2)))))))))
    refine ⟨fun h1 => ?_, fun h1 => ?_⟩
    · exact hK m hT hF
    · refine ⟨rfl, (by have e3 : m 7 3 = g 7 3 := hF _ _ (by omega) (by omega); omega), (by have e3 : m 7 3 = g 7 3 := hF _ _ (by omega) (by omega); omega), ?_⟩
      intro g2 p30 p31 p32 p33
      refine ⟨_, rfl, (by have e3 : m 7 3 = g 7 3 := hF _ _ (by omega) (by omega); omega), ?_⟩
      intro r5 p60
      refine ⟨fun h7 => ?_, fun h7 => ?_⟩
      · omega
      · omega
  | succ d ih =>
    intro i hd h0 m u hT hF hK
    refine yrun_ok (sp := fun pc => Nat.beq pc 23) hY 14 23 _ [] m ?_
    show ((n ≤ i → (K [(1, u)] m)) ∧ (¬ (n ≤ i) → ([(3, 7)] = [(3, 7)] ∧ (yTy zpZ m) ∧ (0 ≤ m 7 3 ∧ m 7 3 ≤ 40) ∧ (∀ (g2 : yM), (yTy zpZ g2) → (yFs m g2) → (g2 7 4 = (yDz (Int.toNat (m 7 3 - 1)) (m 7 4) (m 38)).1) → (g2 38 = (yDz (Int.toNat (m 7 3 - 1)) (m 7 4) (m 38)).2) → (∃ (s4 : Int), [(3, 7), (1, s)] = [(3, 7), (1, s4)] ∧ (0 ≤ g2 7 3 ∧ g2 7 3 ≤ 40) ∧ (∀ (r5 : Int), (r5 = yZm (g2 37) (g2 38) s4 (Int.toNat (g2 7 3))) → ((r5 < w → (Y 23 [(3, 7), (1, t), (1, s), (1, z), (1, n), (1, w), (1, u), (1, (yw (i + 1)))] [] g2)) ∧ (¬ (r5 < w) → (Y 23 [(3, 7), (1, t), (1, s), (1, z), (1, n), (1, w), (1, (yw (u + 1))), (1, (yw (i + 1)))] [] g2)))))))))
    refine ⟨fun h1 => ?_, fun h1 => ?_⟩
    · omega
    · refine ⟨rfl, (hT), (by have e3 : m 7 3 = g 7 3 := hF _ _ (by omega) (by omega); omega), ?_⟩
      intro g2 p30 p31 p32 p33
      refine ⟨_, rfl, (by have e3 : m 7 3 = g 7 3 := hF _ _ (by omega) (by omega); have e4 : g2 7 3 = m 7 3 := p31 _ _ (by omega) (by omega); omega), ?_⟩
      intro r5 p60
      refine ⟨fun h7 => ?_, fun h7 => ?_⟩
      · have e3 : m 7 3 = g 7 3 := hF _ _ (by omega) (by omega)
        have e4 : g2 7 3 = g 7 3 := (p31 _ _ (by omega) (by omega)).trans e3
        have e5 : g2 37 = g 37 := funext fun q => (p31 37 q (by omega) (by omega)).trans (hF 37 q (by omega) (by omega))
        rw [e4, e5, p33, e3] at p60
        have en : Int.toNat (g 7 3 - 1) = Int.toNat (g 7 3) - 1 := by omega
        rw [en] at p60
        have yi : yw (i + 1) = i + 1 := yw_s (i + 1) (by omega) (by omega)
        rw [yi]
        refine ih (i + 1) (by omega) (by omega) _ _ p30 (fun a b h1 h2 => (p31 a b h1 h2).trans (hF a b h1 h2)) (fun m' q1 q2 => ?_)
        have h9 := hK m' q1 q2
        rw [show yTr (g 37) s w (Int.toNat (g 7 3)) (d + 1) u (m 7 4) (m 38) = yTr (g 37) s w (Int.toNat (g 7 3)) d (if w ≤ yZm (g 37) (yDz (Int.toNat (g 7 3) - 1) (m 7 4) (m 38)).2 s (Int.toNat (g 7 3)) then yw (u + 1) else u) (yDz (Int.toNat (g 7 3) - 1) (m 7 4) (m 38)).1 (yDz (Int.toNat (g 7 3) - 1) (m 7 4) (m 38)).2 from rfl, if_neg (by omega)] at h9
        rw [p32, p33, e3, en]
        exact h9
      · have e3 : m 7 3 = g 7 3 := hF _ _ (by omega) (by omega)
        have e4 : g2 7 3 = g 7 3 := (p31 _ _ (by omega) (by omega)).trans e3
        have e5 : g2 37 = g 37 := funext fun q => (p31 37 q (by omega) (by omega)).trans (hF 37 q (by omega) (by omega))
        rw [e4, e5, p33, e3] at p60
        have en : Int.toNat (g 7 3 - 1) = Int.toNat (g 7 3) - 1 := by omega
        rw [en] at p60
        have yi : yw (i + 1) = i + 1 := yw_s (i + 1) (by omega) (by omega)
        rw [yi]
        refine ih (i + 1) (by omega) (by omega) _ _ p30 (fun a b h1 h2 => (p31 a b h1 h2).trans (hF a b h1 h2)) (fun m' q1 q2 => ?_)
        have h9 := hK m' q1 q2
        rw [show yTr (g 37) s w (Int.toNat (g 7 3)) (d + 1) u (m 7 4) (m 38) = yTr (g 37) s w (Int.toNat (g 7 3)) d (if w ≤ yZm (g 37) (yDz (Int.toNat (g 7 3) - 1) (m 7 4) (m 38)).2 s (Int.toNat (g 7 3)) then yw (u + 1) else u) (yDz (Int.toNat (g 7 3) - 1) (m 7 4) (m 38)).1 (yDz (Int.toNat (g 7 3) - 1) (m 7 4) (m 38)).2 from rfl, if_pos (by omega)] at h9
        rw [p32, p33, e3, en]
        exact h9
set_option maxRecDepth 8000 in
theorem yv_SOF {K : List yV → yM → Prop} {Y : yNx} {g : yM} {t s z n : Int} (hY : yCl zpD97 (zpZ, zpRS, zpP8, zpMT, [yC_GAT, yC_WOF, yC_DRA], (3, 83), 1) K Y) (hr_t : -2147483648 ≤ t ∧ t ≤ 2147483647) (hr_s : -2147483648 ≤ s ∧ s ≤ 2147483647) (hr_z : -2147483648 ≤ z ∧ z ≤ 2147483647) (hr_n : -2147483648 ≤ n ∧ n ≤ 2147483647) (hp0 : yTy zpZ g) (hp1 : 0 ≤ n ∧ n ≤ 200) (hK : ∀ (r : Int) (g' : yM), (yTy zpZ g') → (yFh g g') → (∃ W S : Nat → Int, yGa (fun q => g (50 + q) 0) (yWv g) (fun q => g (50 + q) 5) t W S (Int.toNat (g 1 1)) ∧ r = yTr W s (yZm W S s (yDn (fun q => g (50 + q) 0) t (Int.toNat (g 1 1)))) (yDn (fun q => g (50 + q) 0) t (Int.toNat (g 1 1))) (Int.toNat n) 0 z S) → K [(1, r)] g') : Y 0 [(3, 7), (1, t), (1, s), (1, z), (1, n), (0, 0), (0, 0), (0, 0)] [] g := by
  refine yrun_ok (sp := fun pc => Nat.beq pc 23) hY 15 0 _ [] g ?_
  show (∃ (t1 : Int), [(3, 7), (1, t)] = [(3, 7), (1, t1)] ∧ (yTy zpZ g) ∧ (∀ (g2 : yM), (yTy zpZ g2) → (yFg g g2) → (g2 7 3 = (yDn (fun q => g (50 + q) 0) t1 (Int.toNat (g 1 1)))) → (yGa (fun q => g (50 + q) 0) (yWv g) (fun q => g (50 + q) 5) t1 (g2 37) (g2 38) (Int.toNat (g 1 1))) → (∃ (s4 : Int), [(3, 7), (1, s)] = [(3, 7), (1, s4)] ∧ (0 ≤ (yset g2 7 4 z) 7 3 ∧ (yset g2 7 4 z) 7 3 ≤ 40) ∧ (∀ (r5 : Int), (r5 = yZm ((yset g2 7 4 z) 37) ((yset g2 7 4 z) 38) s4 (Int.toNat ((yset g2 7 4 z) 7 3))) → (Y 23 [(3, 7), (1, t), (1, s), (1, z), (1, n), (1, r5), (1, 0), (1, 0)] [] (yset g2 7 4 z))))))
  refine ⟨_, rfl, (hp0), ?_⟩
  intro g2 p30 p31 p32 p33
  refine ⟨_, rfl, (by have hz := hp0.sz; have hb := @yDn_b (fun q => g (50 + q) 0) t (Int.toNat (g 1 1)); have e2 := p32; have e3 : (yset g2 7 4 z) 7 3 = g2 7 3 := yset_nj (by decide); omega), ?_⟩
  intro r5 p60
  have hz := hp0.sz
  have hb := @yDn_b (fun q => g (50 + q) 0) t (Int.toNat (g 1 1))
  have e2 := p32
  have e3 : (yset g2 7 4 z) 7 3 = g2 7 3 := yset_nj (by decide)
  have e7 : (yset g2 7 4 z) 37 = g2 37 := funext fun q => yset_nc (by decide)
  have e8 : (yset g2 7 4 z) 38 = g2 38 := funext fun q => yset_nc (by decide)
  have eN : Int.toNat (g2 7 3) = (yDn (fun q => g (50 + q) 0) t (Int.toNat (g 1 1))) := by omega
  refine yl_SOF (g := (yset g2 7 4 z)) (w := r5) hY hp1 (by omega) (Int.toNat n) 0 (by omega) (by decide) _ 0 (p30.sO (List.mem_of_getElem? (i := 7) rfl) rfl (by decide +kernel) ⟨by omega, by omega⟩) (fun _ _ _ _ => rfl) (fun m' q1 q2 => hK _ m' q1 (fun a b h1 h2 h3 => (q2 a b h2 (by omega)).trans ((yset_ne (by omega)).trans (p31 a b h1 h2 (by omega)))) ⟨g2 37, g2 38, p33, ?_⟩)
  rw [p60]
  rw [e3, e7, e8, eN, yset_eq]
theorem yM_SOF {l : Launch} {Ts : List Cond} {cl : List vw_C} {RO : zRO} (H : zHyp Ts cl RO) : yMet l Ts cl zpZ RO zpMT yC_SOF := ymet_of2 H.1 H.2.1 zpDj H.2.2.1 yRb H.p8 (ymets_cons (yM_GAT H) (ymets_cons (yM_WOF H) (ymets_cons (yM_DRA H) ymets_nil))) (zrc1 rfl) (plainFor_of_name zpy8) zpDk97 (fun as g K Y h hA hY => by
  obtain ⟨t, s, z, n, rfl, hp0, hp1, hK⟩ := h
  exact yv_SOF hY (yAr1 hA (by simp)) (yAr1 hA (by simp)) (yAr1 hA (by simp)) (yAr1 hA (by simp)) hp0 hp1 hK)
def yP_CSE : yPT := fun as g K => ∃ (s z n : Int), as = [(3, 0), (1, s), (1, z), (1, n)] ∧ (yTy zpZ g) ∧ (∀ (r : Int) (g' : yM), (¬ (0 ≤ (yb (fun x y => x / y) s 10) ∧ (yb (fun x y => x / y) s 10) < 4 ∧ 0 ≤ (yb (fun x y => x - x / y * y) s 10) ∧ (yb (fun x y => x - x / y * y) s 10) < 8 ∧ 1 ≤ n ∧ n ≤ 200) → r = -1 ∧ g' = g) → ((0 ≤ (yb (fun x y => x / y) s 10) ∧ (yb (fun x y => x / y) s 10) < 4 ∧ 0 ≤ (yb (fun x y => x - x / y * y) s 10) ∧ (yb (fun x y => x - x / y * y) s 10) < 8 ∧ 1 ≤ n ∧ n ≤ 200) → yTy zpZ g' ∧ yFh g g' ∧ ∃ W S : Nat → Int, yGa (fun q => g (50 + q) 0) (yWv g) (fun q => g (50 + q) 5) (yb (fun x y => x / y) s 10) W S (Int.toNat (g 1 1)) ∧ r = yTr W (yb (fun x y => x - x / y * y) s 10) (yZm W S (yb (fun x y => x - x / y * y) s 10) (yDn (fun q => g (50 + q) 0) (yb (fun x y => x / y) s 10) (Int.toNat (g 1 1)))) (yDn (fun q => g (50 + q) 0) (yb (fun x y => x / y) s 10) (Int.toNat (g 1 1))) (Int.toNat n) 0 z S) → K [(1, r)] g')
def yC_CSE : yC := (30, (4, 110), yP_CSE)
set_option maxRecDepth 8000 in
theorem yv_CSE {K : List yV → yM → Prop} {Y : yNx} {g : yM} {s z n : Int} (hY : yCl zpD30 (zpZ, zpRS, zpP0, zpMT, [yC_W, yC_SOF], (4, 110), 1) K Y) (hr_s : -2147483648 ≤ s ∧ s ≤ 2147483647) (hr_z : -2147483648 ≤ z ∧ z ≤ 2147483647) (hr_n : -2147483648 ≤ n ∧ n ≤ 2147483647) (hp0 : yTy zpZ g) (hK : ∀ (r : Int) (g' : yM), (¬ (0 ≤ (yb (fun x y => x / y) s 10) ∧ (yb (fun x y => x / y) s 10) < 4 ∧ 0 ≤ (yb (fun x y => x - x / y * y) s 10) ∧ (yb (fun x y => x - x / y * y) s 10) < 8 ∧ 1 ≤ n ∧ n ≤ 200) → r = -1 ∧ g' = g) → ((0 ≤ (yb (fun x y => x / y) s 10) ∧ (yb (fun x y => x / y) s 10) < 4 ∧ 0 ≤ (yb (fun x y => x - x / y * y) s 10) ∧ (yb (fun x y => x - x / y * y) s 10) < 8 ∧ 1 ≤ n ∧ n ≤ 200) → yTy zpZ g' ∧ yFh g g' ∧ ∃ W S : Nat → Int, yGa (fun q => g (50 + q) 0) (yWv g) (fun q => g (50 + q) 5) (yb (fun x y => x / y) s 10) W S (Int.toNat (g 1 1)) ∧ r = yTr W (yb (fun x y => x - x / y * y) s 10) (yZm W S (yb (fun x y => x - x / y * y) s 10) (yDn (fun q => g (50 + q) 0) (yb (fun x y => x / y) s 10) (Int.toNat (g 1 1)))) (yDn (fun q => g (50 + q) 0) (yb (fun x y => x / y) s 10) (Int.toNat (g 1 1))) (Int.toNat n) 0 z S) → K [(1, r)] g') : Y 0 [(3, 0), (1, s), (1, z), (1, n), (0, 0), (0, 0)] [] g := by
  refine yrun_ok (sp := fun pc => false) hY 30 0 _ [] g ?_
  show ((10 : Int) ≠ 0 ∧ ((10 : Int) ≠ 0 ∧ (∃ (v1 b2 : Int), [(1, (yb (fun x y => x / y) s 10)), (1, 4)] = [(1, v1), (1, b2)] ∧ (∀ (r3 : Int), ((r3 = 1 ∧ 0 ≤ v1 ∧ v1 < b2) ∨ (r3 = 0 ∧ (v1 < 0 ∨ b2 ≤ v1))) → ((r3 = 0 → (K [(1, (-1))] g)) ∧ (¬ (r3 = 0) → (∃ (v6 b7 : Int), [(1, (yb (fun x y => x - x / y * y) s 10)), (1, 8)] = [(1, v6), (1, b7)] ∧ (∀ (r8 : Int), ((r8 = 1 ∧ 0 ≤ v6 ∧ v6 < b7) ∨ (r8 = 0 ∧ (v6 < 0 ∨ b7 ≤ v6))) → ((r8 = 0 → (K [(1, (-1))] g)) ∧ (¬ (r8 = 0) → ((n < 1 → (K [(1, (-1))] g)) ∧ (¬ (n < 1) → ((n ≤ 200 → (∃ (t13 s14 z15 n16 : Int), [(3, 7), (1, (yb (fun x y => x / y) s 10)), (1, (yb (fun x y => x - x / y * y) s 10)), (1, z), (1, n)] = [(3, 7), (1, t13), (1, s14), (1, z15), (1, n16)] ∧ (yTy zpZ g) ∧ (0 ≤ n16 ∧ n16 ≤ 200) ∧ (∀ (r17 : Int) (g18 : yM), (yTy zpZ g18) → (yFh g g18) → (∃ W S : Nat → Int, yGa (fun q => g (50 + q) 0) (yWv g) (fun q => g (50 + q) 5) t13 W S (Int.toNat (g 1 1)) ∧ r17 = yTr W s14 (yZm W S s14 (yDn (fun q => g (50 + q) 0) t13 (Int.toNat (g 1 1)))) (yDn (fun q => g (50 + q) 0) t13 (Int.toNat (g 1 1))) (Int.toNat n16) 0 z15 S) → (K [(1, r17)] g18)))) ∧ (¬ (n ≤ 200) → (K [(1, (-1))] g)))))))))))))))
  refine ⟨(by have q1 := yb_rng (fun x y => x / y) s 10; have q2 := yb_rng (fun x y => x - x / y * y) s 10; have q3 := yq10 hr_s; omega), ?_⟩
  refine ⟨(by have q1 := yb_rng (fun x y => x / y) s 10; have q2 := yb_rng (fun x y => x - x / y * y) s 10; have q3 := yq10 hr_s; omega), ?_⟩
  refine ⟨_, _, rfl, ?_⟩
  intro r3 p40
  refine ⟨fun h5 => ?_, fun h5 => ?_⟩
  · have q1 := yb_rng (fun x y => x / y) s 10
    have q2 := yb_rng (fun x y => x - x / y * y) s 10
    have q3 := yq10 hr_s
    exact hK _ _ (fun _ => ⟨rfl, rfl⟩) (fun h => absurd h (by omega))
  · refine ⟨_, _, rfl, ?_⟩
    intro r8 p90
    refine ⟨fun h10 => ?_, fun h10 => ?_⟩
    · have q1 := yb_rng (fun x y => x / y) s 10
      have q2 := yb_rng (fun x y => x - x / y * y) s 10
      have q3 := yq10 hr_s
      exact hK _ _ (fun _ => ⟨rfl, rfl⟩) (fun h => absurd h (by omega))
    · refine ⟨fun h11 => ?_, fun h11 => ?_⟩
      · have q1 := yb_rng (fun x y => x / y) s 10
        have q2 := yb_rng (fun x y => x - x / y * y) s 10
        have q3 := yq10 hr_s
        exact hK _ _ (fun _ => ⟨rfl, rfl⟩) (fun h => absurd h (by omega))
      · refine ⟨fun h12 => ?_, fun h12 => ?_⟩
        · refine ⟨_, _, _, _, rfl, (hp0), (by have q1 := yb_rng (fun x y => x / y) s 10; have q2 := yb_rng (fun x y => x - x / y * y) s 10; have q3 := yq10 hr_s; omega), ?_⟩
          intro r17 g18 p190 p191 p192
          have q1 := yb_rng (fun x y => x / y) s 10
          have q2 := yb_rng (fun x y => x - x / y * y) s 10
          have q3 := yq10 hr_s
          exact hK _ _ (fun h => absurd (by omega) h) (fun _ => ⟨p190, p191, p192⟩)
        · have q1 := yb_rng (fun x y => x / y) s 10
          have q2 := yb_rng (fun x y => x - x / y * y) s 10
          have q3 := yq10 hr_s
          exact hK _ _ (fun _ => ⟨rfl, rfl⟩) (fun h => absurd h (by omega))
theorem yM_CSE {l : Launch} {Ts : List Cond} {cl : List vw_C} {RO : zRO} (H : zHyp Ts cl RO) : yMet l Ts cl zpZ RO zpMT yC_CSE := ymet_of2 H.1 H.2.1 zpDj H.2.2.1 yRb H.p0 (ymets_cons (yM_W H) (ymets_cons (yM_SOF H) ymets_nil)) (zrc1 rfl) (plainFor_of_name zpy0) zpDk30 (fun as g K Y h hA hY => by
  obtain ⟨s, z, n, rfl, hp0, hK⟩ := h
  exact yv_CSE hY (yAr1 hA (by simp)) (yAr1 hA (by simp)) (yAr1 hA (by simp)) hp0 hK)
def yP_WIN : yPT := fun as g K => ∃ (n s : Int), as = [(3, 90), (1, n), (1, s)] ∧ (yTy zpZ g) ∧ (0 ≤ n ∧ n ≤ 40) ∧ (∀ (r : Int), (r = yZm (yWr g) (g 119) s (Int.toNat n)) → K [(1, r)] g)
def yC_WIN : yC := (209, (1, 40), yP_WIN)
set_option maxRecDepth 8000 in
theorem yl_WIN {K : List yV → yM → Prop} {Y : yNx} {g : yM} {n s : Int} (hY : yCl zpD209 (zpZ, zpRS, zpP12, zpMT, [], (1, 40), 1) K Y) (hT : yTy zpZ g) (hn : 0 ≤ n ∧ n ≤ 40) (hK : K [(1, yZm (yWr g) (g 119) s (Int.toNat n))] g) : ∀ (d : Nat) (i : Int), i + d = n → 0 ≤ i → ∀ w5 : yV, Y 5 [(3, 90), (1, n), (1, s), (1, yZm (yWr g) (g 119) s (Int.toNat i)), (1, i), w5] [] g := by
  intro d
  induction d with
  | zero =>
    intro i hd h0 w5
    refine yrun_ok (sp := fun pc => Nat.beq pc 5) hY 35 5 _ [] g ?_
    show ((n ≤ i → (K [(1, yZm (yWr g) (g 119) s (Int.toNat i))] g)) ∧ (¬ (n ≤ i) → (((0 : Int) ≤ i ∧ i < ((40 : Nat) : Int)) ∧ (((0 : Int) ≤ i ∧ i < ((40 : Nat) : Int)) ∧ (((g 119 (Int.toNat i)) ≠ s → (Y 5 [(3, 90), (1, n), (1, s), (1, (yw (yZm (yWr g) (g 119) s (Int.toNat i) + 0))), (1, (yw (i + 1))), (1, (g 118 (Int.toNat i)))] [] g)) ∧ (¬ ((g 119 (Int.toNat i)) ≠ s) → (((0 : Int) ≤ (g 118 (Int.toNat i)) ∧ (g 118 (Int.toNat i)) < ((40 : Nat) : Int)) ∧ (((g 111 (Int.toNat (g 118 (Int.toNat i)))) < 0 → (Y 5 [(3, 90), (1, n), (1, s), (1, (yw (yZm (yWr g) (g 119) s (Int.toNat i) + 0))), (1, (yw (i + 1))), (1, (g 118 (Int.toNat i)))] [] g)) ∧ (¬ ((g 111 (Int.toNat (g 118 (Int.toNat i)))) < 0) → (((0 : Int) ≤ (g 118 (Int.toNat i)) ∧ (g 118 (Int.toNat i)) < ((40 : Nat) : Int)) ∧ (((0 : Int) ≤ (g 118 (Int.toNat i)) ∧ (g 118 (Int.toNat i)) < ((53 : Nat) : Int)) ∧ (Y 5 [(3, 90), (1, n), (1, s), (1, (yw (yZm (yWr g) (g 119) s (Int.toNat i) + (yw ((g 111 (Int.toNat (g 118 (Int.toNat i)))) - (g 91 (Int.toNat (g 118 (Int.toNat i))))))))), (1, (yw (i + 1))), (1, (g 118 (Int.toNat i)))] [] g))))))))))))
    refine ⟨fun h1 => ?_, fun h1 => ?_⟩
    · obtain rfl : i = n := by omega
      exact hK
    · refine ⟨(by omega), ?_⟩
      refine ⟨(by omega), ?_⟩
      refine ⟨fun h2 => ?_, fun h2 => ?_⟩
      · omega
      · refine ⟨(by omega), ?_⟩
        refine ⟨fun h3 => ?_, fun h3 => ?_⟩
        · omega
        · refine ⟨(by omega), ?_⟩
          refine ⟨(by omega), ?_⟩
          omega
  | succ d ih =>
    intro i hd h0 w5
    refine yrun_ok (sp := fun pc => Nat.beq pc 5) hY 35 5 _ [] g ?_
    show ((n ≤ i → (K [(1, yZm (yWr g) (g 119) s (Int.toNat i))] g)) ∧ (¬ (n ≤ i) → (((0 : Int) ≤ i ∧ i < ((40 : Nat) : Int)) ∧ (((0 : Int) ≤ i ∧ i < ((40 : Nat) : Int)) ∧ (((g 119 (Int.toNat i)) ≠ s → (Y 5 [(3, 90), (1, n), (1, s), (1, (yw (yZm (yWr g) (g 119) s (Int.toNat i) + 0))), (1, (yw (i + 1))), (1, (g 118 (Int.toNat i)))] [] g)) ∧ (¬ ((g 119 (Int.toNat i)) ≠ s) → (((0 : Int) ≤ (g 118 (Int.toNat i)) ∧ (g 118 (Int.toNat i)) < ((40 : Nat) : Int)) ∧ (((g 111 (Int.toNat (g 118 (Int.toNat i)))) < 0 → (Y 5 [(3, 90), (1, n), (1, s), (1, (yw (yZm (yWr g) (g 119) s (Int.toNat i) + 0))), (1, (yw (i + 1))), (1, (g 118 (Int.toNat i)))] [] g)) ∧ (¬ ((g 111 (Int.toNat (g 118 (Int.toNat i)))) < 0) → (((0 : Int) ≤ (g 118 (Int.toNat i)) ∧ (g 118 (Int.toNat i)) < ((40 : Nat) : Int)) ∧ (((0 : Int) ≤ (g 118 (Int.toNat i)) ∧ (g 118 (Int.toNat i)) < ((53 : Nat) : Int)) ∧ (Y 5 [(3, 90), (1, n), (1, s), (1, (yw (yZm (yWr g) (g 119) s (Int.toNat i) + (yw ((g 111 (Int.toNat (g 118 (Int.toNat i)))) - (g 91 (Int.toNat (g 118 (Int.toNat i))))))))), (1, (yw (i + 1))), (1, (g 118 (Int.toNat i)))] [] g))))))))))))
    refine ⟨fun h1 => ?_, fun h1 => ?_⟩
    · omega
    · refine ⟨(by have hq := hT.fA (j := Int.toNat i) (List.mem_of_getElem? (i := 70) rfl) (by omega); omega), ?_⟩
      refine ⟨(by have hq := hT.fA (j := Int.toNat i) (List.mem_of_getElem? (i := 70) rfl) (by omega); omega), ?_⟩
      refine ⟨fun h2 => ?_, fun h2 => ?_⟩
      · have yi : yw (i + 1) = i + 1 := yw_s (i + 1) (by omega) (by omega)
        have e : yZm (yWr g) (g 119) s (Int.toNat (i + 1)) = (yw (yZm (yWr g) (g 119) s (Int.toNat i) + 0)) := by
          rw [show Int.toNat (i + 1) = Int.toNat i + 1 by omega]
          have hr := @yZm_r (yWr g) (g 119) s (Int.toNat i)
          rw [yZm_0 (by omega), Int.add_zero, yw_s (yZm (yWr g) (g 119) s (Int.toNat i)) (by omega) (by omega)]
        have h9 := ih (i + 1) (by omega) (by omega) (1, (g 118 (Int.toNat i)))
        rw [e] at h9
        rw [yi]
        exact h9
      · refine ⟨(by have hq := hT.fA (j := Int.toNat i) (List.mem_of_getElem? (i := 70) rfl) (by omega); omega), ?_⟩
        refine ⟨fun h3 => ?_, fun h3 => ?_⟩
        · have yi : yw (i + 1) = i + 1 := yw_s (i + 1) (by omega) (by omega)
          have e : yZm (yWr g) (g 119) s (Int.toNat (i + 1)) = (yw (yZm (yWr g) (g 119) s (Int.toNat i) + 0)) := by
            rw [show Int.toNat (i + 1) = Int.toNat i + 1 by omega]
            rw [yZm_1 (by omega)]
            have ew : yWr g (Int.toNat i) = 0 := if_neg (by omega)
            rw [ew]
          have h9 := ih (i + 1) (by omega) (by omega) (1, (g 118 (Int.toNat i)))
          rw [e] at h9
          rw [yi]
          exact h9
        · refine ⟨(by have hq := hT.fA (j := Int.toNat i) (List.mem_of_getElem? (i := 70) rfl) (by omega); omega), ?_⟩
          refine ⟨(by have hq := hT.fA (j := Int.toNat i) (List.mem_of_getElem? (i := 70) rfl) (by omega); omega), ?_⟩
          have yi : yw (i + 1) = i + 1 := yw_s (i + 1) (by omega) (by omega)
          have e : yZm (yWr g) (g 119) s (Int.toNat (i + 1)) = (yw (yZm (yWr g) (g 119) s (Int.toNat i) + (yw ((g 111 (Int.toNat (g 118 (Int.toNat i)))) - (g 91 (Int.toNat (g 118 (Int.toNat i)))))))) := by
            rw [show Int.toNat (i + 1) = Int.toNat i + 1 by omega]
            rw [yZm_1 (by omega)]
            have ew : yWr g (Int.toNat i) = yw (g 111 (Int.toNat (g 118 (Int.toNat i))) - g 91 (Int.toNat (g 118 (Int.toNat i)))) := if_pos (by omega)
            rw [ew]
          have h9 := ih (i + 1) (by omega) (by omega) (1, (g 118 (Int.toNat i)))
          rw [e] at h9
          rw [yi]
          exact h9
set_option maxRecDepth 8000 in
theorem yv_WIN {K : List yV → yM → Prop} {Y : yNx} {g : yM} {n s : Int} (hY : yCl zpD209 (zpZ, zpRS, zpP12, zpMT, [], (1, 40), 1) K Y) (hr_n : -2147483648 ≤ n ∧ n ≤ 2147483647) (hr_s : -2147483648 ≤ s ∧ s ≤ 2147483647) (hp0 : yTy zpZ g) (hp1 : 0 ≤ n ∧ n ≤ 40) (hK : ∀ (r : Int), (r = yZm (yWr g) (g 119) s (Int.toNat n)) → K [(1, r)] g) : Y 0 [(3, 90), (1, n), (1, s), (0, 0), (0, 0), (0, 0)] [] g := by
  refine yrun_ok (sp := fun pc => Nat.beq pc 5) hY 5 0 _ [] g ?_
  show (Y 5 [(3, 90), (1, n), (1, s), (1, 0), (1, 0), (0, 0)] [] g)
  exact yl_WIN hY hp0 hp1 (hK _ rfl) (Int.toNat n) 0 (by omega) (by decide) _
theorem yM_WIN {l : Launch} {Ts : List Cond} {cl : List vw_C} {RO : zRO} (H : zHyp Ts cl RO) : yMet l Ts cl zpZ RO zpMT yC_WIN := ymet_of2 H.1 H.2.1 zpDj H.2.2.1 yRb H.p12 ymets_nil (zrc1 rfl) (plainFor_of_name zpy12) zpDk209 (fun as g K Y h hA hY => by
  obtain ⟨n, s, rfl, hp0, hp1, hK⟩ := h
  exact yv_WIN hY (yAr1 hA (by simp)) (yAr1 hA (by simp)) hp0 hp1 hK)
def yP_MSE : yPT := fun as g K => ∃ (s z n : Int), as = [(3, 90), (1, s), (1, z), (1, n)] ∧ (yTy zpZ g) ∧ (0 ≤ g 90 22 ∧ g 90 22 ≤ 40) ∧ (0 ≤ g 90 6 ∧ g 90 6 ≤ 12) ∧ (∀ n : Nat, (n : Int) < g 90 22 → (0 ≤ g 104 n ∧ g 104 n ≤ 5) ∧ g 102 n ≤ 719) ∧ (∀ (r : Int) (g' : yM), (¬ (0 ≤ (yb (fun x y => x / y) s 10) ∧ (yb (fun x y => x / y) s 10) < 4 ∧ 0 ≤ (yb (fun x y => x - x / y * y) s 10) ∧ (yb (fun x y => x - x / y * y) s 10) < 8 ∧ 1 ≤ n ∧ n ≤ 200) → r = -1 ∧ g' = g) → ((0 ≤ (yb (fun x y => x / y) s 10) ∧ (yb (fun x y => x / y) s 10) < 4 ∧ 0 ≤ (yb (fun x y => x - x / y * y) s 10) ∧ (yb (fun x y => x - x / y * y) s 10) < 8 ∧ 1 ≤ n ∧ n ≤ 200) → ∃ m : yM, yFd g m ∧ yTy zpZ g' ∧ yFr m g' ∧ ∃ A S : Nat → Int, (∀ q : Nat, q < 40 → 0 ≤ A q ∧ A q ≤ 39) ∧ yGa (fun q => g 101 q) (fun q => (q : Int)) (fun q => g 105 q) (yb (fun x y => x / y) s 10) A S (Int.toNat (g 90 22)) ∧ r = yTr (fun q => if 0 ≤ m 111 (Int.toNat (A q)) then yw (m 111 (Int.toNat (A q)) - m 91 (Int.toNat (A q))) else 0) (yb (fun x y => x - x / y * y) s 10) (yZm (fun q => if 0 ≤ m 111 (Int.toNat (A q)) then yw (m 111 (Int.toNat (A q)) - m 91 (Int.toNat (A q))) else 0) S (yb (fun x y => x - x / y * y) s 10) (yDn (fun q => g 101 q) (yb (fun x y => x / y) s 10) (Int.toNat (g 90 22)))) (yDn (fun q => g 101 q) (yb (fun x y => x / y) s 10) (Int.toNat (g 90 22))) (Int.toNat n) 0 z S) → K [(1, r)] g')
def yC_MSE : yC := (196, (5, 134), yP_MSE)
set_option maxRecDepth 8000 in
theorem yl_MSEd {K : List yV → yM → Prop} {Y : yNx} {s z n a w o k : Int} (hY : yCl zpD196 (zpZ, zpRS, zpP12, zpMT, [yC_IDY, yC_WM, yC_FS, yC_WIN], (5, 134), 1) K Y) : ∀ (d : Nat) (i : Int), Int.toNat i = d → -1 ≤ i ∧ i ≤ 39 → ∀ (g : yM) (x : Int) (w10 w11 : yV), yTy zpZ g → (∀ (g' : yM) (w9 w10 w11 : yV), yTy zpZ g' → (∀ a b : Nat, a ≠ 119 → g' a b = g a b) → g' 119 = (yDz d x (g 119)).2 → Y 202 [(3, 90), (1, s), (1, z), (1, n), (1, a), (1, w), (1, (yDz d x (g 119)).1), (1, o), (1, k), w9, w10, w11] [] g') → Y 135 [(3, 90), (1, s), (1, z), (1, n), (1, a), (1, w), (1, x), (1, o), (1, k), (1, i), w10, w11] [] g := by
  intro d
  induction d with
  | zero =>
    intro i hd hi g x w10 w11 hT hK
    refine yrun_ok (sp := fun pc => Nat.beq pc 135 || Nat.beq pc 202) hY 37 135 _ [] g ?_
    show ((i ≤ 0 → (Y 202 [(3, 90), (1, s), (1, z), (1, n), (1, a), (1, w), (1, x), (1, o), (1, k), (1, i), w10, w11] [] g)) ∧ (¬ (i ≤ 0) → (((yw (i + 1)) : Int) ≠ 0 ∧ (((0 : Int) ≤ i ∧ i < ((40 : Nat) : Int)) ∧ (((0 : Int) ≤ (yb (fun x y => x - x / y * y) (yb (fun x y => (x.toUInt32 >>> (y.toUInt32 &&& Int32.toUInt32 31)).toInt32) (yw ((yw (x * 1103515245)) + 12345)) 8) (yw (i + 1))) ∧ (yb (fun x y => x - x / y * y) (yb (fun x y => (x.toUInt32 >>> (y.toUInt32 &&& Int32.toUInt32 31)).toInt32) (yw ((yw (x * 1103515245)) + 12345)) 8) (yw (i + 1))) < ((40 : Nat) : Int)) ∧ (((0 : Int) ≤ i ∧ i < ((40 : Nat) : Int)) ∧ (((0 : Int) ≤ (yb (fun x y => x - x / y * y) (yb (fun x y => (x.toUInt32 >>> (y.toUInt32 &&& Int32.toUInt32 31)).toInt32) (yw ((yw (x * 1103515245)) + 12345)) 8) (yw (i + 1))) ∧ (yb (fun x y => x - x / y * y) (yb (fun x y => (x.toUInt32 >>> (y.toUInt32 &&& Int32.toUInt32 31)).toInt32) (yw ((yw (x * 1103515245)) + 12345)) 8) (yw (i + 1))) < ((40 : Nat) : Int)) ∧ (Y 135 [(3, 90), (1, s), (1, z), (1, n), (1, a), (1, w), (1, (yw ((yw (x * 1103515245)) + 12345))), (1, o), (1, k), (1, (yw (i + (-1)))), (1, (yb (fun x y => x - x / y * y) (yb (fun x y => (x.toUInt32 >>> (y.toUInt32 &&& Int32.toUInt32 31)).toInt32) (yw ((yw (x * 1103515245)) + 12345)) 8) (yw (i + 1)))), (1, (g 119 (Int.toNat i)))] [] (yset (yset g 119 (Int.toNat i) (g 119 (Int.toNat (yb (fun x y => x - x / y * y) (yb (fun x y => (x.toUInt32 >>> (y.toUInt32 &&& Int32.toUInt32 31)).toInt32) (yw ((yw (x * 1103515245)) + 12345)) 8) (yw (i + 1)))))) 119 (Int.toNat (yb (fun x y => x - x / y * y) (yb (fun x y => (x.toUInt32 >>> (y.toUInt32 &&& Int32.toUInt32 31)).toInt32) (yw ((yw (x * 1103515245)) + 12345)) 8) (yw (i + 1)))) (g 119 (Int.toNat i)))))))))))
    refine ⟨fun h1 => ?_, fun h1 => ?_⟩
    · exact hK g _ _ _ hT (fun _ _ _ => rfl) rfl
    · refine ⟨(by omega), ?_⟩
      refine ⟨(by omega), ?_⟩
      refine ⟨(by omega), ?_⟩
      refine ⟨(by omega), ?_⟩
      refine ⟨(by omega), ?_⟩
      omega
  | succ d ih =>
    intro i hd hi g x w10 w11 hT hK
    refine yrun_ok (sp := fun pc => Nat.beq pc 135 || Nat.beq pc 202) hY 37 135 _ [] g ?_
    show ((i ≤ 0 → (Y 202 [(3, 90), (1, s), (1, z), (1, n), (1, a), (1, w), (1, x), (1, o), (1, k), (1, i), w10, w11] [] g)) ∧ (¬ (i ≤ 0) → (((yw (i + 1)) : Int) ≠ 0 ∧ (((0 : Int) ≤ i ∧ i < ((40 : Nat) : Int)) ∧ (((0 : Int) ≤ (yb (fun x y => x - x / y * y) (yb (fun x y => (x.toUInt32 >>> (y.toUInt32 &&& Int32.toUInt32 31)).toInt32) (yw ((yw (x * 1103515245)) + 12345)) 8) (yw (i + 1))) ∧ (yb (fun x y => x - x / y * y) (yb (fun x y => (x.toUInt32 >>> (y.toUInt32 &&& Int32.toUInt32 31)).toInt32) (yw ((yw (x * 1103515245)) + 12345)) 8) (yw (i + 1))) < ((40 : Nat) : Int)) ∧ (((0 : Int) ≤ i ∧ i < ((40 : Nat) : Int)) ∧ (((0 : Int) ≤ (yb (fun x y => x - x / y * y) (yb (fun x y => (x.toUInt32 >>> (y.toUInt32 &&& Int32.toUInt32 31)).toInt32) (yw ((yw (x * 1103515245)) + 12345)) 8) (yw (i + 1))) ∧ (yb (fun x y => x - x / y * y) (yb (fun x y => (x.toUInt32 >>> (y.toUInt32 &&& Int32.toUInt32 31)).toInt32) (yw ((yw (x * 1103515245)) + 12345)) 8) (yw (i + 1))) < ((40 : Nat) : Int)) ∧ (Y 135 [(3, 90), (1, s), (1, z), (1, n), (1, a), (1, w), (1, (yw ((yw (x * 1103515245)) + 12345))), (1, o), (1, k), (1, (yw (i + (-1)))), (1, (yb (fun x y => x - x / y * y) (yb (fun x y => (x.toUInt32 >>> (y.toUInt32 &&& Int32.toUInt32 31)).toInt32) (yw ((yw (x * 1103515245)) + 12345)) 8) (yw (i + 1)))), (1, (g 119 (Int.toNat i)))] [] (yset (yset g 119 (Int.toNat i) (g 119 (Int.toNat (yb (fun x y => x - x / y * y) (yb (fun x y => (x.toUInt32 >>> (y.toUInt32 &&& Int32.toUInt32 31)).toInt32) (yw ((yw (x * 1103515245)) + 12345)) 8) (yw (i + 1)))))) 119 (Int.toNat (yb (fun x y => x - x / y * y) (yb (fun x y => (x.toUInt32 >>> (y.toUInt32 &&& Int32.toUInt32 31)).toInt32) (yw ((yw (x * 1103515245)) + 12345)) 8) (yw (i + 1)))) (g 119 (Int.toNat i)))))))))))
    refine ⟨fun h1 => ?_, fun h1 => ?_⟩
    · omega
    · refine ⟨(by rw [yw_s (i + 1) (by omega) (by omega)]; omega), ?_⟩
      refine ⟨(by omega), ?_⟩
      refine ⟨(by have hj := yjx_b (yns x) (i := i) (by omega); have hj2 : 0 ≤ yjx (yns x) i ∧ yjx (yns x) i < 40 := (by omega); exact hj2), ?_⟩
      refine ⟨(by omega), ?_⟩
      refine ⟨(by have hj := yjx_b (yns x) (i := i) (by omega); have hj2 : 0 ≤ yjx (yns x) i ∧ yjx (yns x) i < 40 := (by omega); exact hj2), ?_⟩
      have hj := yjx_b (yns x) (i := i) (by omega)
      have hj2 : 0 ≤ yjx (yns x) i ∧ yjx (yns x) i < 40 := (by omega)
      have yi : yw (i + -1) = i - 1 := yw_s (i + -1) (by omega) (by omega)
      rw [yi]
      have a1 := hT.fA (j := Int.toNat i) (List.mem_of_getElem? (i := 71) rfl) (by omega)
      have a2 := hT.fA (j := Int.toNat (yjx (yns x) i)) (List.mem_of_getElem? (i := 71) rfl) (by omega)
      refine ih (i - 1) (by omega) (by omega) _ (yns x) _ _ ((hT.sA (List.mem_of_getElem? (i := 71) rfl) (by decide +kernel) a2).sA (List.mem_of_getElem? (i := 71) rfl) (by decide +kernel) a1) (fun g' w9 w10 w11 t f e2 => ?_)
      have m2 : (yset (yset g 119 (Int.toNat i) (g 119 (Int.toNat (yb (fun x y => x - x / y * y) (yb (fun x y => (x.toUInt32 >>> (y.toUInt32 &&& Int32.toUInt32 31)).toInt32) (yw ((yw (x * 1103515245)) + 12345)) 8) (yw (i + 1)))))) 119 (Int.toNat (yb (fun x y => x - x / y * y) (yb (fun x y => (x.toUInt32 >>> (y.toUInt32 &&& Int32.toUInt32 31)).toInt32) (yw ((yw (x * 1103515245)) + 12345)) 8) (yw (i + 1)))) (g 119 (Int.toNat i))) 119 = ysw (g 119) (Int.toNat i) (Int.toNat (yjx (yns x) i)) := ysw_mem (m := g) (fun p => rfl)
      have e0 : i = ((d + 1 : Nat) : Int) := by omega
      have e3 : yDz (d + 1) x (g 119) = yDz d (yns x) ((yset (yset g 119 (Int.toNat i) (g 119 (Int.toNat (yb (fun x y => x - x / y * y) (yb (fun x y => (x.toUInt32 >>> (y.toUInt32 &&& Int32.toUInt32 31)).toInt32) (yw ((yw (x * 1103515245)) + 12345)) 8) (yw (i + 1)))))) 119 (Int.toNat (yb (fun x y => x - x / y * y) (yb (fun x y => (x.toUInt32 >>> (y.toUInt32 &&& Int32.toUInt32 31)).toInt32) (yw ((yw (x * 1103515245)) + 12345)) 8) (yw (i + 1)))) (g 119 (Int.toNat i))) 119) := by
        rw [m2, show Int.toNat i = d + 1 by omega, e0]
        rfl
      rw [← e3] at e2 ⊢
      exact hK g' _ _ _ t (fun a b h1 => (f a b h1).trans (by rw [yset_nc h1, yset_nc h1])) e2
set_option maxRecDepth 8000 in
theorem yt_MSE {K : List yV → yM → Prop} {Y : yNx} {g : yM} {s z n a w x o k : Int} {w9 w10 w11 : yV} (hY : yCl zpD196 (zpZ, zpRS, zpP12, zpMT, [yC_IDY, yC_WM, yC_FS, yC_WIN], (5, 134), 1) K Y) (hT : yTy zpZ g) (ha : 0 ≤ a ∧ a ≤ 40) (hk : 0 ≤ k ∧ k < 200) (ho : -2147483648 ≤ o ∧ o ≤ 2147483647) (hE : Y 123 [(3, 90), (1, s), (1, z), (1, n), (1, a), (1, w), (1, x), (1, (if w ≤ yZm (yWr g) (g 119) (yb (fun x y => x - x / y * y) s 10) (Int.toNat a) then yw (o + 1) else o)), (1, k + 1), w9, w10, w11] [] g) : Y 202 [(3, 90), (1, s), (1, z), (1, n), (1, a), (1, w), (1, x), (1, o), (1, k), w9, w10, w11] [] g := by
  refine yrun_ok (sp := fun pc => Nat.beq pc 123) hY 16 202 _ [] g ?_
  show ((10 : Int) ≠ 0 ∧ (∃ (n1 s2 : Int), [(3, 90), (1, a), (1, (yb (fun x y => x - x / y * y) s 10))] = [(3, 90), (1, n1), (1, s2)] ∧ (yTy zpZ g) ∧ (0 ≤ n1 ∧ n1 ≤ 40) ∧ (∀ (r3 : Int), (r3 = yZm (yWr g) (g 119) s2 (Int.toNat n1)) → ((r3 < w → (Y 123 [(3, 90), (1, s), (1, z), (1, n), (1, a), (1, w), (1, x), (1, (yw (o + 0))), (1, (yw (k + 1))), w9, w10, w11] [] g)) ∧ (¬ (r3 < w) → (Y 123 [(3, 90), (1, s), (1, z), (1, n), (1, a), (1, w), (1, x), (1, (yw (o + 1))), (1, (yw (k + 1))), w9, w10, w11] [] g))))))
  refine ⟨(by omega), ?_⟩
  refine ⟨_, _, rfl, (hT), (by omega), ?_⟩
  intro r3 p40
  refine ⟨fun h5 => ?_, fun h5 => ?_⟩
  · rw [show yw (k + 1) = k + 1 from yw_s (k + 1) (by omega) (by omega)]
    rw [if_neg (by omega)] at hE
    rw [Int.add_zero, yw_s o ho.1 ho.2]
    exact hE
  · rw [show yw (k + 1) = k + 1 from yw_s (k + 1) (by omega) (by omega)]
    rw [if_pos (by omega)] at hE
    exact hE
theorem yWr_e {g m : yM} (h : ∀ a b : Nat, a ≠ 119 → m a b = g a b) : yWr m = yWr g := funext fun q => by
  unfold yWr
  rw [h 118 q (by decide), h 111 _ (by decide), h 91 _ (by decide)]
set_option maxRecDepth 8000 in
theorem yl_MSEt {K : List yV → yM → Prop} {Y : yNx} {g : yM} {s z n a w : Int} (hY : yCl zpD196 (zpZ, zpRS, zpP12, zpMT, [yC_IDY, yC_WM, yC_FS, yC_WIN], (5, 134), 1) K Y) (hn : 0 ≤ n ∧ n ≤ 200) (ha : 0 ≤ a ∧ a ≤ 40) : ∀ (d : Nat) (k : Int), k + d = n → 0 ≤ k → ∀ (m : yM) (x o : Int) (w9 w10 w11 : yV), yTy zpZ m → (∀ a b : Nat, a ≠ 119 → m a b = g a b) → (-2147483648 ≤ o ∧ o ≤ 2147483647) → (∀ m' : yM, yTy zpZ m' → (∀ a b : Nat, a ≠ 119 → m' a b = g a b) → K [(1, yTr (yWr g) (yb (fun x y => x - x / y * y) s 10) w (Int.toNat a) d o x (m 119))] m') → Y 123 [(3, 90), (1, s), (1, z), (1, n), (1, a), (1, w), (1, x), (1, o), (1, k), w9, w10, w11] [] m := by
  intro d
  induction d with
  | zero =>
    intro k hd h0 m x o w9 w10 w11 hT hF ho hK
    refine yrun_ok (sp := fun pc => Nat.beq pc 123 || Nat.beq pc 135) hY 8 123 _ [] m ?_
    show ((n ≤ k → (K [(1, o)] m)) ∧ (¬ (n ≤ k) → (Y 135 [(3, 90), (1, s), (1, z), (1, n), (1, a), (1, w), (1, x), (1, o), (1, k), (1, (yw (a - 1))), w10, w11] [] m)))
    refine ⟨fun h1 => ?_, fun h1 => ?_⟩
    · exact hK m hT hF
    · omega
  | succ d ih =>
    intro k hd h0 m x o w9 w10 w11 hT hF ho hK
    refine yrun_ok (sp := fun pc => Nat.beq pc 123 || Nat.beq pc 135) hY 8 123 _ [] m ?_
    show ((n ≤ k → (K [(1, o)] m)) ∧ (¬ (n ≤ k) → (Y 135 [(3, 90), (1, s), (1, z), (1, n), (1, a), (1, w), (1, x), (1, o), (1, k), (1, (yw (a - 1))), w10, w11] [] m)))
    refine ⟨fun h1 => ?_, fun h1 => ?_⟩
    · omega
    · rw [yw_s (a - 1) (by omega) (by omega)]
      refine yl_MSEd hY _ (a - 1) rfl (by omega) m x _ _ hT (fun g' w9 w10 w11 t f e => ?_)
      have en : Int.toNat (a - 1) = Int.toNat a - 1 := by omega
      rw [en] at e ⊢
      have eW : yWr g' = yWr g := (yWr_e f).trans (yWr_e hF)
      refine yt_MSE hY t ha ⟨h0, by omega⟩ ho (ih (k + 1) (by omega) (by omega) g' _ _ _ _ _ t (fun a b h => (f a b h).trans (hF a b h)) ?_ (fun m' q1 q2 => ?_))
      · split
        · exact yw_rng _
        · exact ho
      · rw [eW, e]
        exact hK m' q1 q2
set_option maxRecDepth 8000 in
theorem yl_MSEg {K : List yV → yM → Prop} {Y : yNx} {g : yM} {s z n : Int} (hY : yCl zpD196 (zpZ, zpRS, zpP12, zpMT, [yC_IDY, yC_WM, yC_FS, yC_WIN], (5, 134), 1) K Y) (hs : 0 ≤ g 90 22 ∧ g 90 22 ≤ 40) (hn : 0 ≤ n ∧ n ≤ 200) (hT0 : yTy zpZ g) (hK : ∀ r : Int, ∀ m' : yM, yTy zpZ m' → yFr g m' → (∃ A S : Nat → Int, (∀ q : Nat, q < 40 → 0 ≤ A q ∧ A q ≤ 39) ∧ yGa (fun q => g 101 q) (fun q => (q : Int)) (fun q => g 105 q) (yb (fun x y => x / y) s 10) A S (Int.toNat (g 90 22)) ∧ r = yTr (fun q => if 0 ≤ g 111 (Int.toNat (A q)) then yw (g 111 (Int.toNat (A q)) - g 91 (Int.toNat (A q))) else 0) (yb (fun x y => x - x / y * y) s 10) (yZm (fun q => if 0 ≤ g 111 (Int.toNat (A q)) then yw (g 111 (Int.toNat (A q)) - g 91 (Int.toNat (A q))) else 0) S (yb (fun x y => x - x / y * y) s 10) (yDn (fun q => g 101 q) (yb (fun x y => x / y) s 10) (Int.toNat (g 90 22)))) (yDn (fun q => g 101 q) (yb (fun x y => x / y) s 10) (Int.toNat (g 90 22))) (Int.toNat n) 0 z S) → K [(1, r)] m') : ∀ (d : Nat) (i : Int), i + d = g 90 22 → 0 ≤ i → ∀ (m : yM) (a : Int) (w6 w7 w8 w9 w10 w11 : yV), yTy zpZ m → yFr g m → a = (yDn (fun q => g 101 q) (yb (fun x y => x / y) s 10) (Int.toNat i)) → yGa (fun q => g 101 q) (fun q => (q : Int)) (fun q => g 105 q) (yb (fun x y => x / y) s 10) (m 118) (m 119) (Int.toNat i) → Y 47 [(3, 90), (1, s), (1, z), (1, n), (1, a), (1, i), w6, w7, w8, w9, w10, w11] [] m := by
  intro d
  induction d with
  | zero =>
    intro i hd h0 m a w6 w7 w8 w9 w10 w11 hT hF hN hG
    refine yrun_ok (sp := fun pc => Nat.beq pc 47 || Nat.beq pc 123) hY 29 47 _ [] m ?_
    show (((m 90 22) ≤ i → ((10 : Int) ≠ 0 ∧ (∃ (n2 s3 : Int), [(3, 90), (1, a), (1, (yb (fun x y => x - x / y * y) s 10))] = [(3, 90), (1, n2), (1, s3)] ∧ (yTy zpZ m) ∧ (0 ≤ n2 ∧ n2 ≤ 40) ∧ (∀ (r4 : Int), (r4 = yZm (yWr m) (m 119) s3 (Int.toNat n2)) → (Y 123 [(3, 90), (1, s), (1, z), (1, n), (1, a), (1, r4), (1, z), (1, 0), (1, 0), w9, w10, w11] [] m))))) ∧ (¬ ((m 90 22) ≤ i) → (((0 : Int) ≤ i ∧ i < ((40 : Nat) : Int)) ∧ ((10 : Int) ≠ 0 ∧ (((m 101 (Int.toNat i)) ≠ (yb (fun x y => x / y) s 10) → (Y 47 [(3, 90), (1, s), (1, z), (1, n), (1, a), (1, (yw (i + 1))), w6, w7, w8, w9, w10, w11] [] m)) ∧ (¬ ((m 101 (Int.toNat i)) ≠ (yb (fun x y => x / y) s 10)) → (((0 : Int) ≤ a ∧ a < ((40 : Nat) : Int)) ∧ (((0 : Int) ≤ i ∧ i < ((40 : Nat) : Int)) ∧ (((0 : Int) ≤ a ∧ a < ((40 : Nat) : Int)) ∧ (Y 47 [(3, 90), (1, s), (1, z), (1, n), (1, (yw (a + 1))), (1, (yw (i + 1))), w6, w7, w8, w9, w10, w11] [] (yset (yset m 118 (Int.toNat a) i) 119 (Int.toNat a) (m 105 (Int.toNat i)))))))))))))
    refine ⟨fun h1 => ?_, fun h1 => ?_⟩
    · refine ⟨(by have e22 : m 90 22 = g 90 22 := hF _ _ (by omega) (by omega); have f1 : m 101 (Int.toNat i) = g 101 (Int.toNat i) := hF _ _ (by omega) (by omega); have f5 : m 105 (Int.toNat i) = g 105 (Int.toNat i) := hF _ _ (by omega) (by omega); have hb := @yDn_b (fun q => g 101 q) (yb (fun x y => x / y) s 10) (Int.toNat i); omega), ?_⟩
      refine ⟨_, _, rfl, (hT), (by have e22 : m 90 22 = g 90 22 := hF _ _ (by omega) (by omega); have f1 : m 101 (Int.toNat i) = g 101 (Int.toNat i) := hF _ _ (by omega) (by omega); have f5 : m 105 (Int.toNat i) = g 105 (Int.toNat i) := hF _ _ (by omega) (by omega); have hb := @yDn_b (fun q => g 101 q) (yb (fun x y => x / y) s 10) (Int.toNat i); omega), ?_⟩
      intro r4 p50
      have e22 : m 90 22 = g 90 22 := hF _ _ (by omega) (by omega)
      have f1 : m 101 (Int.toNat i) = g 101 (Int.toNat i) := hF _ _ (by omega) (by omega)
      have f5 : m 105 (Int.toNat i) = g 105 (Int.toNat i) := hF _ _ (by omega) (by omega)
      have hb := @yDn_b (fun q => g 101 q) (yb (fun x y => x / y) s 10) (Int.toNat i)
      obtain rfl : i = g 90 22 := by omega
      have eN : Int.toNat a = (yDn (fun q => g 101 q) (yb (fun x y => x / y) s 10) (Int.toNat (g 90 22))) := by omega
      have eW : yWr m = (fun q => if 0 ≤ g 111 (Int.toNat (m 118 q)) then yw (g 111 (Int.toNat (m 118 q)) - g 91 (Int.toNat (m 118 q))) else 0) := funext fun q => by
        unfold yWr
        rw [hF 111 _ (by decide) (by decide), hF 91 _ (by decide) (by decide)]
      refine yl_MSEt (g := m) hY hn (by omega) (Int.toNat n) 0 (by omega) (by decide) m z 0 _ _ _ hT (fun _ _ _ => rfl) ⟨by decide, by decide⟩ (fun m' q1 q2 => hK _ m' q1 (fun a b h1 h2 => (q2 a b h2).trans (hF a b h1 h2)) ⟨m 118, m 119, fun q hq => hT.fA (List.mem_of_getElem? (i := 70) rfl) (by omega), hG, ?_⟩)
      rw [p50, eN, eW]
    · refine ⟨(by have e22 : m 90 22 = g 90 22 := hF _ _ (by omega) (by omega); have f1 : m 101 (Int.toNat i) = g 101 (Int.toNat i) := hF _ _ (by omega) (by omega); have f5 : m 105 (Int.toNat i) = g 105 (Int.toNat i) := hF _ _ (by omega) (by omega); have hb := @yDn_b (fun q => g 101 q) (yb (fun x y => x / y) s 10) (Int.toNat i); omega), ?_⟩
      refine ⟨(by have e22 : m 90 22 = g 90 22 := hF _ _ (by omega) (by omega); have f1 : m 101 (Int.toNat i) = g 101 (Int.toNat i) := hF _ _ (by omega) (by omega); have f5 : m 105 (Int.toNat i) = g 105 (Int.toNat i) := hF _ _ (by omega) (by omega); have hb := @yDn_b (fun q => g 101 q) (yb (fun x y => x / y) s 10) (Int.toNat i); omega), ?_⟩
      refine ⟨fun h6 => ?_, fun h6 => ?_⟩
      · have e22 : m 90 22 = g 90 22 := hF _ _ (by omega) (by omega)
        have f1 : m 101 (Int.toNat i) = g 101 (Int.toNat i) := hF _ _ (by omega) (by omega)
        have f5 : m 105 (Int.toNat i) = g 105 (Int.toNat i) := hF _ _ (by omega) (by omega)
        have hb := @yDn_b (fun q => g 101 q) (yb (fun x y => x / y) s 10) (Int.toNat i)
        omega
      · refine ⟨(by have e22 : m 90 22 = g 90 22 := hF _ _ (by omega) (by omega); have f1 : m 101 (Int.toNat i) = g 101 (Int.toNat i) := hF _ _ (by omega) (by omega); have f5 : m 105 (Int.toNat i) = g 105 (Int.toNat i) := hF _ _ (by omega) (by omega); have hb := @yDn_b (fun q => g 101 q) (yb (fun x y => x / y) s 10) (Int.toNat i); omega), ?_⟩
        refine ⟨(by have e22 : m 90 22 = g 90 22 := hF _ _ (by omega) (by omega); have f1 : m 101 (Int.toNat i) = g 101 (Int.toNat i) := hF _ _ (by omega) (by omega); have f5 : m 105 (Int.toNat i) = g 105 (Int.toNat i) := hF _ _ (by omega) (by omega); have hb := @yDn_b (fun q => g 101 q) (yb (fun x y => x / y) s 10) (Int.toNat i); omega), ?_⟩
        refine ⟨(by have e22 : m 90 22 = g 90 22 := hF _ _ (by omega) (by omega); have f1 : m 101 (Int.toNat i) = g 101 (Int.toNat i) := hF _ _ (by omega) (by omega); have f5 : m 105 (Int.toNat i) = g 105 (Int.toNat i) := hF _ _ (by omega) (by omega); have hb := @yDn_b (fun q => g 101 q) (yb (fun x y => x / y) s 10) (Int.toNat i); omega), ?_⟩
        have e22 : m 90 22 = g 90 22 := hF _ _ (by omega) (by omega)
        have f1 : m 101 (Int.toNat i) = g 101 (Int.toNat i) := hF _ _ (by omega) (by omega)
        have f5 : m 105 (Int.toNat i) = g 105 (Int.toNat i) := hF _ _ (by omega) (by omega)
        have hb := @yDn_b (fun q => g 101 q) (yb (fun x y => x / y) s 10) (Int.toNat i)
        omega
  | succ d ih =>
    intro i hd h0 m a w6 w7 w8 w9 w10 w11 hT hF hN hG
    refine yrun_ok (sp := fun pc => Nat.beq pc 47 || Nat.beq pc 123) hY 29 47 _ [] m ?_
    show (((m 90 22) ≤ i → ((10 : Int) ≠ 0 ∧ (∃ (n2 s3 : Int), [(3, 90), (1, a), (1, (yb (fun x y => x - x / y * y) s 10))] = [(3, 90), (1, n2), (1, s3)] ∧ (yTy zpZ m) ∧ (0 ≤ n2 ∧ n2 ≤ 40) ∧ (∀ (r4 : Int), (r4 = yZm (yWr m) (m 119) s3 (Int.toNat n2)) → (Y 123 [(3, 90), (1, s), (1, z), (1, n), (1, a), (1, r4), (1, z), (1, 0), (1, 0), w9, w10, w11] [] m))))) ∧ (¬ ((m 90 22) ≤ i) → (((0 : Int) ≤ i ∧ i < ((40 : Nat) : Int)) ∧ ((10 : Int) ≠ 0 ∧ (((m 101 (Int.toNat i)) ≠ (yb (fun x y => x / y) s 10) → (Y 47 [(3, 90), (1, s), (1, z), (1, n), (1, a), (1, (yw (i + 1))), w6, w7, w8, w9, w10, w11] [] m)) ∧ (¬ ((m 101 (Int.toNat i)) ≠ (yb (fun x y => x / y) s 10)) → (((0 : Int) ≤ a ∧ a < ((40 : Nat) : Int)) ∧ (((0 : Int) ≤ i ∧ i < ((40 : Nat) : Int)) ∧ (((0 : Int) ≤ a ∧ a < ((40 : Nat) : Int)) ∧ (Y 47 [(3, 90), (1, s), (1, z), (1, n), (1, (yw (a + 1))), (1, (yw (i + 1))), w6, w7, w8, w9, w10, w11] [] (yset (yset m 118 (Int.toNat a) i) 119 (Int.toNat a) (m 105 (Int.toNat i)))))))))))))
    refine ⟨fun h1 => ?_, fun h1 => ?_⟩
    · refine ⟨(by have e22 : m 90 22 = g 90 22 := hF _ _ (by omega) (by omega); have f1 : m 101 (Int.toNat i) = g 101 (Int.toNat i) := hF _ _ (by omega) (by omega); have f5 : m 105 (Int.toNat i) = g 105 (Int.toNat i) := hF _ _ (by omega) (by omega); have hb := @yDn_b (fun q => g 101 q) (yb (fun x y => x / y) s 10) (Int.toNat i); omega), ?_⟩
      refine ⟨_, _, rfl, (hT), (by have e22 : m 90 22 = g 90 22 := hF _ _ (by omega) (by omega); have f1 : m 101 (Int.toNat i) = g 101 (Int.toNat i) := hF _ _ (by omega) (by omega); have f5 : m 105 (Int.toNat i) = g 105 (Int.toNat i) := hF _ _ (by omega) (by omega); have hb := @yDn_b (fun q => g 101 q) (yb (fun x y => x / y) s 10) (Int.toNat i); omega), ?_⟩
      intro r4 p50
      have e22 : m 90 22 = g 90 22 := hF _ _ (by omega) (by omega)
      have f1 : m 101 (Int.toNat i) = g 101 (Int.toNat i) := hF _ _ (by omega) (by omega)
      have f5 : m 105 (Int.toNat i) = g 105 (Int.toNat i) := hF _ _ (by omega) (by omega)
      have hb := @yDn_b (fun q => g 101 q) (yb (fun x y => x / y) s 10) (Int.toNat i)
      omega
    · refine ⟨(by have e22 : m 90 22 = g 90 22 := hF _ _ (by omega) (by omega); have f1 : m 101 (Int.toNat i) = g 101 (Int.toNat i) := hF _ _ (by omega) (by omega); have f5 : m 105 (Int.toNat i) = g 105 (Int.toNat i) := hF _ _ (by omega) (by omega); have hb := @yDn_b (fun q => g 101 q) (yb (fun x y => x / y) s 10) (Int.toNat i); omega), ?_⟩
      refine ⟨(by have e22 : m 90 22 = g 90 22 := hF _ _ (by omega) (by omega); have f1 : m 101 (Int.toNat i) = g 101 (Int.toNat i) := hF _ _ (by omega) (by omega); have f5 : m 105 (Int.toNat i) = g 105 (Int.toNat i) := hF _ _ (by omega) (by omega); have hb := @yDn_b (fun q => g 101 q) (yb (fun x y => x / y) s 10) (Int.toNat i); omega), ?_⟩
      refine ⟨fun h6 => ?_, fun h6 => ?_⟩
      · have e22 : m 90 22 = g 90 22 := hF _ _ (by omega) (by omega)
        have f1 : m 101 (Int.toNat i) = g 101 (Int.toNat i) := hF _ _ (by omega) (by omega)
        have f5 : m 105 (Int.toNat i) = g 105 (Int.toNat i) := hF _ _ (by omega) (by omega)
        have hb := @yDn_b (fun q => g 101 q) (yb (fun x y => x / y) s 10) (Int.toNat i)
        have yi : yw (i + 1) = i + 1 := yw_s (i + 1) (by omega) (by omega)
        rw [yi]
        refine ih (i + 1) (by omega) (by omega) m _ _ _ _ _ _ _ hT hF ?_ ?_
        · rw [show Int.toNat (i + 1) = Int.toNat i + 1 by omega, yDn_0 (by show ¬ g 101 (Int.toNat i) = _; omega)]
          exact hN
        · rw [show Int.toNat (i + 1) = Int.toNat i + 1 by omega]
          exact yGa_0 hG (by show ¬ g 101 (Int.toNat i) = _; omega)
      · refine ⟨(by have e22 : m 90 22 = g 90 22 := hF _ _ (by omega) (by omega); have f1 : m 101 (Int.toNat i) = g 101 (Int.toNat i) := hF _ _ (by omega) (by omega); have f5 : m 105 (Int.toNat i) = g 105 (Int.toNat i) := hF _ _ (by omega) (by omega); have hb := @yDn_b (fun q => g 101 q) (yb (fun x y => x / y) s 10) (Int.toNat i); omega), ?_⟩
        refine ⟨(by have e22 : m 90 22 = g 90 22 := hF _ _ (by omega) (by omega); have f1 : m 101 (Int.toNat i) = g 101 (Int.toNat i) := hF _ _ (by omega) (by omega); have f5 : m 105 (Int.toNat i) = g 105 (Int.toNat i) := hF _ _ (by omega) (by omega); have hb := @yDn_b (fun q => g 101 q) (yb (fun x y => x / y) s 10) (Int.toNat i); omega), ?_⟩
        refine ⟨(by have e22 : m 90 22 = g 90 22 := hF _ _ (by omega) (by omega); have f1 : m 101 (Int.toNat i) = g 101 (Int.toNat i) := hF _ _ (by omega) (by omega); have f5 : m 105 (Int.toNat i) = g 105 (Int.toNat i) := hF _ _ (by omega) (by omega); have hb := @yDn_b (fun q => g 101 q) (yb (fun x y => x / y) s 10) (Int.toNat i); omega), ?_⟩
        have e22 : m 90 22 = g 90 22 := hF _ _ (by omega) (by omega)
        have f1 : m 101 (Int.toNat i) = g 101 (Int.toNat i) := hF _ _ (by omega) (by omega)
        have f5 : m 105 (Int.toNat i) = g 105 (Int.toNat i) := hF _ _ (by omega) (by omega)
        have hb := @yDn_b (fun q => g 101 q) (yb (fun x y => x / y) s 10) (Int.toNat i)
        have yi : yw (i + 1) = i + 1 := yw_s (i + 1) (by omega) (by omega)
        rw [yi]
        have a5 := hT0.fA (j := Int.toNat i) (List.mem_of_getElem? (i := 57) rfl) (by omega)
        have eN : Int.toNat a = (yDn (fun q => g 101 q) (yb (fun x y => x / y) s 10) (Int.toNat i)) := by omega
        refine ih (i + 1) (by omega) (by omega) _ _ _ _ _ _ _ _ ((hT.sA (List.mem_of_getElem? (i := 70) rfl) (by decide +kernel) ⟨by omega, by omega⟩).sA (List.mem_of_getElem? (i := 71) rfl) (by decide +kernel) (by omega)) (fun a b h1 h2 => ?_) ?_ ?_
        · rw [yset_nc h2, yset_nc h1]
          exact hF a b h1 h2
        · rw [yw_s (a + 1) (by omega) (by omega), show Int.toNat (i + 1) = Int.toNat i + 1 by omega, yDn_1 (by show g 101 (Int.toNat i) = _; omega)]
          omega
        · rw [show Int.toNat (i + 1) = Int.toNat i + 1 by omega]
          rw [eN]
          refine yGa_1 hG ?_ ?_ (fun q hq => ?_) (fun q hq => ?_)
          · rw [yset_nc (by decide), yset_eq]
            show i = ((Int.toNat i : Nat) : Int)
            omega
          · rw [yset_eq]
            exact f5
          · rw [yset_nc (by decide), yset_nj hq]
          · rw [yset_nj hq, yset_nc (by decide)]
set_option maxRecDepth 8000 in
theorem yv_MSE {K : List yV → yM → Prop} {Y : yNx} {g : yM} {s z n : Int} (hY : yCl zpD196 (zpZ, zpRS, zpP12, zpMT, [yC_IDY, yC_WM, yC_FS, yC_WIN], (5, 134), 1) K Y) (hr_s : -2147483648 ≤ s ∧ s ≤ 2147483647) (hr_z : -2147483648 ≤ z ∧ z ≤ 2147483647) (hr_n : -2147483648 ≤ n ∧ n ≤ 2147483647) (hp0 : yTy zpZ g) (hp1 : 0 ≤ g 90 22 ∧ g 90 22 ≤ 40) (hp2 : 0 ≤ g 90 6 ∧ g 90 6 ≤ 12) (hp3 : ∀ n : Nat, (n : Int) < g 90 22 → (0 ≤ g 104 n ∧ g 104 n ≤ 5) ∧ g 102 n ≤ 719) (hK : ∀ (r : Int) (g' : yM), (¬ (0 ≤ (yb (fun x y => x / y) s 10) ∧ (yb (fun x y => x / y) s 10) < 4 ∧ 0 ≤ (yb (fun x y => x - x / y * y) s 10) ∧ (yb (fun x y => x - x / y * y) s 10) < 8 ∧ 1 ≤ n ∧ n ≤ 200) → r = -1 ∧ g' = g) → ((0 ≤ (yb (fun x y => x / y) s 10) ∧ (yb (fun x y => x / y) s 10) < 4 ∧ 0 ≤ (yb (fun x y => x - x / y * y) s 10) ∧ (yb (fun x y => x - x / y * y) s 10) < 8 ∧ 1 ≤ n ∧ n ≤ 200) → ∃ m : yM, yFd g m ∧ yTy zpZ g' ∧ yFr m g' ∧ ∃ A S : Nat → Int, (∀ q : Nat, q < 40 → 0 ≤ A q ∧ A q ≤ 39) ∧ yGa (fun q => g 101 q) (fun q => (q : Int)) (fun q => g 105 q) (yb (fun x y => x / y) s 10) A S (Int.toNat (g 90 22)) ∧ r = yTr (fun q => if 0 ≤ m 111 (Int.toNat (A q)) then yw (m 111 (Int.toNat (A q)) - m 91 (Int.toNat (A q))) else 0) (yb (fun x y => x - x / y * y) s 10) (yZm (fun q => if 0 ≤ m 111 (Int.toNat (A q)) then yw (m 111 (Int.toNat (A q)) - m 91 (Int.toNat (A q))) else 0) S (yb (fun x y => x - x / y * y) s 10) (yDn (fun q => g 101 q) (yb (fun x y => x / y) s 10) (Int.toNat (g 90 22)))) (yDn (fun q => g 101 q) (yb (fun x y => x / y) s 10) (Int.toNat (g 90 22))) (Int.toNat n) 0 z S) → K [(1, r)] g') : Y 0 [(3, 90), (1, s), (1, z), (1, n), (0, 0), (0, 0), (0, 0), (0, 0), (0, 0), (0, 0), (0, 0), (0, 0)] [] g := by
  refine yrun_ok (sp := fun pc => Nat.beq pc 47) hY 25 0 _ [] g ?_
  show ((s < 0 → (K [(1, (-1))] g)) ∧ (¬ (s < 0) → ((10 : Int) ≠ 0 ∧ (∃ (d2 : Int), [(1, (yb (fun x y => x / y) s 10))] = [(1, d2)] ∧ (∀ (r3 : Int), ((r3 = 1 ∧ 0 ≤ d2 ∧ d2 ≤ 3) ∨ (r3 = 0 ∧ (d2 < 0 ∨ 3 < d2))) → ((r3 = 0 → (K [(1, (-1))] g)) ∧ (¬ (r3 = 0) → ((10 : Int) ≠ 0 ∧ ((7 < (yb (fun x y => x - x / y * y) s 10) → (K [(1, (-1))] g)) ∧ (¬ (7 < (yb (fun x y => x - x / y * y) s 10)) → (∃ (v7 a8 b9 : Int), [(2, n), (2, 1), (2, 200)] = [(2, v7), (2, a8), (2, b9)] ∧ (∀ (r10 : Int), ((r10 = 1 ∧ a8 ≤ v7 ∧ v7 ≤ b9) ∨ (r10 = 0 ∧ (v7 < a8 ∨ b9 < v7))) → ((r10 ≠ 0 → ([(3, 90)] = [(3, 90)] ∧ (yTy zpZ g) ∧ (0 ≤ g 90 22 ∧ g 90 22 ≤ 40) ∧ (0 ≤ g 90 6 ∧ g 90 6 ≤ 12) ∧ (∀ n : Nat, (n : Int) < g 90 22 → (0 ≤ g 104 n ∧ g 104 n ≤ 5) ∧ g 102 n ≤ 719) ∧ (∀ (g13 : yM), (yFd g g13) → (Y 47 [(3, 90), (1, s), (1, z), (1, n), (1, 0), (1, 0), (0, 0), (0, 0), (0, 0), (0, 0), (0, 0), (0, 0)] [] g13)))) ∧ (¬ (r10 ≠ 0) → (K [(1, (-1))] g)))))))))))))))
  refine ⟨fun h1 => ?_, fun h1 => ?_⟩
  · have q1 := yb_rng (fun x y => x / y) s 10
    have q2 := yb_rng (fun x y => x - x / y * y) s 10
    have q3 := yq10 hr_s
    exact hK _ _ (fun _ => ⟨rfl, rfl⟩) (fun h => absurd h (by omega))
  · refine ⟨(by have q1 := yb_rng (fun x y => x / y) s 10; have q2 := yb_rng (fun x y => x - x / y * y) s 10; have q3 := yq10 hr_s; omega), ?_⟩
    refine ⟨_, rfl, ?_⟩
    intro r3 p40
    refine ⟨fun h5 => ?_, fun h5 => ?_⟩
    · have q1 := yb_rng (fun x y => x / y) s 10
      have q2 := yb_rng (fun x y => x - x / y * y) s 10
      have q3 := yq10 hr_s
      exact hK _ _ (fun _ => ⟨rfl, rfl⟩) (fun h => absurd h (by omega))
    · refine ⟨(by have q1 := yb_rng (fun x y => x / y) s 10; have q2 := yb_rng (fun x y => x - x / y * y) s 10; have q3 := yq10 hr_s; omega), ?_⟩
      refine ⟨fun h6 => ?_, fun h6 => ?_⟩
      · have q1 := yb_rng (fun x y => x / y) s 10
        have q2 := yb_rng (fun x y => x - x / y * y) s 10
        have q3 := yq10 hr_s
        exact hK _ _ (fun _ => ⟨rfl, rfl⟩) (fun h => absurd h (by omega))
      · refine ⟨_, _, _, rfl, ?_⟩
        intro r10 p110
        refine ⟨fun h12 => ?_, fun h12 => ?_⟩
        · refine ⟨rfl, (hp0), (by have q1 := yb_rng (fun x y => x / y) s 10; have q2 := yb_rng (fun x y => x - x / y * y) s 10; have q3 := yq10 hr_s; omega), (by have q1 := yb_rng (fun x y => x / y) s 10; have q2 := yb_rng (fun x y => x - x / y * y) s 10; have q3 := yq10 hr_s; omega), (hp3), ?_⟩
          intro g13 p140
          have q1 := yb_rng (fun x y => x / y) s 10
          have q2 := yb_rng (fun x y => x - x / y * y) s 10
          have q3 := yq10 hr_s
          have ok : (0 ≤ (yb (fun x y => x / y) s 10) ∧ (yb (fun x y => x / y) s 10) < 4 ∧ 0 ≤ (yb (fun x y => x - x / y * y) s 10) ∧ (yb (fun x y => x - x / y * y) s 10) < 8 ∧ 1 ≤ n ∧ n ≤ 200) := by omega
          have s22 : g13 90 22 = g 90 22 := p140.2.1 90 22 (by decide) (by decide)
          have e101 : (fun q => g13 101 q) = (fun q => g 101 q) := funext fun q => p140.2.1 101 q (by decide) (by decide)
          have e105 : (fun q => g13 105 q) = (fun q => g 105 q) := funext fun q => p140.2.1 105 q (by decide) (by decide)
          refine yl_MSEg hY (by omega) ⟨by omega, by omega⟩ p140.1 (fun r m' q1 q2 q3 => hK r m' (fun h => absurd ok h) (fun _ => ⟨g13, p140, q1, q2, ?_⟩)) (Int.toNat (g13 90 22)) 0 (by omega) (by decide) g13 0 _ _ _ _ _ _ p140.1 (fun _ _ _ _ => rfl) rfl (fun j hj => absurd hj (by omega))
          rw [e101, e105, s22] at q3
          exact q3
        · have q1 := yb_rng (fun x y => x / y) s 10
          have q2 := yb_rng (fun x y => x - x / y * y) s 10
          have q3 := yq10 hr_s
          exact hK _ _ (fun _ => ⟨rfl, rfl⟩) (fun h => absurd h (by omega))
theorem yM_MSE {l : Launch} {Ts : List Cond} {cl : List vw_C} {RO : zRO} (H : zHyp Ts cl RO) : yMet l Ts cl zpZ RO zpMT yC_MSE := ymet_of2 H.1 H.2.1 zpDj H.2.2.1 yRb H.p12 (ymets_cons (yM_IDY H) (ymets_cons (yM_WM H) (ymets_cons (yM_FS H) (ymets_cons (yM_WIN H) ymets_nil)))) (zrc1 rfl) (plainFor_of_name zpy12) zpDk196 (fun as g K Y h hA hY => by
  obtain ⟨s, z, n, rfl, hp0, hp1, hp2, hp3, hK⟩ := h
  exact yv_MSE hY (yAr1 hA (by simp)) (yAr1 hA (by simp)) (yAr1 hA (by simp)) hp0 hp1 hp2 hp3 hK)
