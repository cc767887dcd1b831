/-! THE QUESTIONS OVER THE STARTS: THE REFERENCE -/
theorem yMg_fr {g m : yM} (h : ∀ a b : Nat, a < 110 → m a b = g a b) (i : Nat) : ∀ n : Nat, yMg m i n = yMg g i n
  | 0 => rfl
  | n + 1 => by
    have ih := yMg_fr h i n
    have e1 : ∀ b, m 101 b = g 101 b := fun b => h 101 b (by decide)
    have e2 : ∀ b, m 102 b = g 102 b := fun b => h 102 b (by decide)
    have e3 : ∀ b, m 103 b = g 103 b := fun b => h 103 b (by decide)
    by_cases c : (g 101 n = g 101 i ∧ g 103 n = g 103 i ∧ (g 102 n < g 102 i ∨ (g 102 n = g 102 i ∧ n < i))) ∧ (yMg g i n < 0 ∨ (g 101 (Int.toNat (yMg g i n)) = g 101 n ∧ g 103 (Int.toNat (yMg g i n)) = g 103 n ∧ (g 102 (Int.toNat (yMg g i n)) < g 102 n ∨ (g 102 (Int.toNat (yMg g i n)) = g 102 n ∧ yMg g i n < n))))
    · rw [yMg_1 c, yMg_1 (by simp only [ih, e1, e2, e3]; exact c)]
    · rw [yMg_0 c, yMg_0 (by simp only [ih, e1, e2, e3]; exact c), ih]
theorem yMl_fr {g m : yM} (h : ∀ a b : Nat, a < 110 → m a b = g a b) (c : Nat) : yMl m c = yMl g c := by
  unfold yMl
  rw [h 102 c (by decide), h 104 c (by decide), h 91 _ (by decide)]
theorem yMe_fr {g m : yM} (h : ∀ a b : Nat, a < 110 → m a b = g a b) (c : Nat) (a : Int) : yMe m c a = yMe g c a := by
  unfold yMe
  rw [h 91 c (by decide), h 91 52 (by decide), h 102 c (by decide), h 104 c (by decide), h 91 _ (by decide), h 102 (Int.toNat a) (by decide)]
theorem yaM_fr {g m : yM} (h : ∀ a b : Nat, a < 110 → m a b = g a b) (d t : Int) : ∀ n : Nat, yaM m d t n = yaM g d t n
  | 0 => rfl
  | n + 1 => by
    have ih := yaM_fr h d t n
    have e1 : m 95 n = g 95 n := h 95 n (by decide)
    have e2 : m 96 n = g 96 n := h 96 n (by decide)
    have e3 : m 97 n = g 97 n := h 97 n (by decide)
    by_cases c : g 95 n = d ∧ g 96 n ≤ t ∧ t ≤ g 97 n
    · rw [yaM_1 c, yaM_1 (by rw [e1, e2, e3]; exact c)]
    · rw [yaM_0 c, yaM_0 (by rw [e1, e2, e3]; exact c), ih]
theorem yQm_fr {g m : yM} (h : ∀ a b : Nat, a < 110 → m a b = g a b) (d e : Int) : ∀ n : Nat, yQm m d e n = yQm g d e n
  | 0 => rfl
  | n + 1 => by
    have ih := yQm_fr h d e n
    by_cases c : yaM g d (e + n) (Int.toNat (g 90 6)) = 1
    · rw [yQm_1 c, yQm_1 (by rw [h 90 6 (by decide), yaM_fr h]; exact c)]
    · rw [yQm_0 c, yQm_0 (by rw [h 90 6 (by decide), yaM_fr h]; exact c), ih]
theorem yMf_fr {g m : yM} (h : ∀ a b : Nat, a < 110 → m a b = g a b) (c : Nat) : yMf m c = yMf g c := by
  have e : yQr m c = yQr g c := by
    unfold yQr
    rw [h 90 22 (by decide), h 102 c (by decide), h 103 c (by decide), yMg_fr h, yMe_fr h, yQm_fr h]
  unfold yMf
  rw [e, yMl_fr h]
theorem yQm_g2 {g : yM} {d e : Int} : ∀ n : Nat, e ≤ yQm g d e n
  | 0 => Int.le_refl _
  | n + 1 => by
    have ih := @yQm_g2 g d e n
    by_cases c : yaM g d (e + n) (Int.toNat (g 90 6)) = 1
    · rw [yQm_1 c]
      omega
    · rw [yQm_0 c]
      exact ih
theorem yMf_b (g : yM) (c : Nat) : yMf g c = -2 ∨ (0 ≤ yMf g c ∧ yMf g c ≤ 2147483647) := by
  have h1 : -2147483648 ≤ yMl g c ∧ yMl g c ≤ 2147483647 := yw_rng _
  have h2 : 0 ≤ yQr g c := Int.le_trans (yMe_0 g c _) (yQm_g2 _)
  unfold yMf
  split
  · exact Or.inl rfl
  · exact Or.inr ⟨by omega, by omega⟩
def yLa (g : yM) (p q : Nat) : Prop := g 101 p = g 101 q ∧ (g 90 11 = 0 ∨ g 107 p = g 107 q) ∧ yw (g 91 q + g 91 52) < yw (g 91 p - g 91 52)
def yPm (g : yM) (h : Int) (p q : Nat) : Prop := p ≠ q ∧ yLa g p q ∧ 0 ≤ g 110 p ∧ 0 ≤ g 110 q ∧ (h = 0 → yMl g p < g 110 q) ∧ (h ≠ 0 → g 110 p < yMl g q)
def yPt (g : yM) (p q : Nat) : Prop := p ≠ q ∧ yLa g p q ∧ 0 ≤ g 111 p ∧ 0 ≤ g 111 q ∧ g 111 p < g 111 q
def yMm (g : yM) (t : Int) (i : Nat) : Prop := g 101 i = t ∧ 0 ≤ g 108 i ∧ (g 110 i < 0 ∨ g 108 i < g 110 i ∨ yMl g i < g 108 i)
/-- the starts are found: those of the first i -/
def yFi (g m : yM) (i : Int) : Prop := yTy zpZ m ∧ (∀ a b : Nat, a ≠ 110 → a ≠ 111 → m a b = g a b) ∧ ∀ n : Nat, (n : Int) < i → m 110 n = yMf g n ∧ m 111 n = if 0 ≤ g 108 n then g 108 n else yMf g n
def yFd (g m : yM) : Prop := yFi g m (g 90 22)
theorem yFi.step {g m : yM} {i z : Int} (h : yFi g m i) (hi : 0 ≤ i ∧ i < 40) (hz : z = if 0 ≤ g 108 (Int.toNat i) then g 108 (Int.toNat i) else yMf g (Int.toNat i)) (hr : -2147483648 ≤ g 108 (Int.toNat i) ∧ g 108 (Int.toNat i) ≤ 2147483647) : yFi g (yset (yset m 110 (Int.toNat i) (yMf g (Int.toNat i))) 111 (Int.toNat i) z) (i + 1) := by
  obtain ⟨h1, h2, h3⟩ := h
  have hb := yMf_b g (Int.toNat i)
  have hzr : -2147483648 ≤ z ∧ z ≤ 2147483647 := by
    rw [hz]
    split <;> omega
  refine ⟨?_, fun a b h4 h5 => by rw [yset_nc h5, yset_nc h4]; exact h2 a b h4 h5, fun n hn => ?_⟩
  · refine yTy.sA ?_ (List.mem_of_getElem? (i := 63) rfl) (by decide +kernel) hzr
    exact h1.sA (List.mem_of_getElem? (i := 62) rfl) (by decide +kernel) ⟨by omega, by omega⟩
  · by_cases e : n = Int.toNat i
    · rw [e, yset_nc (by decide), yset_eq, yset_eq]
      exact ⟨rfl, hz⟩
    · rw [yset_nc (by decide), yset_nj e, yset_nj e, yset_nc (by decide)]
      exact h3 n (by omega)
theorem ySu_no {P : Nat → Prop} {d : Nat → Int} {a : Int} : ∀ m : Nat, (∀ j : Nat, j < m → ¬ P j) → ySu P d a m a
  | 0, _ => rfl
  | m + 1, h => ⟨a, ySu_no m (fun j hj => h j (by omega)), Or.inr ⟨h m (by omega), rfl⟩⟩
theorem ySu_00 {P : Nat → Prop} {d : Nat → Int} {a u : Int} {n : Nat} (ha : -2147483648 ≤ a ∧ a ≤ 2147483647) (h : ySu P d a n u) (hP : ¬ P n) : ySu P d a (n + 1) (yw (u + 0)) := by
  have hr := ySu_rng ha n u h
  rw [Int.add_zero, yw_s u hr.1 hr.2]
  exact ySu_0 h hP
theorem yBt_z {P : Nat → Prop} : ∀ (n : Nat) (v : Int), yBt P n v → ∃ z : Int64, v = z.toInt
  | 0, v, h => ⟨0, h⟩
  | n + 1, v, h => by
    obtain ⟨u, h1, h2⟩ := h
    rcases h2 with ⟨-, rfl⟩ | ⟨-, rfl⟩
    · exact ⟨_, rfl⟩
    · exact yBt_z n _ h1
theorem yBt_00 {P : Nat → Prop} {u : Int} {n : Nat} (h : yBt P n u) (hP : ¬ P n) : yBt P (n + 1) (ybl (fun x y => x ||| y) u 0) := by
  have e : ybl (fun x y => x ||| y) u 0 = u := by
    obtain ⟨z, rfl⟩ := yBt_z n u h
    show (Int64.ofInt z.toInt ||| Int64.ofInt 0).toInt = z.toInt
    rw [Int64.ofInt_toInt, show Int64.ofInt 0 = 0 from rfl, Int64.or_zero]
  rw [e]
  exact yBt_0 h hP
def yP_FS : yPT := fun as g K => as = [(3, 90)] ∧ (yTy zpZ g) ∧ (0 ≤ g 90 22 ∧ g 90 22 ≤ 40) ∧ (0 ≤ g 90 6 ∧ g 90 6 ≤ 12) ∧ (∀ n : Nat, (n : Int) < g 90 22 → (0 ≤ g 104 n ∧ g 104 n ≤ 5) ∧ g 102 n ≤ 719) ∧ (∀ (g' : yM), (yFd g g') → K [] g')
def yC_FS : yC := (159, (4, 113), yP_FS)
set_option maxRecDepth 8000 in
theorem yl_FS {K : List yV → yM → Prop} {Y : yNx} {g : yM} (hY : yCl zpD159 (zpZ, zpRS, zpP12, zpMT, [yC_ELO], (4, 113), 0) K Y) (hT : yTy zpZ g) (hp1 : 0 ≤ g 90 22 ∧ g 90 22 ≤ 40) (hp2 : 0 ≤ g 90 6 ∧ g 90 6 ≤ 12) (hp3 : ∀ n : Nat, (n : Int) < g 90 22 → (0 ≤ g 104 n ∧ g 104 n ≤ 5) ∧ g 102 n ≤ 719) (hK : ∀ g' : yM, yFd g g' → K [] g') : ∀ (d : Nat) (i : Int), i + d = g 90 22 → 0 ≤ i → ∀ m : yM, yFi g m i → Y 2 [(3, 90), (1, i)] [] m := by
  intro d
  induction d with
  | zero =>
    intro i hd h0 m hm
    refine yrun_ok (sp := fun pc => Nat.beq pc 2) hY 28 2 _ [] m ?_
    show (((m 90 22) ≤ i → (K [] m)) ∧ (¬ ((m 90 22) ≤ i) → (∃ (w2 : Int), [(3, 90), (1, i)] = [(3, 90), (1, w2)] ∧ (0 ≤ w2 ∧ w2 < 40) ∧ (0 ≤ m 90 22 ∧ m 90 22 ≤ 40) ∧ (0 ≤ m 90 6 ∧ m 90 6 ≤ 12) ∧ (0 ≤ m 104 (Int.toNat w2) ∧ m 104 (Int.toNat w2) ≤ 5) ∧ (m 102 (Int.toNat w2) ≤ 719) ∧ (∀ (r3 : Int), (r3 = yMf m (Int.toNat w2)) → (((0 : Int) ≤ i ∧ i < ((40 : Nat) : Int)) ∧ (((0 : Int) ≤ i ∧ i < ((40 : Nat) : Int)) ∧ (((m 108 (Int.toNat i)) < 0 → (((0 : Int) ≤ i ∧ i < ((40 : Nat) : Int)) ∧ (((0 : Int) ≤ i ∧ i < ((40 : Nat) : Int)) ∧ (Y 2 [(3, 90), (1, (yw (i + 1)))] [] (yset (yset m 110 (Int.toNat i) r3) 111 (Int.toNat i) ((yset m 110 (Int.toNat i) r3) 110 (Int.toNat i))))))) ∧ (¬ ((m 108 (Int.toNat i)) < 0) → (((0 : Int) ≤ i ∧ i < ((40 : Nat) : Int)) ∧ (((0 : Int) ≤ i ∧ i < ((40 : Nat) : Int)) ∧ (Y 2 [(3, 90), (1, (yw (i + 1)))] [] (yset (yset m 110 (Int.toNat i) r3) 111 (Int.toNat i) (m 108 (Int.toNat i))))))))))))))
    refine ⟨fun h1 => ?_, fun h1 => ?_⟩
    · have e22 : m 90 22 = g 90 22 := hm.2.1 90 22 (by decide) (by decide)
      have e6 : m 90 6 = g 90 6 := hm.2.1 90 6 (by decide) (by decide)
      have e104 : m 104 (Int.toNat i) = g 104 (Int.toNat i) := hm.2.1 104 _ (by decide) (by decide)
      have e102 : m 102 (Int.toNat i) = g 102 (Int.toNat i) := hm.2.1 102 _ (by decide) (by decide)
      obtain rfl : i = g 90 22 := by omega
      exact hK _ hm
    · refine ⟨_, rfl, (by have e22 : m 90 22 = g 90 22 := hm.2.1 90 22 (by decide) (by decide); have e6 : m 90 6 = g 90 6 := hm.2.1 90 6 (by decide) (by decide); have e104 : m 104 (Int.toNat i) = g 104 (Int.toNat i) := hm.2.1 104 _ (by decide) (by decide); have e102 : m 102 (Int.toNat i) = g 102 (Int.toNat i) := hm.2.1 102 _ (by decide) (by decide); omega), (by have e22 : m 90 22 = g 90 22 := hm.2.1 90 22 (by decide) (by decide); have e6 : m 90 6 = g 90 6 := hm.2.1 90 6 (by decide) (by decide); have e104 : m 104 (Int.toNat i) = g 104 (Int.toNat i) := hm.2.1 104 _ (by decide) (by decide); have e102 : m 102 (Int.toNat i) = g 102 (Int.toNat i) := hm.2.1 102 _ (by decide) (by decide); omega), (by have e22 : m 90 22 = g 90 22 := hm.2.1 90 22 (by decide) (by decide); have e6 : m 90 6 = g 90 6 := hm.2.1 90 6 (by decide) (by decide); have e104 : m 104 (Int.toNat i) = g 104 (Int.toNat i) := hm.2.1 104 _ (by decide) (by decide); have e102 : m 102 (Int.toNat i) = g 102 (Int.toNat i) := hm.2.1 102 _ (by decide) (by decide); omega), (by have e22 : m 90 22 = g 90 22 := hm.2.1 90 22 (by decide) (by decide); have e6 : m 90 6 = g 90 6 := hm.2.1 90 6 (by decide) (by decide); have e104 : m 104 (Int.toNat i) = g 104 (Int.toNat i) := hm.2.1 104 _ (by decide) (by decide); have e102 : m 102 (Int.toNat i) = g 102 (Int.toNat i) := hm.2.1 102 _ (by decide) (by decide); omega), (by have e22 : m 90 22 = g 90 22 := hm.2.1 90 22 (by decide) (by decide); have e6 : m 90 6 = g 90 6 := hm.2.1 90 6 (by decide) (by decide); have e104 : m 104 (Int.toNat i) = g 104 (Int.toNat i) := hm.2.1 104 _ (by decide) (by decide); have e102 : m 102 (Int.toNat i) = g 102 (Int.toNat i) := hm.2.1 102 _ (by decide) (by decide); omega), ?_⟩
      intro r3 p40
      refine ⟨(by have e22 : m 90 22 = g 90 22 := hm.2.1 90 22 (by decide) (by decide); have e6 : m 90 6 = g 90 6 := hm.2.1 90 6 (by decide) (by decide); have e104 : m 104 (Int.toNat i) = g 104 (Int.toNat i) := hm.2.1 104 _ (by decide) (by decide); have e102 : m 102 (Int.toNat i) = g 102 (Int.toNat i) := hm.2.1 102 _ (by decide) (by decide); omega), ?_⟩
      refine ⟨(by have e22 : m 90 22 = g 90 22 := hm.2.1 90 22 (by decide) (by decide); have e6 : m 90 6 = g 90 6 := hm.2.1 90 6 (by decide) (by decide); have e104 : m 104 (Int.toNat i) = g 104 (Int.toNat i) := hm.2.1 104 _ (by decide) (by decide); have e102 : m 102 (Int.toNat i) = g 102 (Int.toNat i) := hm.2.1 102 _ (by decide) (by decide); omega), ?_⟩
      refine ⟨fun h5 => ?_, fun h5 => ?_⟩
      · refine ⟨(by have e22 : m 90 22 = g 90 22 := hm.2.1 90 22 (by decide) (by decide); have e6 : m 90 6 = g 90 6 := hm.2.1 90 6 (by decide) (by decide); have e104 : m 104 (Int.toNat i) = g 104 (Int.toNat i) := hm.2.1 104 _ (by decide) (by decide); have e102 : m 102 (Int.toNat i) = g 102 (Int.toNat i) := hm.2.1 102 _ (by decide) (by decide); omega), ?_⟩
        refine ⟨(by have e22 : m 90 22 = g 90 22 := hm.2.1 90 22 (by decide) (by decide); have e6 : m 90 6 = g 90 6 := hm.2.1 90 6 (by decide) (by decide); have e104 : m 104 (Int.toNat i) = g 104 (Int.toNat i) := hm.2.1 104 _ (by decide) (by decide); have e102 : m 102 (Int.toNat i) = g 102 (Int.toNat i) := hm.2.1 102 _ (by decide) (by decide); omega), ?_⟩
        have e22 : m 90 22 = g 90 22 := hm.2.1 90 22 (by decide) (by decide)
        have e6 : m 90 6 = g 90 6 := hm.2.1 90 6 (by decide) (by decide)
        have e104 : m 104 (Int.toNat i) = g 104 (Int.toNat i) := hm.2.1 104 _ (by decide) (by decide)
        have e102 : m 102 (Int.toNat i) = g 102 (Int.toNat i) := hm.2.1 102 _ (by decide) (by decide)
        omega
      · refine ⟨(by have e22 : m 90 22 = g 90 22 := hm.2.1 90 22 (by decide) (by decide); have e6 : m 90 6 = g 90 6 := hm.2.1 90 6 (by decide) (by decide); have e104 : m 104 (Int.toNat i) = g 104 (Int.toNat i) := hm.2.1 104 _ (by decide) (by decide); have e102 : m 102 (Int.toNat i) = g 102 (Int.toNat i) := hm.2.1 102 _ (by decide) (by decide); omega), ?_⟩
        refine ⟨(by have e22 : m 90 22 = g 90 22 := hm.2.1 90 22 (by decide) (by decide); have e6 : m 90 6 = g 90 6 := hm.2.1 90 6 (by decide) (by decide); have e104 : m 104 (Int.toNat i) = g 104 (Int.toNat i) := hm.2.1 104 _ (by decide) (by decide); have e102 : m 102 (Int.toNat i) = g 102 (Int.toNat i) := hm.2.1 102 _ (by decide) (by decide); omega), ?_⟩
        have e22 : m 90 22 = g 90 22 := hm.2.1 90 22 (by decide) (by decide)
        have e6 : m 90 6 = g 90 6 := hm.2.1 90 6 (by decide) (by decide)
        have e104 : m 104 (Int.toNat i) = g 104 (Int.toNat i) := hm.2.1 104 _ (by decide) (by decide)
        have e102 : m 102 (Int.toNat i) = g 102 (Int.toNat i) := hm.2.1 102 _ (by decide) (by decide)
        omega
  | succ d ih =>
    intro i hd h0 m hm
    refine yrun_ok (sp := fun pc => Nat.beq pc 2) hY 28 2 _ [] m ?_
    show (((m 90 22) ≤ i → (K [] m)) ∧ (¬ ((m 90 22) ≤ i) → (∃ (w2 : Int), [(3, 90), (1, i)] = [(3, 90), (1, w2)] ∧ (0 ≤ w2 ∧ w2 < 40) ∧ (0 ≤ m 90 22 ∧ m 90 22 ≤ 40) ∧ (0 ≤ m 90 6 ∧ m 90 6 ≤ 12) ∧ (0 ≤ m 104 (Int.toNat w2) ∧ m 104 (Int.toNat w2) ≤ 5) ∧ (m 102 (Int.toNat w2) ≤ 719) ∧ (∀ (r3 : Int), (r3 = yMf m (Int.toNat w2)) → (((0 : Int) ≤ i ∧ i < ((40 : Nat) : Int)) ∧ (((0 : Int) ≤ i ∧ i < ((40 : Nat) : Int)) ∧ (((m 108 (Int.toNat i)) < 0 → (((0 : Int) ≤ i ∧ i < ((40 : Nat) : Int)) ∧ (((0 : Int) ≤ i ∧ i < ((40 : Nat) : Int)) ∧ (Y 2 [(3, 90), (1, (yw (i + 1)))] [] (yset (yset m 110 (Int.toNat i) r3) 111 (Int.toNat i) ((yset m 110 (Int.toNat i) r3) 110 (Int.toNat i))))))) ∧ (¬ ((m 108 (Int.toNat i)) < 0) → (((0 : Int) ≤ i ∧ i < ((40 : Nat) : Int)) ∧ (((0 : Int) ≤ i ∧ i < ((40 : Nat) : Int)) ∧ (Y 2 [(3, 90), (1, (yw (i + 1)))] [] (yset (yset m 110 (Int.toNat i) r3) 111 (Int.toNat i) (m 108 (Int.toNat i))))))))))))))
    refine ⟨fun h1 => ?_, fun h1 => ?_⟩
    · have e22 : m 90 22 = g 90 22 := hm.2.1 90 22 (by decide) (by decide)
      have e6 : m 90 6 = g 90 6 := hm.2.1 90 6 (by decide) (by decide)
      have e104 : m 104 (Int.toNat i) = g 104 (Int.toNat i) := hm.2.1 104 _ (by decide) (by decide)
      have e102 : m 102 (Int.toNat i) = g 102 (Int.toNat i) := hm.2.1 102 _ (by decide) (by decide)
      omega
    · refine ⟨_, rfl, (by have e22 : m 90 22 = g 90 22 := hm.2.1 90 22 (by decide) (by decide); have e6 : m 90 6 = g 90 6 := hm.2.1 90 6 (by decide) (by decide); have e104 : m 104 (Int.toNat i) = g 104 (Int.toNat i) := hm.2.1 104 _ (by decide) (by decide); have e102 : m 102 (Int.toNat i) = g 102 (Int.toNat i) := hm.2.1 102 _ (by decide) (by decide); have hq := hp3 (Int.toNat i) (by omega); omega), (by have e22 : m 90 22 = g 90 22 := hm.2.1 90 22 (by decide) (by decide); have e6 : m 90 6 = g 90 6 := hm.2.1 90 6 (by decide) (by decide); have e104 : m 104 (Int.toNat i) = g 104 (Int.toNat i) := hm.2.1 104 _ (by decide) (by decide); have e102 : m 102 (Int.toNat i) = g 102 (Int.toNat i) := hm.2.1 102 _ (by decide) (by decide); have hq := hp3 (Int.toNat i) (by omega); omega), (by have e22 : m 90 22 = g 90 22 := hm.2.1 90 22 (by decide) (by decide); have e6 : m 90 6 = g 90 6 := hm.2.1 90 6 (by decide) (by decide); have e104 : m 104 (Int.toNat i) = g 104 (Int.toNat i) := hm.2.1 104 _ (by decide) (by decide); have e102 : m 102 (Int.toNat i) = g 102 (Int.toNat i) := hm.2.1 102 _ (by decide) (by decide); have hq := hp3 (Int.toNat i) (by omega); omega), (by have e22 : m 90 22 = g 90 22 := hm.2.1 90 22 (by decide) (by decide); have e6 : m 90 6 = g 90 6 := hm.2.1 90 6 (by decide) (by decide); have e104 : m 104 (Int.toNat i) = g 104 (Int.toNat i) := hm.2.1 104 _ (by decide) (by decide); have e102 : m 102 (Int.toNat i) = g 102 (Int.toNat i) := hm.2.1 102 _ (by decide) (by decide); have hq := hp3 (Int.toNat i) (by omega); omega), (by have e22 : m 90 22 = g 90 22 := hm.2.1 90 22 (by decide) (by decide); have e6 : m 90 6 = g 90 6 := hm.2.1 90 6 (by decide) (by decide); have e104 : m 104 (Int.toNat i) = g 104 (Int.toNat i) := hm.2.1 104 _ (by decide) (by decide); have e102 : m 102 (Int.toNat i) = g 102 (Int.toNat i) := hm.2.1 102 _ (by decide) (by decide); have hq := hp3 (Int.toNat i) (by omega); omega), ?_⟩
      intro r3 p40
      refine ⟨(by have e22 : m 90 22 = g 90 22 := hm.2.1 90 22 (by decide) (by decide); have e6 : m 90 6 = g 90 6 := hm.2.1 90 6 (by decide) (by decide); have e104 : m 104 (Int.toNat i) = g 104 (Int.toNat i) := hm.2.1 104 _ (by decide) (by decide); have e102 : m 102 (Int.toNat i) = g 102 (Int.toNat i) := hm.2.1 102 _ (by decide) (by decide); have hq := hp3 (Int.toNat i) (by omega); omega), ?_⟩
      refine ⟨(by have e22 : m 90 22 = g 90 22 := hm.2.1 90 22 (by decide) (by decide); have e6 : m 90 6 = g 90 6 := hm.2.1 90 6 (by decide) (by decide); have e104 : m 104 (Int.toNat i) = g 104 (Int.toNat i) := hm.2.1 104 _ (by decide) (by decide); have e102 : m 102 (Int.toNat i) = g 102 (Int.toNat i) := hm.2.1 102 _ (by decide) (by decide); have hq := hp3 (Int.toNat i) (by omega); omega), ?_⟩
      refine ⟨fun h5 => ?_, fun h5 => ?_⟩
      · refine ⟨(by have e22 : m 90 22 = g 90 22 := hm.2.1 90 22 (by decide) (by decide); have e6 : m 90 6 = g 90 6 := hm.2.1 90 6 (by decide) (by decide); have e104 : m 104 (Int.toNat i) = g 104 (Int.toNat i) := hm.2.1 104 _ (by decide) (by decide); have e102 : m 102 (Int.toNat i) = g 102 (Int.toNat i) := hm.2.1 102 _ (by decide) (by decide); have hq := hp3 (Int.toNat i) (by omega); omega), ?_⟩
        refine ⟨(by have e22 : m 90 22 = g 90 22 := hm.2.1 90 22 (by decide) (by decide); have e6 : m 90 6 = g 90 6 := hm.2.1 90 6 (by decide) (by decide); have e104 : m 104 (Int.toNat i) = g 104 (Int.toNat i) := hm.2.1 104 _ (by decide) (by decide); have e102 : m 102 (Int.toNat i) = g 102 (Int.toNat i) := hm.2.1 102 _ (by decide) (by decide); have hq := hp3 (Int.toNat i) (by omega); omega), ?_⟩
        have e22 : m 90 22 = g 90 22 := hm.2.1 90 22 (by decide) (by decide)
        have e6 : m 90 6 = g 90 6 := hm.2.1 90 6 (by decide) (by decide)
        have e104 : m 104 (Int.toNat i) = g 104 (Int.toNat i) := hm.2.1 104 _ (by decide) (by decide)
        have e102 : m 102 (Int.toNat i) = g 102 (Int.toNat i) := hm.2.1 102 _ (by decide) (by decide)
        have yi : yw (i + 1) = i + 1 := yw_s (i + 1) (by omega) (by omega)
        have e108 : m 108 (Int.toNat i) = g 108 (Int.toNat i) := hm.2.1 108 _ (by decide) (by decide)
        have hr := hT.fA (j := Int.toNat i) (List.mem_of_getElem? (i := 60) rfl) (by omega)
        rw [yMf_fr (fun a b hab => hm.2.1 a b (by omega) (by omega))] at p40
        rw [yi]
        refine ih (i + 1) (by omega) (by omega) _ ?_
        rw [p40]
        rw [yset_eq]
        refine hm.step ⟨h0, by omega⟩ ?_ hr
        rw [if_neg (by omega)]
      · refine ⟨(by have e22 : m 90 22 = g 90 22 := hm.2.1 90 22 (by decide) (by decide); have e6 : m 90 6 = g 90 6 := hm.2.1 90 6 (by decide) (by decide); have e104 : m 104 (Int.toNat i) = g 104 (Int.toNat i) := hm.2.1 104 _ (by decide) (by decide); have e102 : m 102 (Int.toNat i) = g 102 (Int.toNat i) := hm.2.1 102 _ (by decide) (by decide); have hq := hp3 (Int.toNat i) (by omega); omega), ?_⟩
        refine ⟨(by have e22 : m 90 22 = g 90 22 := hm.2.1 90 22 (by decide) (by decide); have e6 : m 90 6 = g 90 6 := hm.2.1 90 6 (by decide) (by decide); have e104 : m 104 (Int.toNat i) = g 104 (Int.toNat i) := hm.2.1 104 _ (by decide) (by decide); have e102 : m 102 (Int.toNat i) = g 102 (Int.toNat i) := hm.2.1 102 _ (by decide) (by decide); have hq := hp3 (Int.toNat i) (by omega); omega), ?_⟩
        have e22 : m 90 22 = g 90 22 := hm.2.1 90 22 (by decide) (by decide)
        have e6 : m 90 6 = g 90 6 := hm.2.1 90 6 (by decide) (by decide)
        have e104 : m 104 (Int.toNat i) = g 104 (Int.toNat i) := hm.2.1 104 _ (by decide) (by decide)
        have e102 : m 102 (Int.toNat i) = g 102 (Int.toNat i) := hm.2.1 102 _ (by decide) (by decide)
        have yi : yw (i + 1) = i + 1 := yw_s (i + 1) (by omega) (by omega)
        have e108 : m 108 (Int.toNat i) = g 108 (Int.toNat i) := hm.2.1 108 _ (by decide) (by decide)
        have hr := hT.fA (j := Int.toNat i) (List.mem_of_getElem? (i := 60) rfl) (by omega)
        rw [yMf_fr (fun a b hab => hm.2.1 a b (by omega) (by omega))] at p40
        rw [yi]
        refine ih (i + 1) (by omega) (by omega) _ ?_
        rw [p40]
        refine hm.step ⟨h0, by omega⟩ ?_ hr
        rw [if_pos (by omega)]
        exact e108
set_option maxRecDepth 8000 in
theorem yv_FS {K : List yV → yM → Prop} {Y : yNx} {g : yM} (hY : yCl zpD159 (zpZ, zpRS, zpP12, zpMT, [yC_ELO], (4, 113), 0) K Y) (hp0 : yTy zpZ g) (hp1 : 0 ≤ g 90 22 ∧ g 90 22 ≤ 40) (hp2 : 0 ≤ g 90 6 ∧ g 90 6 ≤ 12) (hp3 : ∀ n : Nat, (n : Int) < g 90 22 → (0 ≤ g 104 n ∧ g 104 n ≤ 5) ∧ g 102 n ≤ 719) (hK : ∀ (g' : yM), (yFd g g') → K [] g') : Y 0 [(3, 90), (0, 0)] [] g := by
  refine yrun_ok (sp := fun pc => Nat.beq pc 2) hY 3 0 _ [] g ?_
  show (Y 2 [(3, 90), (1, 0)] [] g)
  exact yl_FS hY hp0 hp1 hp2 hp3 (fun g' h => hK g' h) (Int.toNat (g 90 22)) 0 (by omega) (by decide) g ⟨hp0, fun _ _ _ _ => rfl, fun j hj => absurd hj (by omega)⟩
theorem yM_FS {l : Launch} {Ts : List Cond} {cl : List vw_C} {RO : zRO} (H : zHyp Ts cl RO) : yMet l Ts cl zpZ RO zpMT yC_FS := ymet_of2 H.1 H.2.1 zpDj H.2.2.1 yRb H.p12 (ymets_cons (yM_ELO H) ymets_nil) (zrc0 rfl) (plainFor_of_name zpy12) zpDk159 (fun as g K Y h hA hY => by
  obtain ⟨rfl, hp0, hp1, hp2, hp3, hK⟩ := h
  exact yv_FS hY  hp0 hp1 hp2 hp3 hK)
def yP_MCN : yPT := fun as g K => ∃ (t : Int), as = [(3, 90), (1, t)] ∧ (0 ≤ g 90 22 ∧ g 90 22 ≤ 40) ∧ (0 ≤ g 90 6 ∧ g 90 6 ≤ 12) ∧ (∀ n : Nat, (n : Int) < g 90 22 → (0 ≤ g 104 n ∧ g 104 n ≤ 5) ∧ g 102 n ≤ 719) ∧ (∀ (r : Int), (¬ (0 ≤ t ∧ t ≤ 3) → r = -1) → ((0 ≤ t ∧ t ≤ 3) → yFst (fun i => g 101 i = t ∧ yMf g i = -2) (g 90 22) r) → K [(1, r)] g)
def yC_MCN : yC := (144, (4, 113), yP_MCN)
set_option maxRecDepth 8000 in
theorem yl_MCN {K : List yV → yM → Prop} {Y : yNx} {g : yM} {t : Int} (hY : yCl zpD144 (zpZ, zpRS, zpP12, zpMT, [yC_IDY, yC_ELO], (4, 113), 1) K Y) (hq0 : 0 ≤ g 90 22 ∧ g 90 22 ≤ 40) (hq1 : 0 ≤ g 90 6 ∧ g 90 6 ≤ 12) (hq2 : ∀ n : Nat, (n : Int) < g 90 22 → (0 ≤ g 104 n ∧ g 104 n ≤ 5) ∧ g 102 n ≤ 719) (hK : ∀ v : Int, yFst (fun i => g 101 i = t ∧ yMf g i = -2) (g 90 22) v → K [(1, v)] g) : ∀ (n : Nat) (i : Int), i + n = g 90 22 → 0 ≤ i → ∀ _z : Int, (∀ j : Nat, (j : Int) < i → ¬ (fun i => g 101 i = t ∧ yMf g i = -2) j) → Y 11 [(3, 90), (1, t), (1, i)] [] g := by
  intro n
  induction n with
  | zero =>
    intro i hd h0 _z hu
    refine yrun_ok (sp := fun pc => Nat.beq pc 11) hY 18 11 _ [] g ?_
    show (((g 90 22) ≤ i → (K [(1, (-2))] g)) ∧ (¬ ((g 90 22) ≤ i) → (((0 : Int) ≤ i ∧ i < ((40 : Nat) : Int)) ∧ (((g 101 (Int.toNat i)) ≠ t → (Y 11 [(3, 90), (1, t), (1, (yw (i + 1)))] [] g)) ∧ (¬ ((g 101 (Int.toNat i)) ≠ t) → (∃ (w3 : Int), [(3, 90), (1, i)] = [(3, 90), (1, w3)] ∧ (0 ≤ w3 ∧ w3 < 40) ∧ (0 ≤ g 90 22 ∧ g 90 22 ≤ 40) ∧ (0 ≤ g 90 6 ∧ g 90 6 ≤ 12) ∧ (0 ≤ g 104 (Int.toNat w3) ∧ g 104 (Int.toNat w3) ≤ 5) ∧ (g 102 (Int.toNat w3) ≤ 719) ∧ (∀ (r4 : Int), (r4 = yMf g (Int.toNat w3)) → ((r4 ≠ (-2) → (Y 11 [(3, 90), (1, t), (1, (yw (i + 1)))] [] g)) ∧ (¬ (r4 ≠ (-2)) → (K [(1, i)] g))))))))))
    refine ⟨fun h1 => ?_, fun h1 => ?_⟩
    · obtain rfl : i = g 90 22 := by omega
      exact hK _ (Or.inr ⟨rfl, hu⟩)
    · refine ⟨(by first | omega | (have hq := hq2 (Int.toNat i) (by omega); omega)), ?_⟩
      refine ⟨fun h2 => ?_, fun h2 => ?_⟩
      · omega
      · refine ⟨_, rfl, (by first | omega | (have hq := hq2 (Int.toNat i) (by omega); omega)), (by first | omega | (have hq := hq2 (Int.toNat i) (by omega); omega)), (by first | omega | (have hq := hq2 (Int.toNat i) (by omega); omega)), (by first | omega | (have hq := hq2 (Int.toNat i) (by omega); omega)), (by first | omega | (have hq := hq2 (Int.toNat i) (by omega); omega)), ?_⟩
        intro r4 p50
        refine ⟨fun h6 => ?_, fun h6 => ?_⟩
        · omega
        · omega
  | succ n ih =>
    intro i hd h0 _z hu
    refine yrun_ok (sp := fun pc => Nat.beq pc 11) hY 18 11 _ [] g ?_
    show (((g 90 22) ≤ i → (K [(1, (-2))] g)) ∧ (¬ ((g 90 22) ≤ i) → (((0 : Int) ≤ i ∧ i < ((40 : Nat) : Int)) ∧ (((g 101 (Int.toNat i)) ≠ t → (Y 11 [(3, 90), (1, t), (1, (yw (i + 1)))] [] g)) ∧ (¬ ((g 101 (Int.toNat i)) ≠ t) → (∃ (w3 : Int), [(3, 90), (1, i)] = [(3, 90), (1, w3)] ∧ (0 ≤ w3 ∧ w3 < 40) ∧ (0 ≤ g 90 22 ∧ g 90 22 ≤ 40) ∧ (0 ≤ g 90 6 ∧ g 90 6 ≤ 12) ∧ (0 ≤ g 104 (Int.toNat w3) ∧ g 104 (Int.toNat w3) ≤ 5) ∧ (g 102 (Int.toNat w3) ≤ 719) ∧ (∀ (r4 : Int), (r4 = yMf g (Int.toNat w3)) → ((r4 ≠ (-2) → (Y 11 [(3, 90), (1, t), (1, (yw (i + 1)))] [] g)) ∧ (¬ (r4 ≠ (-2)) → (K [(1, i)] g))))))))))
    refine ⟨fun h1 => ?_, fun h1 => ?_⟩
    · omega
    · refine ⟨(by first | omega | (have hq := hq2 (Int.toNat i) (by omega); omega)), ?_⟩
      refine ⟨fun h2 => ?_, fun h2 => ?_⟩
      · have yi : yw (i + 1) = i + 1 := yw_s (i + 1) (by omega) (by omega)
        rw [yi]
        refine ih (i + 1) (by omega) (by omega) _z (fun j hj => ?_)
        by_cases hji : (j : Int) < i
        · exact hu j hji
        · obtain rfl : j = Int.toNat i := by omega
          exact fun z => by have z1 := z.1; have z2 := z.2; omega
      · refine ⟨_, rfl, (by first | omega | (have hq := hq2 (Int.toNat i) (by omega); omega)), (by first | omega | (have hq := hq2 (Int.toNat i) (by omega); omega)), (by first | omega | (have hq := hq2 (Int.toNat i) (by omega); omega)), (by first | omega | (have hq := hq2 (Int.toNat i) (by omega); omega)), (by first | omega | (have hq := hq2 (Int.toNat i) (by omega); omega)), ?_⟩
        intro r4 p50
        refine ⟨fun h6 => ?_, fun h6 => ?_⟩
        · have yi : yw (i + 1) = i + 1 := yw_s (i + 1) (by omega) (by omega)
          rw [yi]
          refine ih (i + 1) (by omega) (by omega) _z (fun j hj => ?_)
          by_cases hji : (j : Int) < i
          · exact hu j hji
          · obtain rfl : j = Int.toNat i := by omega
            exact fun z => by have z1 := z.1; have z2 := z.2; omega
        · exact hK _ (Or.inl ⟨Int.toNat i, by omega, by omega, ⟨by omega, by omega⟩, fun j hj => hu j (by omega)⟩)
set_option maxRecDepth 8000 in
theorem yv_MCN {K : List yV → yM → Prop} {Y : yNx} {g : yM} {t : Int} (hY : yCl zpD144 (zpZ, zpRS, zpP12, zpMT, [yC_IDY, yC_ELO], (4, 113), 1) K Y) (hr_t : -2147483648 ≤ t ∧ t ≤ 2147483647) (hp0 : 0 ≤ g 90 22 ∧ g 90 22 ≤ 40) (hp1 : 0 ≤ g 90 6 ∧ g 90 6 ≤ 12) (hp2 : ∀ n : Nat, (n : Int) < g 90 22 → (0 ≤ g 104 n ∧ g 104 n ≤ 5) ∧ g 102 n ≤ 719) (hK : ∀ (r : Int), (¬ (0 ≤ t ∧ t ≤ 3) → r = -1) → ((0 ≤ t ∧ t ≤ 3) → yFst (fun i => g 101 i = t ∧ yMf g i = -2) (g 90 22) r) → K [(1, r)] g) : Y 0 [(3, 90), (1, t), (0, 0)] [] g := by
  refine yrun_ok (sp := fun pc => Nat.beq pc 11) hY 6 0 _ [] g ?_
  show (∃ (d1 : Int), [(1, t)] = [(1, d1)] ∧ (∀ (r2 : Int), ((r2 = 1 ∧ 0 ≤ d1 ∧ d1 ≤ 3) ∨ (r2 = 0 ∧ (d1 < 0 ∨ 3 < d1))) → ((r2 ≠ 0 → (Y 11 [(3, 90), (1, t), (1, 0)] [] g)) ∧ (¬ (r2 ≠ 0) → (K [(1, (-1))] g)))))
  refine ⟨_, rfl, ?_⟩
  intro r2 p30
  refine ⟨fun h4 => ?_, fun h4 => ?_⟩
  · exact yl_MCN hY hp0 hp1 hp2 (fun v hv => hK v (fun h => absurd (by omega) h) (fun _ => hv)) (Int.toNat (g 90 22)) 0 (by omega) (by decide) 0 (fun j hj => absurd hj (by omega))
  · exact hK _ (fun _ => rfl) (fun h => absurd h (by omega))
theorem yM_MCN {l : Launch} {Ts : List Cond} {cl : List vw_C} {RO : zRO} (H : zHyp Ts cl RO) : yMet l Ts cl zpZ RO zpMT yC_MCN := ymet_of2 H.1 H.2.1 zpDj H.2.2.1 yRb H.p12 (ymets_cons (yM_IDY H) (ymets_cons (yM_ELO H) ymets_nil)) (zrc1 rfl) (plainFor_of_name zpy12) zpDk144 (fun as g K Y h hA hY => by
  obtain ⟨t, rfl, hp0, hp1, hp2, hK⟩ := h
  exact yv_MCN hY (yAr1 hA (by simp)) hp0 hp1 hp2 hK)
def yP_ILT : yPT := fun as g K => ∃ (a b : Int), as = [(3, 90), (1, a), (1, b)] ∧ (0 ≤ a ∧ a < 40) ∧ (0 ≤ b ∧ b < 40) ∧ (∀ (r : Int), ((r = 1 ∧ yLa g (Int.toNat a) (Int.toNat b)) ∨ (r = 0 ∧ ¬ yLa g (Int.toNat a) (Int.toNat b))) → K [(1, r)] g)
def yC_ILT : yC := (167, (1, 40), yP_ILT)
set_option maxRecDepth 8000 in
theorem yv_ILT {K : List yV → yM → Prop} {Y : yNx} {g : yM} {a b : Int} (hY : yCl zpD167 (zpZ, zpRS, zpP12, zpMT, [], (1, 40), 2) K Y) (hr_a : -2147483648 ≤ a ∧ a ≤ 2147483647) (hr_b : -2147483648 ≤ b ∧ b ≤ 2147483647) (hp0 : 0 ≤ a ∧ a < 40) (hp1 : 0 ≤ b ∧ b < 40) (hK : ∀ (r : Int), ((r = 1 ∧ yLa g (Int.toNat a) (Int.toNat b)) ∨ (r = 0 ∧ ¬ yLa g (Int.toNat a) (Int.toNat b))) → K [(1, r)] g) : Y 0 [(3, 90), (1, a), (1, b)] [] g := by
  refine yrun_ok (sp := fun pc => false) hY 43 0 _ [] g ?_
  show (((0 : Int) ≤ a ∧ a < ((40 : Nat) : Int)) ∧ (((0 : Int) ≤ b ∧ b < ((40 : Nat) : Int)) ∧ (((g 101 (Int.toNat a)) ≠ (g 101 (Int.toNat b)) → (((0 : Int) ≤ 0 ∧ 0 ≤ (1 : Int)) ∧ (K [(1, 0)] g))) ∧ (¬ ((g 101 (Int.toNat a)) ≠ (g 101 (Int.toNat b))) → (((g 90 11) = 0 → (((0 : Int) ≤ a ∧ a < ((53 : Nat) : Int)) ∧ (((0 : Int) ≤ 52 ∧ 52 < ((53 : Nat) : Int)) ∧ (((0 : Int) ≤ b ∧ b < ((53 : Nat) : Int)) ∧ (((0 : Int) ≤ 52 ∧ 52 < ((53 : Nat) : Int)) ∧ (((yw ((g 91 (Int.toNat a)) - (g 91 52))) ≤ (yw ((g 91 (Int.toNat b)) + (g 91 52))) → (((0 : Int) ≤ 0 ∧ 0 ≤ (1 : Int)) ∧ (K [(1, 0)] g))) ∧ (¬ ((yw ((g 91 (Int.toNat a)) - (g 91 52))) ≤ (yw ((g 91 (Int.toNat b)) + (g 91 52)))) → (((0 : Int) ≤ 1 ∧ 1 ≤ (1 : Int)) ∧ (K [(1, 1)] g))))))))) ∧ (¬ ((g 90 11) = 0) → (((0 : Int) ≤ a ∧ a < ((40 : Nat) : Int)) ∧ (((0 : Int) ≤ b ∧ b < ((40 : Nat) : Int)) ∧ (((g 107 (Int.toNat a)) ≠ (g 107 (Int.toNat b)) → (((0 : Int) ≤ 0 ∧ 0 ≤ (1 : Int)) ∧ (K [(1, 0)] g))) ∧ (¬ ((g 107 (Int.toNat a)) ≠ (g 107 (Int.toNat b))) → (((0 : Int) ≤ a ∧ a < ((53 : Nat) : Int)) ∧ (((0 : Int) ≤ 52 ∧ 52 < ((53 : Nat) : Int)) ∧ (((0 : Int) ≤ b ∧ b < ((53 : Nat) : Int)) ∧ (((0 : Int) ≤ 52 ∧ 52 < ((53 : Nat) : Int)) ∧ (((yw ((g 91 (Int.toNat a)) - (g 91 52))) ≤ (yw ((g 91 (Int.toNat b)) + (g 91 52))) → (((0 : Int) ≤ 0 ∧ 0 ≤ (1 : Int)) ∧ (K [(1, 0)] g))) ∧ (¬ ((yw ((g 91 (Int.toNat a)) - (g 91 52))) ≤ (yw ((g 91 (Int.toNat b)) + (g 91 52)))) → (((0 : Int) ≤ 1 ∧ 1 ≤ (1 : Int)) ∧ (K [(1, 1)] g))))))))))))))))))
  refine ⟨(by omega), ?_⟩
  refine ⟨(by omega), ?_⟩
  refine ⟨fun h1 => ?_, fun h1 => ?_⟩
  · refine ⟨(by omega), ?_⟩
    exact hK _ (by unfold yLa; omega)
  · refine ⟨fun h2 => ?_, fun h2 => ?_⟩
    · refine ⟨(by omega), ?_⟩
      refine ⟨(by omega), ?_⟩
      refine ⟨(by omega), ?_⟩
      refine ⟨(by omega), ?_⟩
      refine ⟨fun h3 => ?_, fun h3 => ?_⟩
      · refine ⟨(by have := yw_s ((g 91 (Int.toNat a)) - (g 91 52)); have := yw_s ((g 91 (Int.toNat b)) + (g 91 52)); omega), ?_⟩
        exact hK _ (by unfold yLa; omega)
      · refine ⟨(by have := yw_s ((g 91 (Int.toNat a)) - (g 91 52)); have := yw_s ((g 91 (Int.toNat b)) + (g 91 52)); omega), ?_⟩
        exact hK _ (by unfold yLa; omega)
    · refine ⟨(by omega), ?_⟩
      refine ⟨(by omega), ?_⟩
      refine ⟨fun h4 => ?_, fun h4 => ?_⟩
      · refine ⟨(by omega), ?_⟩
        exact hK _ (by unfold yLa; omega)
      · refine ⟨(by omega), ?_⟩
        refine ⟨(by omega), ?_⟩
        refine ⟨(by omega), ?_⟩
        refine ⟨(by omega), ?_⟩
        refine ⟨fun h5 => ?_, fun h5 => ?_⟩
        · refine ⟨(by have := yw_s ((g 91 (Int.toNat a)) - (g 91 52)); have := yw_s ((g 91 (Int.toNat b)) + (g 91 52)); omega), ?_⟩
          exact hK _ (by unfold yLa; omega)
        · refine ⟨(by have := yw_s ((g 91 (Int.toNat a)) - (g 91 52)); have := yw_s ((g 91 (Int.toNat b)) + (g 91 52)); omega), ?_⟩
          exact hK _ (by unfold yLa; omega)
theorem yM_ILT {l : Launch} {Ts : List Cond} {cl : List vw_C} {RO : zRO} (H : zHyp Ts cl RO) : yMet l Ts cl zpZ RO zpMT yC_ILT := ymet_of2 H.1 H.2.1 zpDj H.2.2.1 yRb H.p12 ymets_nil (zrc2 rfl) (plainFor_of_name zpy12) zpDk167 (fun as g K Y h hA hY => by
  obtain ⟨a, b, rfl, hp0, hp1, hK⟩ := h
  exact yv_ILT hY (yAr1 hA (by simp)) (yAr1 hA (by simp)) hp0 hp1 hK)
def yP_MPS : yPT := fun as g K => ∃ (a b h : Int), as = [(3, 90), (1, a), (1, b), (1, h)] ∧ (0 ≤ a ∧ a < 40) ∧ (0 ≤ b ∧ b < 40) ∧ (0 ≤ g 104 (Int.toNat a) ∧ g 104 (Int.toNat a) ≤ 5) ∧ (0 ≤ g 104 (Int.toNat b) ∧ g 104 (Int.toNat b) ≤ 5) ∧ (∀ (r : Int), ((r = 1 ∧ yPm g h (Int.toNat a) (Int.toNat b)) ∨ (r = 0 ∧ ¬ yPm g h (Int.toNat a) (Int.toNat b))) → K [(1, r)] g)
def yC_MPS : yC := (186, (2, 62), yP_MPS)
set_option maxRecDepth 8000 in
theorem yv_MPS {K : List yV → yM → Prop} {Y : yNx} {g : yM} {a b h : Int} (hY : yCl zpD186 (zpZ, zpRS, zpP12, zpMT, [yC_ILT, yC_LTO], (2, 62), 2) K Y) (hr_a : -2147483648 ≤ a ∧ a ≤ 2147483647) (hr_b : -2147483648 ≤ b ∧ b ≤ 2147483647) (hr_h : -2147483648 ≤ h ∧ h ≤ 2147483647) (hp0 : 0 ≤ a ∧ a < 40) (hp1 : 0 ≤ b ∧ b < 40) (hp2 : 0 ≤ g 104 (Int.toNat a) ∧ g 104 (Int.toNat a) ≤ 5) (hp3 : 0 ≤ g 104 (Int.toNat b) ∧ g 104 (Int.toNat b) ≤ 5) (hK : ∀ (r : Int), ((r = 1 ∧ yPm g h (Int.toNat a) (Int.toNat b)) ∨ (r = 0 ∧ ¬ yPm g h (Int.toNat a) (Int.toNat b))) → K [(1, r)] g) : Y 0 [(3, 90), (1, a), (1, b), (1, h)] [] g := by
  refine yrun_ok (sp := fun pc => false) hY 31 0 _ [] g ?_
  show ((a = b → (((0 : Int) ≤ 0 ∧ 0 ≤ (1 : Int)) ∧ (K [(1, 0)] g))) ∧ (¬ (a = b) → (∃ (a2 b3 : Int), [(3, 90), (1, a), (1, b)] = [(3, 90), (1, a2), (1, b3)] ∧ (0 ≤ a2 ∧ a2 < 40) ∧ (0 ≤ b3 ∧ b3 < 40) ∧ (∀ (r4 : Int), ((r4 = 1 ∧ yLa g (Int.toNat a2) (Int.toNat b3)) ∨ (r4 = 0 ∧ ¬ yLa g (Int.toNat a2) (Int.toNat b3))) → ((r4 = 0 → (((0 : Int) ≤ 0 ∧ 0 ≤ (1 : Int)) ∧ (K [(1, 0)] g))) ∧ (¬ (r4 = 0) → (((0 : Int) ≤ a ∧ a < ((40 : Nat) : Int)) ∧ (((g 110 (Int.toNat a)) < 0 → (((0 : Int) ≤ 0 ∧ 0 ≤ (1 : Int)) ∧ (K [(1, 0)] g))) ∧ (¬ ((g 110 (Int.toNat a)) < 0) → (((0 : Int) ≤ b ∧ b < ((40 : Nat) : Int)) ∧ ((0 ≤ (g 110 (Int.toNat b)) → ((h ≠ 0 → (((0 : Int) ≤ a ∧ a < ((40 : Nat) : Int)) ∧ (∃ (w10 : Int), [(3, 90), (1, b)] = [(3, 90), (1, w10)] ∧ (0 ≤ w10 ∧ w10 < 40) ∧ (0 ≤ g 104 (Int.toNat w10) ∧ g 104 (Int.toNat w10) ≤ 5) ∧ (∀ (r11 : Int), (r11 = yMl g (Int.toNat w10)) → ((r11 ≤ (g 110 (Int.toNat a)) → (((0 : Int) ≤ 0 ∧ 0 ≤ (1 : Int)) ∧ (K [(1, 0)] g))) ∧ (¬ (r11 ≤ (g 110 (Int.toNat a))) → (((0 : Int) ≤ 1 ∧ 1 ≤ (1 : Int)) ∧ (K [(1, 1)] g)))))))) ∧ (¬ (h ≠ 0) → (∃ (w14 : Int), [(3, 90), (1, a)] = [(3, 90), (1, w14)] ∧ (0 ≤ w14 ∧ w14 < 40) ∧ (0 ≤ g 104 (Int.toNat w14) ∧ g 104 (Int.toNat w14) ≤ 5) ∧ (∀ (r15 : Int), (r15 = yMl g (Int.toNat w14)) → (((0 : Int) ≤ b ∧ b < ((40 : Nat) : Int)) ∧ (((g 110 (Int.toNat b)) ≤ r15 → (((0 : Int) ≤ 0 ∧ 0 ≤ (1 : Int)) ∧ (K [(1, 0)] g))) ∧ (¬ ((g 110 (Int.toNat b)) ≤ r15) → (((0 : Int) ≤ 1 ∧ 1 ≤ (1 : Int)) ∧ (K [(1, 1)] g)))))))))) ∧ (¬ (0 ≤ (g 110 (Int.toNat b))) → (((0 : Int) ≤ 0 ∧ 0 ≤ (1 : Int)) ∧ (K [(1, 0)] g))))))))))))))
  refine ⟨fun h1 => ?_, fun h1 => ?_⟩
  · refine ⟨(by omega), ?_⟩
    exact hK _ (Or.inr ⟨rfl, fun z => z.1 (by omega)⟩)
  · refine ⟨_, _, rfl, (by omega), (by omega), ?_⟩
    intro r4 p50
    refine ⟨fun h6 => ?_, fun h6 => ?_⟩
    · refine ⟨(by omega), ?_⟩
      rcases p50 with ⟨q1, q2⟩ | ⟨q1, q2⟩
      · first
        | omega
        | exact hK _ (Or.inr ⟨rfl, fun z => by have z2 := z.2.2; omega⟩)
      · first
        | omega
        | exact hK _ (Or.inr ⟨rfl, fun z => q2 z.2.1⟩)
    · refine ⟨(by omega), ?_⟩
      refine ⟨fun h7 => ?_, fun h7 => ?_⟩
      · refine ⟨(by omega), ?_⟩
        rcases p50 with ⟨q1, q2⟩ | ⟨q1, q2⟩
        · first
          | omega
          | exact hK _ (Or.inr ⟨rfl, fun z => by have z2 := z.2.2; omega⟩)
        · first
          | omega
          | exact hK _ (Or.inr ⟨rfl, fun z => q2 z.2.1⟩)
      · refine ⟨(by omega), ?_⟩
        refine ⟨fun h8 => ?_, fun h8 => ?_⟩
        · refine ⟨fun h9 => ?_, fun h9 => ?_⟩
          · refine ⟨(by omega), ?_⟩
            refine ⟨_, rfl, (by omega), (by omega), ?_⟩
            intro r11 p120
            refine ⟨fun h13 => ?_, fun h13 => ?_⟩
            · refine ⟨(by omega), ?_⟩
              rcases p50 with ⟨q1, q2⟩ | ⟨q1, q2⟩
              · first
                | omega
                | exact hK _ (Or.inr ⟨rfl, fun z => by have z2 := z.2.2; omega⟩)
              · first
                | omega
                | exact hK _ (Or.inr ⟨rfl, fun z => q2 z.2.1⟩)
            · refine ⟨(by omega), ?_⟩
              rcases p50 with ⟨q1, q2⟩ | ⟨q1, q2⟩
              · first
                | omega
                | exact hK _ (Or.inl ⟨rfl, fun z => by omega, q2, by omega, by omega, by omega, by omega⟩)
              · omega
          · refine ⟨_, rfl, (by omega), (by omega), ?_⟩
            intro r15 p160
            refine ⟨(by omega), ?_⟩
            refine ⟨fun h17 => ?_, fun h17 => ?_⟩
            · refine ⟨(by omega), ?_⟩
              rcases p50 with ⟨q1, q2⟩ | ⟨q1, q2⟩
              · first
                | omega
                | exact hK _ (Or.inr ⟨rfl, fun z => by have z2 := z.2.2; omega⟩)
              · first
                | omega
                | exact hK _ (Or.inr ⟨rfl, fun z => q2 z.2.1⟩)
            · refine ⟨(by omega), ?_⟩
              rcases p50 with ⟨q1, q2⟩ | ⟨q1, q2⟩
              · first
                | omega
                | exact hK _ (Or.inl ⟨rfl, fun z => by omega, q2, by omega, by omega, by omega, by omega⟩)
              · omega
        · refine ⟨(by omega), ?_⟩
          rcases p50 with ⟨q1, q2⟩ | ⟨q1, q2⟩
          · first
            | omega
            | exact hK _ (Or.inr ⟨rfl, fun z => by have z2 := z.2.2; omega⟩)
          · first
            | omega
            | exact hK _ (Or.inr ⟨rfl, fun z => q2 z.2.1⟩)
theorem yM_MPS {l : Launch} {Ts : List Cond} {cl : List vw_C} {RO : zRO} (H : zHyp Ts cl RO) : yMet l Ts cl zpZ RO zpMT yC_MPS := ymet_of2 H.1 H.2.1 zpDj H.2.2.1 yRb H.p12 (ymets_cons (yM_ILT H) (ymets_cons (yM_LTO H) ymets_nil)) (zrc2 rfl) (plainFor_of_name zpy12) zpDk186 (fun as g K Y h hA hY => by
  obtain ⟨a, b, h, rfl, hp0, hp1, hp2, hp3, hK⟩ := h
  exact yv_MPS hY (yAr1 hA (by simp)) (yAr1 hA (by simp)) (yAr1 hA (by simp)) hp0 hp1 hp2 hp3 hK)
def yP_PAT : yPT := fun as g K => ∃ (a b : Int), as = [(3, 90), (1, a), (1, b)] ∧ (0 ≤ a ∧ a < 40) ∧ (0 ≤ b ∧ b < 40) ∧ (∀ (r : Int), ((r = 1 ∧ yPt g (Int.toNat a) (Int.toNat b)) ∨ (r = 0 ∧ ¬ yPt g (Int.toNat a) (Int.toNat b))) → K [(1, r)] g)
def yC_PAT : yC := (187, (2, 62), yP_PAT)
set_option maxRecDepth 8000 in
theorem yv_PAT {K : List yV → yM → Prop} {Y : yNx} {g : yM} {a b : Int} (hY : yCl zpD187 (zpZ, zpRS, zpP12, zpMT, [yC_ILT], (2, 62), 2) K Y) (hr_a : -2147483648 ≤ a ∧ a ≤ 2147483647) (hr_b : -2147483648 ≤ b ∧ b ≤ 2147483647) (hp0 : 0 ≤ a ∧ a < 40) (hp1 : 0 ≤ b ∧ b < 40) (hK : ∀ (r : Int), ((r = 1 ∧ yPt g (Int.toNat a) (Int.toNat b)) ∨ (r = 0 ∧ ¬ yPt g (Int.toNat a) (Int.toNat b))) → K [(1, r)] g) : Y 0 [(3, 90), (1, a), (1, b)] [] g := by
  refine yrun_ok (sp := fun pc => false) hY 30 0 _ [] g ?_
  show ((a = b → (((0 : Int) ≤ 0 ∧ 0 ≤ (1 : Int)) ∧ (K [(1, 0)] g))) ∧ (¬ (a = b) → (∃ (a2 b3 : Int), [(3, 90), (1, a), (1, b)] = [(3, 90), (1, a2), (1, b3)] ∧ (0 ≤ a2 ∧ a2 < 40) ∧ (0 ≤ b3 ∧ b3 < 40) ∧ (∀ (r4 : Int), ((r4 = 1 ∧ yLa g (Int.toNat a2) (Int.toNat b3)) ∨ (r4 = 0 ∧ ¬ yLa g (Int.toNat a2) (Int.toNat b3))) → ((r4 = 0 → (((0 : Int) ≤ 0 ∧ 0 ≤ (1 : Int)) ∧ (K [(1, 0)] g))) ∧ (¬ (r4 = 0) → (((0 : Int) ≤ a ∧ a < ((40 : Nat) : Int)) ∧ (((g 111 (Int.toNat a)) < 0 → (((0 : Int) ≤ 0 ∧ 0 ≤ (1 : Int)) ∧ (K [(1, 0)] g))) ∧ (¬ ((g 111 (Int.toNat a)) < 0) → (((0 : Int) ≤ b ∧ b < ((40 : Nat) : Int)) ∧ (((g 111 (Int.toNat b)) < 0 → (((0 : Int) ≤ 0 ∧ 0 ≤ (1 : Int)) ∧ (K [(1, 0)] g))) ∧ (¬ ((g 111 (Int.toNat b)) < 0) → (((0 : Int) ≤ a ∧ a < ((40 : Nat) : Int)) ∧ (((0 : Int) ≤ b ∧ b < ((40 : Nat) : Int)) ∧ (((g 111 (Int.toNat b)) ≤ (g 111 (Int.toNat a)) → (((0 : Int) ≤ 0 ∧ 0 ≤ (1 : Int)) ∧ (K [(1, 0)] g))) ∧ (¬ ((g 111 (Int.toNat b)) ≤ (g 111 (Int.toNat a))) → (((0 : Int) ≤ 1 ∧ 1 ≤ (1 : Int)) ∧ (K [(1, 1)] g))))))))))))))))))
  refine ⟨fun h1 => ?_, fun h1 => ?_⟩
  · refine ⟨(by omega), ?_⟩
    exact hK _ (Or.inr ⟨rfl, fun z => z.1 (by omega)⟩)
  · refine ⟨_, _, rfl, (by omega), (by omega), ?_⟩
    intro r4 p50
    refine ⟨fun h6 => ?_, fun h6 => ?_⟩
    · refine ⟨(by omega), ?_⟩
      rcases p50 with ⟨q1, q2⟩ | ⟨q1, q2⟩
      · first
        | omega
        | exact hK _ (Or.inr ⟨rfl, fun z => by have z2 := z.2.2; omega⟩)
      · first
        | omega
        | exact hK _ (Or.inr ⟨rfl, fun z => q2 z.2.1⟩)
    · refine ⟨(by omega), ?_⟩
      refine ⟨fun h7 => ?_, fun h7 => ?_⟩
      · refine ⟨(by omega), ?_⟩
        rcases p50 with ⟨q1, q2⟩ | ⟨q1, q2⟩
        · first
          | omega
          | exact hK _ (Or.inr ⟨rfl, fun z => by have z2 := z.2.2; omega⟩)
        · first
          | omega
          | exact hK _ (Or.inr ⟨rfl, fun z => q2 z.2.1⟩)
      · refine ⟨(by omega), ?_⟩
        refine ⟨fun h8 => ?_, fun h8 => ?_⟩
        · refine ⟨(by omega), ?_⟩
          rcases p50 with ⟨q1, q2⟩ | ⟨q1, q2⟩
          · first
            | omega
            | exact hK _ (Or.inr ⟨rfl, fun z => by have z2 := z.2.2; omega⟩)
          · first
            | omega
            | exact hK _ (Or.inr ⟨rfl, fun z => q2 z.2.1⟩)
        · refine ⟨(by omega), ?_⟩
          refine ⟨(by omega), ?_⟩
          refine ⟨fun h9 => ?_, fun h9 => ?_⟩
          · refine ⟨(by omega), ?_⟩
            rcases p50 with ⟨q1, q2⟩ | ⟨q1, q2⟩
            · first
              | omega
              | exact hK _ (Or.inr ⟨rfl, fun z => by have z2 := z.2.2; omega⟩)
            · first
              | omega
              | exact hK _ (Or.inr ⟨rfl, fun z => q2 z.2.1⟩)
          · refine ⟨(by omega), ?_⟩
            rcases p50 with ⟨q1, q2⟩ | ⟨q1, q2⟩
            · first
              | omega
              | exact hK _ (Or.inl ⟨rfl, fun z => by omega, q2, by omega, by omega, by omega⟩)
            · omega
theorem yM_PAT {l : Launch} {Ts : List Cond} {cl : List vw_C} {RO : zRO} (H : zHyp Ts cl RO) : yMet l Ts cl zpZ RO zpMT yC_PAT := ymet_of2 H.1 H.2.1 zpDj H.2.2.1 yRb H.p12 (ymets_cons (yM_ILT H) ymets_nil) (zrc2 rfl) (plainFor_of_name zpy12) zpDk187 (fun as g K Y h hA hY => by
  obtain ⟨a, b, rfl, hp0, hp1, hK⟩ := h
  exact yv_PAT hY (yAr1 hA (by simp)) (yAr1 hA (by simp)) hp0 hp1 hK)
theorem yFd.c {g m : yM} (h : yFd g m) (hs : 0 ≤ g 90 22 ∧ g 90 22 ≤ 40) (hc : ∀ n : Nat, (n : Int) < g 90 22 → (0 ≤ g 104 n ∧ g 104 n ≤ 5) ∧ g 102 n ≤ 719) : (0 ≤ m 90 22 ∧ m 90 22 ≤ 40) ∧ (∀ n : Nat, (n : Int) < m 90 22 → 0 ≤ m 104 n ∧ m 104 n ≤ 5) ∧ m 90 22 = g 90 22 := by
  have e : m 90 22 = g 90 22 := h.2.1 90 22 (by decide) (by decide)
  refine ⟨by rw [e]; exact hs, fun n hn => ?_, e⟩
  rw [e] at hn
  rw [h.2.1 104 n (by decide) (by decide)]
  exact (hc n hn).1
def yP_MPD : yPT := fun as g K => ∃ (v h : Int), as = [(3, 90), (1, v), (1, h)] ∧ (yTy zpZ g) ∧ (0 ≤ g 90 22 ∧ g 90 22 ≤ 40) ∧ (0 ≤ g 90 6 ∧ g 90 6 ≤ 12) ∧ (∀ n : Nat, (n : Int) < g 90 22 → (0 ≤ g 104 n ∧ g 104 n ≤ 5) ∧ g 102 n ≤ 719) ∧ (∀ (r : Int) (g' : yM), (¬ (0 ≤ v ∧ (0 ≤ (yb (fun x y => x / y) v 100) ∧ (yb (fun x y => x / y) v 100) < g 90 22) ∧ (0 ≤ (yb (fun x y => x - x / y * y) v 100) ∧ (yb (fun x y => x - x / y * y) v 100) < g 90 22) ∧ (yb (fun x y => x / y) v 100) ≠ (yb (fun x y => x - x / y * y) v 100) ∧ g 101 (Int.toNat (yb (fun x y => x / y) v 100)) = g 101 (Int.toNat (yb (fun x y => x - x / y * y) v 100)) ∧ 0 ≤ h ∧ h ≤ 1) → r = -1 ∧ g' = g) → ((0 ≤ v ∧ (0 ≤ (yb (fun x y => x / y) v 100) ∧ (yb (fun x y => x / y) v 100) < g 90 22) ∧ (0 ≤ (yb (fun x y => x - x / y * y) v 100) ∧ (yb (fun x y => x - x / y * y) v 100) < g 90 22) ∧ (yb (fun x y => x / y) v 100) ≠ (yb (fun x y => x - x / y * y) v 100) ∧ g 101 (Int.toNat (yb (fun x y => x / y) v 100)) = g 101 (Int.toNat (yb (fun x y => x - x / y * y) v 100)) ∧ 0 ≤ h ∧ h ≤ 1) → yFd g g' ∧ ((r = 1 ∧ yPm g' h (Int.toNat (yb (fun x y => x / y) v 100)) (Int.toNat (yb (fun x y => x - x / y * y) v 100))) ∨ (r = 0 ∧ ¬ yPm g' h (Int.toNat (yb (fun x y => x / y) v 100)) (Int.toNat (yb (fun x y => x - x / y * y) v 100))))) → K [(1, r)] g')
def yC_MPD : yC := (185, (5, 134), yP_MPD)
set_option maxRecDepth 8000 in
theorem yv_MPD {K : List yV → yM → Prop} {Y : yNx} {g : yM} {v h : Int} (hY : yCl zpD185 (zpZ, zpRS, zpP12, zpMT, [yC_ICX, yC_WM, yC_FS, yC_MPS], (5, 134), 1) K Y) (hr_v : -2147483648 ≤ v ∧ v ≤ 2147483647) (hr_h : -2147483648 ≤ h ∧ h ≤ 2147483647) (hp0 : yTy zpZ g) (hp1 : 0 ≤ g 90 22 ∧ g 90 22 ≤ 40) (hp2 : 0 ≤ g 90 6 ∧ g 90 6 ≤ 12) (hp3 : ∀ n : Nat, (n : Int) < g 90 22 → (0 ≤ g 104 n ∧ g 104 n ≤ 5) ∧ g 102 n ≤ 719) (hK : ∀ (r : Int) (g' : yM), (¬ (0 ≤ v ∧ (0 ≤ (yb (fun x y => x / y) v 100) ∧ (yb (fun x y => x / y) v 100) < g 90 22) ∧ (0 ≤ (yb (fun x y => x - x / y * y) v 100) ∧ (yb (fun x y => x - x / y * y) v 100) < g 90 22) ∧ (yb (fun x y => x / y) v 100) ≠ (yb (fun x y => x - x / y * y) v 100) ∧ g 101 (Int.toNat (yb (fun x y => x / y) v 100)) = g 101 (Int.toNat (yb (fun x y => x - x / y * y) v 100)) ∧ 0 ≤ h ∧ h ≤ 1) → r = -1 ∧ g' = g) → ((0 ≤ v ∧ (0 ≤ (yb (fun x y => x / y) v 100) ∧ (yb (fun x y => x / y) v 100) < g 90 22) ∧ (0 ≤ (yb (fun x y => x - x / y * y) v 100) ∧ (yb (fun x y => x - x / y * y) v 100) < g 90 22) ∧ (yb (fun x y => x / y) v 100) ≠ (yb (fun x y => x - x / y * y) v 100) ∧ g 101 (Int.toNat (yb (fun x y => x / y) v 100)) = g 101 (Int.toNat (yb (fun x y => x - x / y * y) v 100)) ∧ 0 ≤ h ∧ h ≤ 1) → yFd g g' ∧ ((r = 1 ∧ yPm g' h (Int.toNat (yb (fun x y => x / y) v 100)) (Int.toNat (yb (fun x y => x - x / y * y) v 100))) ∨ (r = 0 ∧ ¬ yPm g' h (Int.toNat (yb (fun x y => x / y) v 100)) (Int.toNat (yb (fun x y => x - x / y * y) v 100))))) → K [(1, r)] g') : Y 0 [(3, 90), (1, v), (1, h)] [] g := by
  refine yrun_ok (sp := fun pc => false) hY 55 0 _ [] g ?_
  show ((v < 0 → (K [(1, (-1))] g)) ∧ (¬ (v < 0) → ((100 : Int) ≠ 0 ∧ (∃ (w2 : Int), [(3, 90), (1, (yb (fun x y => x / y) v 100))] = [(3, 90), (1, w2)] ∧ (0 ≤ g 90 22 ∧ g 90 22 ≤ 40) ∧ (∀ (r3 : Int), ((r3 = 1 ∧ 0 ≤ w2 ∧ w2 < g 90 22) ∨ (r3 = 0 ∧ (w2 < 0 ∨ g 90 22 ≤ w2))) → ((r3 = 0 → (K [(1, (-1))] g)) ∧ (¬ (r3 = 0) → ((100 : Int) ≠ 0 ∧ (∃ (w6 : Int), [(3, 90), (1, (yb (fun x y => x - x / y * y) v 100))] = [(3, 90), (1, w6)] ∧ (0 ≤ g 90 22 ∧ g 90 22 ≤ 40) ∧ (∀ (r7 : Int), ((r7 = 1 ∧ 0 ≤ w6 ∧ w6 < g 90 22) ∨ (r7 = 0 ∧ (w6 < 0 ∨ g 90 22 ≤ w6))) → ((r7 = 0 → (K [(1, (-1))] g)) ∧ (¬ (r7 = 0) → ((100 : Int) ≠ 0 ∧ ((100 : Int) ≠ 0 ∧ (((yb (fun x y => x / y) v 100) = (yb (fun x y => x - x / y * y) v 100) → (K [(1, (-1))] g)) ∧ (¬ ((yb (fun x y => x / y) v 100) = (yb (fun x y => x - x / y * y) v 100)) → ((100 : Int) ≠ 0 ∧ (((0 : Int) ≤ (yb (fun x y => x / y) v 100) ∧ (yb (fun x y => x / y) v 100) < ((40 : Nat) : Int)) ∧ ((100 : Int) ≠ 0 ∧ (((0 : Int) ≤ (yb (fun x y => x - x / y * y) v 100) ∧ (yb (fun x y => x - x / y * y) v 100) < ((40 : Nat) : Int)) ∧ (((g 101 (Int.toNat (yb (fun x y => x / y) v 100))) ≠ (g 101 (Int.toNat (yb (fun x y => x - x / y * y) v 100))) → (K [(1, (-1))] g)) ∧ (¬ ((g 101 (Int.toNat (yb (fun x y => x / y) v 100))) ≠ (g 101 (Int.toNat (yb (fun x y => x - x / y * y) v 100)))) → (∃ (v12 a13 b14 : Int), [(2, h), (2, 0), (2, 1)] = [(2, v12), (2, a13), (2, b14)] ∧ (∀ (r15 : Int), ((r15 = 1 ∧ a13 ≤ v12 ∧ v12 ≤ b14) ∨ (r15 = 0 ∧ (v12 < a13 ∨ b14 < v12))) → ((r15 ≠ 0 → ([(3, 90)] = [(3, 90)] ∧ (yTy zpZ g) ∧ (0 ≤ g 90 22 ∧ g 90 22 ≤ 40) ∧ (0 ≤ g 90 6 ∧ g 90 6 ≤ 12) ∧ (∀ n : Nat, (n : Int) < g 90 22 → (0 ≤ g 104 n ∧ g 104 n ≤ 5) ∧ g 102 n ≤ 719) ∧ (∀ (g18 : yM), (yFd g g18) → ((100 : Int) ≠ 0 ∧ ((100 : Int) ≠ 0 ∧ (∃ (a20 b21 h22 : Int), [(3, 90), (1, (yb (fun x y => x / y) v 100)), (1, (yb (fun x y => x - x / y * y) v 100)), (1, h)] = [(3, 90), (1, a20), (1, b21), (1, h22)] ∧ (0 ≤ a20 ∧ a20 < 40) ∧ (0 ≤ b21 ∧ b21 < 40) ∧ (0 ≤ g18 104 (Int.toNat a20) ∧ g18 104 (Int.toNat a20) ≤ 5) ∧ (0 ≤ g18 104 (Int.toNat b21) ∧ g18 104 (Int.toNat b21) ≤ 5) ∧ (∀ (r23 : Int), ((r23 = 1 ∧ yPm g18 h22 (Int.toNat a20) (Int.toNat b21)) ∨ (r23 = 0 ∧ ¬ yPm g18 h22 (Int.toNat a20) (Int.toNat b21))) → ((r23 = 0 → (K [(1, 0)] g18)) ∧ (¬ (r23 = 0) → (K [(1, 1)] g18)))))))))) ∧ (¬ (r15 ≠ 0) → (K [(1, (-1))] g)))))))))))))))))))))))))))
  refine ⟨fun h1 => ?_, fun h1 => ?_⟩
  · have q1 := yb_rng (fun x y => x / y) v 100
    have q2 := yb_rng (fun x y => x - x / y * y) v 100
    exact hK _ _ (fun _ => ⟨rfl, rfl⟩) (fun h => absurd h (by omega))
  · refine ⟨(by
      have q1 := yb_rng (fun x y => x / y) v 100
      have q2 := yb_rng (fun x y => x - x / y * y) v 100
      omega), ?_⟩
    refine ⟨_, rfl, (by
      have q1 := yb_rng (fun x y => x / y) v 100
      have q2 := yb_rng (fun x y => x - x / y * y) v 100
      omega), ?_⟩
    intro r3 p40
    refine ⟨fun h5 => ?_, fun h5 => ?_⟩
    · have q1 := yb_rng (fun x y => x / y) v 100
      have q2 := yb_rng (fun x y => x - x / y * y) v 100
      exact hK _ _ (fun _ => ⟨rfl, rfl⟩) (fun h => absurd h (by omega))
    · refine ⟨(by
      have q1 := yb_rng (fun x y => x / y) v 100
      have q2 := yb_rng (fun x y => x - x / y * y) v 100
      omega), ?_⟩
      refine ⟨_, rfl, (by
      have q1 := yb_rng (fun x y => x / y) v 100
      have q2 := yb_rng (fun x y => x - x / y * y) v 100
      omega), ?_⟩
      intro r7 p80
      refine ⟨fun h9 => ?_, fun h9 => ?_⟩
      · have q1 := yb_rng (fun x y => x / y) v 100
        have q2 := yb_rng (fun x y => x - x / y * y) v 100
        exact hK _ _ (fun _ => ⟨rfl, rfl⟩) (fun h => absurd h (by omega))
      · refine ⟨(by
      have q1 := yb_rng (fun x y => x / y) v 100
      have q2 := yb_rng (fun x y => x - x / y * y) v 100
      omega), ?_⟩
        refine ⟨(by
      have q1 := yb_rng (fun x y => x / y) v 100
      have q2 := yb_rng (fun x y => x - x / y * y) v 100
      omega), ?_⟩
        refine ⟨fun h10 => ?_, fun h10 => ?_⟩
        · have q1 := yb_rng (fun x y => x / y) v 100
          have q2 := yb_rng (fun x y => x - x / y * y) v 100
          exact hK _ _ (fun _ => ⟨rfl, rfl⟩) (fun h => absurd h (by omega))
        · refine ⟨(by
      have q1 := yb_rng (fun x y => x / y) v 100
      have q2 := yb_rng (fun x y => x - x / y * y) v 100
      omega), ?_⟩
          refine ⟨(by
      have q1 := yb_rng (fun x y => x / y) v 100
      have q2 := yb_rng (fun x y => x - x / y * y) v 100
      omega), ?_⟩
          refine ⟨(by
      have q1 := yb_rng (fun x y => x / y) v 100
      have q2 := yb_rng (fun x y => x - x / y * y) v 100
      omega), ?_⟩
          refine ⟨(by
      have q1 := yb_rng (fun x y => x / y) v 100
      have q2 := yb_rng (fun x y => x - x / y * y) v 100
      omega), ?_⟩
          refine ⟨fun h11 => ?_, fun h11 => ?_⟩
          · have q1 := yb_rng (fun x y => x / y) v 100
            have q2 := yb_rng (fun x y => x - x / y * y) v 100
            exact hK _ _ (fun _ => ⟨rfl, rfl⟩) (fun h => absurd h (by omega))
          · refine ⟨_, _, _, rfl, ?_⟩
            intro r15 p160
            refine ⟨fun h17 => ?_, fun h17 => ?_⟩
            · refine ⟨rfl, (hp0), (by
      have q1 := yb_rng (fun x y => x / y) v 100
      have q2 := yb_rng (fun x y => x - x / y * y) v 100
      omega), (by
      have q1 := yb_rng (fun x y => x / y) v 100
      have q2 := yb_rng (fun x y => x - x / y * y) v 100
      omega), (hp3), ?_⟩
              intro g18 p190
              refine ⟨(by
      have q1 := yb_rng (fun x y => x / y) v 100
      have q2 := yb_rng (fun x y => x - x / y * y) v 100
      have hc := p190.c hp1 hp3
      have c1 := hc.2.1 (Int.toNat (yb (fun x y => x / y) v 100)) (by omega)
      have c2 := hc.2.1 (Int.toNat (yb (fun x y => x - x / y * y) v 100)) (by omega)
      omega), ?_⟩
              refine ⟨(by
      have q1 := yb_rng (fun x y => x / y) v 100
      have q2 := yb_rng (fun x y => x - x / y * y) v 100
      have hc := p190.c hp1 hp3
      have c1 := hc.2.1 (Int.toNat (yb (fun x y => x / y) v 100)) (by omega)
      have c2 := hc.2.1 (Int.toNat (yb (fun x y => x - x / y * y) v 100)) (by omega)
      omega), ?_⟩
              refine ⟨_, _, _, rfl, (by
      have q1 := yb_rng (fun x y => x / y) v 100
      have q2 := yb_rng (fun x y => x - x / y * y) v 100
      have hc := p190.c hp1 hp3
      have c1 := hc.2.1 (Int.toNat (yb (fun x y => x / y) v 100)) (by omega)
      have c2 := hc.2.1 (Int.toNat (yb (fun x y => x - x / y * y) v 100)) (by omega)
      omega), (by
      have q1 := yb_rng (fun x y => x / y) v 100
      have q2 := yb_rng (fun x y => x - x / y * y) v 100
      have hc := p190.c hp1 hp3
      have c1 := hc.2.1 (Int.toNat (yb (fun x y => x / y) v 100)) (by omega)
      have c2 := hc.2.1 (Int.toNat (yb (fun x y => x - x / y * y) v 100)) (by omega)
      omega), (by
      have q1 := yb_rng (fun x y => x / y) v 100
      have q2 := yb_rng (fun x y => x - x / y * y) v 100
      have hc := p190.c hp1 hp3
      have c1 := hc.2.1 (Int.toNat (yb (fun x y => x / y) v 100)) (by omega)
      have c2 := hc.2.1 (Int.toNat (yb (fun x y => x - x / y * y) v 100)) (by omega)
      omega), (by
      have q1 := yb_rng (fun x y => x / y) v 100
      have q2 := yb_rng (fun x y => x - x / y * y) v 100
      have hc := p190.c hp1 hp3
      have c1 := hc.2.1 (Int.toNat (yb (fun x y => x / y) v 100)) (by omega)
      have c2 := hc.2.1 (Int.toNat (yb (fun x y => x - x / y * y) v 100)) (by omega)
      omega), ?_⟩
              intro r23 p240
              refine ⟨fun h25 => ?_, fun h25 => ?_⟩
              · have q1 := yb_rng (fun x y => x / y) v 100
                have q2 := yb_rng (fun x y => x - x / y * y) v 100
                rcases p240 with ⟨q8, q9⟩ | ⟨q8, q9⟩
                · first
                  | omega
                  | exact hK _ _ (fun h => absurd (by omega) h) (fun _ => ⟨p190, Or.inr ⟨rfl, absurd q8 (by omega)⟩⟩)
                · first
                  | omega
                  | exact hK _ _ (fun h => absurd (by omega) h) (fun _ => ⟨p190, Or.inr ⟨rfl, q9⟩⟩)
              · have q1 := yb_rng (fun x y => x / y) v 100
                have q2 := yb_rng (fun x y => x - x / y * y) v 100
                rcases p240 with ⟨q8, q9⟩ | ⟨q8, q9⟩
                · first
                  | omega
                  | exact hK _ _ (fun h => absurd (by omega) h) (fun _ => ⟨p190, Or.inl ⟨rfl, q9⟩⟩)
                · first
                  | omega
                  | exact hK _ _ (fun h => absurd (by omega) h) (fun _ => ⟨p190, Or.inl ⟨rfl, absurd q8 (by omega)⟩⟩)
            · have q1 := yb_rng (fun x y => x / y) v 100
              have q2 := yb_rng (fun x y => x - x / y * y) v 100
              exact hK _ _ (fun _ => ⟨rfl, rfl⟩) (fun h => absurd h (by omega))
theorem yM_MPD {l : Launch} {Ts : List Cond} {cl : List vw_C} {RO : zRO} (H : zHyp Ts cl RO) : yMet l Ts cl zpZ RO zpMT yC_MPD := ymet_of2 H.1 H.2.1 zpDj H.2.2.1 yRb H.p12 (ymets_cons (yM_ICX H) (ymets_cons (yM_WM H) (ymets_cons (yM_FS H) (ymets_cons (yM_MPS H) ymets_nil)))) (zrc1 rfl) (plainFor_of_name zpy12) zpDk185 (fun as g K Y h hA hY => by
  obtain ⟨v, h, rfl, hp0, hp1, hp2, hp3, hK⟩ := h
  exact yv_MPD hY (yAr1 hA (by simp)) (yAr1 hA (by simp)) hp0 hp1 hp2 hp3 hK)
def yP_MPR : yPT := fun as g K => ∃ (t h : Int), as = [(3, 90), (1, t), (1, h)] ∧ (yTy zpZ g) ∧ (0 ≤ g 90 22 ∧ g 90 22 ≤ 40) ∧ (0 ≤ g 90 6 ∧ g 90 6 ≤ 12) ∧ (∀ n : Nat, (n : Int) < g 90 22 → (0 ≤ g 104 n ∧ g 104 n ≤ 5) ∧ g 102 n ≤ 719) ∧ (∀ (r : Int) (g' : yM), (¬ (0 ≤ t ∧ t ≤ 3 ∧ 0 ≤ h ∧ h ≤ 1) → r = -1 ∧ g' = g) → ((0 ≤ t ∧ t ≤ 3 ∧ 0 ≤ h ∧ h ≤ 1) → yFd g g' ∧ yDu (fun p q => g' 101 p = t ∧ yPm g' h p q) (Int.toNat (g' 90 22)) (Int.toNat (g' 90 22)) r) → K [(1, r)] g')
def yC_MPR : yC := (184, (5, 134), yP_MPR)
set_option maxRecDepth 8000 in
theorem yl_MPRj {K : List yV → yM → Prop} {Y : yNx} {g : yM} {t h o e : Int} (hY : yCl zpD184 (zpZ, zpRS, zpP12, zpMT, [yC_IDY, yC_WM, yC_FS, yC_MPS], (5, 134), 1) K Y) (hq0 : 0 ≤ g 90 22 ∧ g 90 22 ≤ 40) (hq1 : 0 ≤ o ∧ o < g 90 22) (hq2 : ∀ n : Nat, (n : Int) < g 90 22 → 0 ≤ g 104 n ∧ g 104 n ≤ 5) (hq3 : -2147483648 ≤ e ∧ e ≤ 2147483647) (hK : ∀ (v : Int), ySu (fun q => g 101 (Int.toNat o) = t ∧ yPm g h (Int.toNat o) q) (fun _ => 1) e (Int.toNat (g 90 22)) v → Y 86 [(3, 90), (1, t), (1, h), (1, v), (1, o), (1, g 90 22)] [] g) : ∀ (n : Nat) (i : Int), i + n = g 90 22 → 0 ≤ i → ∀ (u : Int), ySu (fun q => g 101 (Int.toNat o) = t ∧ yPm g h (Int.toNat o) q) (fun _ => 1) e (Int.toNat i) u → Y 40 [(3, 90), (1, t), (1, h), (1, u), (1, o), (1, i)] [] g := by
  intro n
  induction n with
  | zero =>
    intro i hd h0 u  hu
    refine yrun_ok (sp := fun pc => Nat.beq pc 40 || Nat.beq pc 86) hY 24 40 _ [] g ?_
    show (((g 90 22) ≤ i → (Y 86 [(3, 90), (1, t), (1, h), (1, u), (1, o), (1, i)] [] g)) ∧ (¬ ((g 90 22) ≤ i) → (((0 : Int) ≤ o ∧ o < ((40 : Nat) : Int)) ∧ (((g 101 (Int.toNat o)) ≠ t → (Y 40 [(3, 90), (1, t), (1, h), (1, (yw (u + 0))), (1, o), (1, (yw (i + 1)))] [] g)) ∧ (¬ ((g 101 (Int.toNat o)) ≠ t) → (∃ (a3 b4 h5 : Int), [(3, 90), (1, o), (1, i), (1, h)] = [(3, 90), (1, a3), (1, b4), (1, h5)] ∧ (0 ≤ a3 ∧ a3 < 40) ∧ (0 ≤ b4 ∧ b4 < 40) ∧ (0 ≤ g 104 (Int.toNat a3) ∧ g 104 (Int.toNat a3) ≤ 5) ∧ (0 ≤ g 104 (Int.toNat b4) ∧ g 104 (Int.toNat b4) ≤ 5) ∧ (∀ (r6 : Int), ((r6 = 1 ∧ yPm g h5 (Int.toNat a3) (Int.toNat b4)) ∨ (r6 = 0 ∧ ¬ yPm g h5 (Int.toNat a3) (Int.toNat b4))) → ((r6 = 0 → (Y 40 [(3, 90), (1, t), (1, h), (1, (yw (u + 0))), (1, o), (1, (yw (i + 1)))] [] g)) ∧ (¬ (r6 = 0) → (Y 40 [(3, 90), (1, t), (1, h), (1, (yw (u + 1))), (1, o), (1, (yw (i + 1)))] [] g))))))))))
    refine ⟨fun h1 => ?_, fun h1 => ?_⟩
    · obtain rfl : i = g 90 22 := by omega
      exact hK u  hu
    · refine ⟨(by first | omega | (have c1 := hq2 (Int.toNat i) (by omega); have c2 := hq2 (Int.toNat o) (by omega); omega)), ?_⟩
      refine ⟨fun h2 => ?_, fun h2 => ?_⟩
      · omega
      · refine ⟨_, _, _, rfl, (by first | omega | (have c1 := hq2 (Int.toNat i) (by omega); have c2 := hq2 (Int.toNat o) (by omega); omega)), (by first | omega | (have c1 := hq2 (Int.toNat i) (by omega); have c2 := hq2 (Int.toNat o) (by omega); omega)), (by first | omega | (have c1 := hq2 (Int.toNat i) (by omega); have c2 := hq2 (Int.toNat o) (by omega); omega)), (by first | omega | (have c1 := hq2 (Int.toNat i) (by omega); have c2 := hq2 (Int.toNat o) (by omega); omega)), ?_⟩
        intro r6 p70
        refine ⟨fun h8 => ?_, fun h8 => ?_⟩
        · omega
        · omega
  | succ n ih =>
    intro i hd h0 u  hu
    refine yrun_ok (sp := fun pc => Nat.beq pc 40 || Nat.beq pc 86) hY 24 40 _ [] g ?_
    show (((g 90 22) ≤ i → (Y 86 [(3, 90), (1, t), (1, h), (1, u), (1, o), (1, i)] [] g)) ∧ (¬ ((g 90 22) ≤ i) → (((0 : Int) ≤ o ∧ o < ((40 : Nat) : Int)) ∧ (((g 101 (Int.toNat o)) ≠ t → (Y 40 [(3, 90), (1, t), (1, h), (1, (yw (u + 0))), (1, o), (1, (yw (i + 1)))] [] g)) ∧ (¬ ((g 101 (Int.toNat o)) ≠ t) → (∃ (a3 b4 h5 : Int), [(3, 90), (1, o), (1, i), (1, h)] = [(3, 90), (1, a3), (1, b4), (1, h5)] ∧ (0 ≤ a3 ∧ a3 < 40) ∧ (0 ≤ b4 ∧ b4 < 40) ∧ (0 ≤ g 104 (Int.toNat a3) ∧ g 104 (Int.toNat a3) ≤ 5) ∧ (0 ≤ g 104 (Int.toNat b4) ∧ g 104 (Int.toNat b4) ≤ 5) ∧ (∀ (r6 : Int), ((r6 = 1 ∧ yPm g h5 (Int.toNat a3) (Int.toNat b4)) ∨ (r6 = 0 ∧ ¬ yPm g h5 (Int.toNat a3) (Int.toNat b4))) → ((r6 = 0 → (Y 40 [(3, 90), (1, t), (1, h), (1, (yw (u + 0))), (1, o), (1, (yw (i + 1)))] [] g)) ∧ (¬ (r6 = 0) → (Y 40 [(3, 90), (1, t), (1, h), (1, (yw (u + 1))), (1, o), (1, (yw (i + 1)))] [] g))))))))))
    refine ⟨fun h1 => ?_, fun h1 => ?_⟩
    · omega
    · refine ⟨(by first | omega | (have c1 := hq2 (Int.toNat i) (by omega); have c2 := hq2 (Int.toNat o) (by omega); omega)), ?_⟩
      refine ⟨fun h2 => ?_, fun h2 => ?_⟩
      · have yi : yw (i + 1) = i + 1 := yw_s (i + 1) (by omega) (by omega)
        rw [yi]
        refine ih (i + 1) (by omega) (by omega) _ ?_
        rw [show Int.toNat (i + 1) = Int.toNat i + 1 by omega]
        exact ySu_00 hq3 hu (fun z => by have z1 := z.1; omega)
      · refine ⟨_, _, _, rfl, (by first | omega | (have c1 := hq2 (Int.toNat i) (by omega); have c2 := hq2 (Int.toNat o) (by omega); omega)), (by first | omega | (have c1 := hq2 (Int.toNat i) (by omega); have c2 := hq2 (Int.toNat o) (by omega); omega)), (by first | omega | (have c1 := hq2 (Int.toNat i) (by omega); have c2 := hq2 (Int.toNat o) (by omega); omega)), (by first | omega | (have c1 := hq2 (Int.toNat i) (by omega); have c2 := hq2 (Int.toNat o) (by omega); omega)), ?_⟩
        intro r6 p70
        refine ⟨fun h8 => ?_, fun h8 => ?_⟩
        · rcases p70 with ⟨q1, q2⟩ | ⟨q1, q2⟩
          · omega
          · have yi : yw (i + 1) = i + 1 := yw_s (i + 1) (by omega) (by omega)
            rw [yi]
            refine ih (i + 1) (by omega) (by omega) _ ?_
            rw [show Int.toNat (i + 1) = Int.toNat i + 1 by omega]
            exact ySu_00 hq3 hu (fun z => q2 z.2)
        · rcases p70 with ⟨q1, q2⟩ | ⟨q1, q2⟩
          · have yi : yw (i + 1) = i + 1 := yw_s (i + 1) (by omega) (by omega)
            rw [yi]
            refine ih (i + 1) (by omega) (by omega) _ ?_
            rw [show Int.toNat (i + 1) = Int.toNat i + 1 by omega]
            exact ySu_1 hu (⟨by omega, q2⟩) rfl
          · omega
set_option maxRecDepth 8000 in
theorem yt_MPR {K : List yV → yM → Prop} {Y : yNx} {g : yM} {t h u o : Int} {z : yV} (hY : yCl zpD184 (zpZ, zpRS, zpP12, zpMT, [yC_IDY, yC_WM, yC_FS, yC_MPS], (5, 134), 1) K Y) (hq1 : 0 ≤ o ∧ o < 40) (hE : Y 28 [(3, 90), (1, t), (1, h), (1, u), (1, o + 1), z] [] g) : Y 86 [(3, 90), (1, t), (1, h), (1, u), (1, o), z] [] g := by
  refine yrun_ok (sp := fun pc => Nat.beq pc 28) hY 3 86 _ [] g ?_
  show (Y 28 [(3, 90), (1, t), (1, h), (1, u), (1, (yw (o + 1))), z] [] g)
  rw [show yw (o + 1) = o + 1 from yw_s (o + 1) (by omega) (by omega)]
  exact hE
set_option maxRecDepth 8000 in
theorem yl_MPR {K : List yV → yM → Prop} {Y : yNx} {g : yM} {t h : Int} (hY : yCl zpD184 (zpZ, zpRS, zpP12, zpMT, [yC_IDY, yC_WM, yC_FS, yC_MPS], (5, 134), 1) K Y) (hq0 : 0 ≤ g 90 22 ∧ g 90 22 ≤ 40) (hq2 : ∀ n : Nat, (n : Int) < g 90 22 → 0 ≤ g 104 n ∧ g 104 n ≤ 5) (hK : ∀ v : Int, yDu (fun p q => g 101 p = t ∧ yPm g h p q) (Int.toNat (g 90 22)) (Int.toNat (g 90 22)) v → K [(1, v)] g) : ∀ (n : Nat) (i : Int), i + n = g 90 22 → 0 ≤ i → ∀ (u : Int) (w5 : yV), yDu (fun p q => g 101 p = t ∧ yPm g h p q) (Int.toNat (g 90 22)) (Int.toNat i) u → Y 28 [(3, 90), (1, t), (1, h), (1, u), (1, i), w5] [] g := by
  intro n
  induction n with
  | zero =>
    intro i hd h0 u w5 hu
    refine yrun_ok (sp := fun pc => Nat.beq pc 28 || Nat.beq pc 40) hY 7 28 _ [] g ?_
    show (((g 90 22) ≤ i → (K [(1, u)] g)) ∧ (¬ ((g 90 22) ≤ i) → (Y 40 [(3, 90), (1, t), (1, h), (1, u), (1, i), (1, 0)] [] g)))
    refine ⟨fun h1 => ?_, fun h1 => ?_⟩
    · obtain rfl : i = g 90 22 := by omega
      exact hK u hu
    · omega
  | succ n ih =>
    intro i hd h0 u w5 hu
    refine yrun_ok (sp := fun pc => Nat.beq pc 28 || Nat.beq pc 40) hY 7 28 _ [] g ?_
    show (((g 90 22) ≤ i → (K [(1, u)] g)) ∧ (¬ ((g 90 22) ≤ i) → (Y 40 [(3, 90), (1, t), (1, h), (1, u), (1, i), (1, 0)] [] g)))
    refine ⟨fun h1 => ?_, fun h1 => ?_⟩
    · omega
    · refine yl_MPRj (e := u) hY hq0 ⟨h0, by omega⟩ hq2 (yDu_rng _ u hu) (fun v hv => yt_MPR hY ⟨h0, by omega⟩ (ih (i + 1) (by omega) (by omega) v _ ?_)) (Int.toNat (g 90 22)) 0 (by omega) (by decide) u rfl
      rw [show Int.toNat (i + 1) = Int.toNat i + 1 by omega]
      exact ⟨u, hu, hv⟩
set_option maxRecDepth 8000 in
theorem yv_MPR {K : List yV → yM → Prop} {Y : yNx} {g : yM} {t h : Int} (hY : yCl zpD184 (zpZ, zpRS, zpP12, zpMT, [yC_IDY, yC_WM, yC_FS, yC_MPS], (5, 134), 1) K Y) (hr_t : -2147483648 ≤ t ∧ t ≤ 2147483647) (hr_h : -2147483648 ≤ h ∧ h ≤ 2147483647) (hp0 : yTy zpZ g) (hp1 : 0 ≤ g 90 22 ∧ g 90 22 ≤ 40) (hp2 : 0 ≤ g 90 6 ∧ g 90 6 ≤ 12) (hp3 : ∀ n : Nat, (n : Int) < g 90 22 → (0 ≤ g 104 n ∧ g 104 n ≤ 5) ∧ g 102 n ≤ 719) (hK : ∀ (r : Int) (g' : yM), (¬ (0 ≤ t ∧ t ≤ 3 ∧ 0 ≤ h ∧ h ≤ 1) → r = -1 ∧ g' = g) → ((0 ≤ t ∧ t ≤ 3 ∧ 0 ≤ h ∧ h ≤ 1) → yFd g g' ∧ yDu (fun p q => g' 101 p = t ∧ yPm g' h p q) (Int.toNat (g' 90 22)) (Int.toNat (g' 90 22)) r) → K [(1, r)] g') : Y 0 [(3, 90), (1, t), (1, h), (0, 0), (0, 0), (0, 0)] [] g := by
  refine yrun_ok (sp := fun pc => Nat.beq pc 28) hY 16 0 _ [] g ?_
  show (∃ (d1 : Int), [(1, t)] = [(1, d1)] ∧ (∀ (r2 : Int), ((r2 = 1 ∧ 0 ≤ d1 ∧ d1 ≤ 3) ∨ (r2 = 0 ∧ (d1 < 0 ∨ 3 < d1))) → ((r2 = 0 → (K [(1, (-1))] g)) ∧ (¬ (r2 = 0) → (∃ (v5 a6 b7 : Int), [(2, h), (2, 0), (2, 1)] = [(2, v5), (2, a6), (2, b7)] ∧ (∀ (r8 : Int), ((r8 = 1 ∧ a6 ≤ v5 ∧ v5 ≤ b7) ∨ (r8 = 0 ∧ (v5 < a6 ∨ b7 < v5))) → ((r8 ≠ 0 → ([(3, 90)] = [(3, 90)] ∧ (yTy zpZ g) ∧ (0 ≤ g 90 22 ∧ g 90 22 ≤ 40) ∧ (0 ≤ g 90 6 ∧ g 90 6 ≤ 12) ∧ (∀ n : Nat, (n : Int) < g 90 22 → (0 ≤ g 104 n ∧ g 104 n ≤ 5) ∧ g 102 n ≤ 719) ∧ (∀ (g11 : yM), (yFd g g11) → (Y 28 [(3, 90), (1, t), (1, h), (1, 0), (1, 0), (0, 0)] [] g11)))) ∧ (¬ (r8 ≠ 0) → (K [(1, (-1))] g)))))))))
  refine ⟨_, rfl, ?_⟩
  intro r2 p30
  refine ⟨fun h4 => ?_, fun h4 => ?_⟩
  · exact hK _ _ (fun _ => ⟨rfl, rfl⟩) (fun h => absurd h (by omega))
  · refine ⟨_, _, _, rfl, ?_⟩
    intro r8 p90
    refine ⟨fun h10 => ?_, fun h10 => ?_⟩
    · refine ⟨rfl, (hp0), (by omega), (by omega), (hp3), ?_⟩
      intro g11 p120
      have hc := p120.c hp1 hp3
      exact yl_MPR (g := g11) hY hc.1 hc.2.1 (fun v hv => hK v _ (fun h => absurd (by omega) h) (fun _ => ⟨p120, hv⟩)) (Int.toNat (g11 90 22)) 0 (by omega) (by decide) 0 _ rfl
    · exact hK _ _ (fun _ => ⟨rfl, rfl⟩) (fun h => absurd h (by omega))
theorem yM_MPR {l : Launch} {Ts : List Cond} {cl : List vw_C} {RO : zRO} (H : zHyp Ts cl RO) : yMet l Ts cl zpZ RO zpMT yC_MPR := ymet_of2 H.1 H.2.1 zpDj H.2.2.1 yRb H.p12 (ymets_cons (yM_IDY H) (ymets_cons (yM_WM H) (ymets_cons (yM_FS H) (ymets_cons (yM_MPS H) ymets_nil)))) (zrc1 rfl) (plainFor_of_name zpy12) zpDk184 (fun as g K Y h hA hY => by
  obtain ⟨t, h, rfl, hp0, hp1, hp2, hp3, hK⟩ := h
  exact yv_MPR hY (yAr1 hA (by simp)) (yAr1 hA (by simp)) hp0 hp1 hp2 hp3 hK)
def yP_MJU : yPT := fun as g K => ∃ (t h : Int), as = [(3, 90), (1, t), (1, h)] ∧ (yTy zpZ g) ∧ (0 ≤ g 90 22 ∧ g 90 22 ≤ 40) ∧ (0 ≤ g 90 6 ∧ g 90 6 ≤ 12) ∧ (∀ n : Nat, (n : Int) < g 90 22 → (0 ≤ g 104 n ∧ g 104 n ≤ 5) ∧ g 102 n ≤ 719) ∧ (∀ (r : Int) (g' : yM), (¬ (0 ≤ t ∧ t ≤ 3 ∧ 0 ≤ h ∧ h ≤ 1) → r = -1 ∧ g' = g) → ((0 ≤ t ∧ t ≤ 3 ∧ 0 ≤ h ∧ h ≤ 1) → h = 0 → yFd g g' ∧ yFst (yMm g' t) (g' 90 22) r) → ((0 ≤ t ∧ t ≤ 3 ∧ 0 ≤ h ∧ h ≤ 1) → h = 1 → yFd g g' ∧ yDu (fun p q => g' 101 p = t ∧ yPt g' p q) (Int.toNat (g' 90 22)) (Int.toNat (g' 90 22)) r) → K [(1, r)] g')
def yC_MJU : yC := (171, (5, 134), yP_MJU)
set_option maxRecDepth 8000 in
theorem yl_MJUj {K : List yV → yM → Prop} {Y : yNx} {g : yM} {t h o e f : Int} (hY : yCl zpD171 (zpZ, zpRS, zpP12, zpMT, [yC_IDY, yC_WM, yC_FS, yC_PAT, yC_LTO], (5, 134), 1) K Y) (hq0 : 0 ≤ g 90 22 ∧ g 90 22 ≤ 40) (hq1 : 0 ≤ o ∧ o < g 90 22) (hq2 : ∀ n : Nat, (n : Int) < g 90 22 → 0 ≤ g 104 n ∧ g 104 n ≤ 5) (hq3 : -2147483648 ≤ e ∧ e ≤ 2147483647) (hq4 : g 101 (Int.toNat o) = t) (hK : ∀ (v : Int), ySu (fun q => g 101 (Int.toNat o) = t ∧ yPt g (Int.toNat o) q) (fun _ => 1) e (Int.toNat (g 90 22)) v → Y 160 [(3, 90), (1, t), (1, h), (1, v), (1, o), (1, f), (1, g 90 22)] [] g) : ∀ (n : Nat) (i : Int), i + n = g 90 22 → 0 ≤ i → ∀ (u : Int), ySu (fun q => g 101 (Int.toNat o) = t ∧ yPt g (Int.toNat o) q) (fun _ => 1) e (Int.toNat i) u → Y 126 [(3, 90), (1, t), (1, h), (1, u), (1, o), (1, f), (1, i)] [] g := by
  intro n
  induction n with
  | zero =>
    intro i hd h0 u  hu
    refine yrun_ok (sp := fun pc => Nat.beq pc 126 || Nat.beq pc 160) hY 17 126 _ [] g ?_
    show (((g 90 22) ≤ i → (Y 160 [(3, 90), (1, t), (1, h), (1, u), (1, o), (1, f), (1, i)] [] g)) ∧ (¬ ((g 90 22) ≤ i) → (∃ (a2 b3 : Int), [(3, 90), (1, o), (1, i)] = [(3, 90), (1, a2), (1, b3)] ∧ (0 ≤ a2 ∧ a2 < 40) ∧ (0 ≤ b3 ∧ b3 < 40) ∧ (∀ (r4 : Int), ((r4 = 1 ∧ yPt g (Int.toNat a2) (Int.toNat b3)) ∨ (r4 = 0 ∧ ¬ yPt g (Int.toNat a2) (Int.toNat b3))) → ((r4 = 0 → (Y 126 [(3, 90), (1, t), (1, h), (1, (yw (u + 0))), (1, o), (1, f), (1, (yw (i + 1)))] [] g)) ∧ (¬ (r4 = 0) → (Y 126 [(3, 90), (1, t), (1, h), (1, (yw (u + 1))), (1, o), (1, f), (1, (yw (i + 1)))] [] g)))))))
    refine ⟨fun h1 => ?_, fun h1 => ?_⟩
    · obtain rfl : i = g 90 22 := by omega
      exact hK u  hu
    · refine ⟨_, _, rfl, (by first | omega | (have c1 := hq2 (Int.toNat i) (by omega); have c2 := hq2 (Int.toNat o) (by omega); omega)), (by first | omega | (have c1 := hq2 (Int.toNat i) (by omega); have c2 := hq2 (Int.toNat o) (by omega); omega)), ?_⟩
      intro r4 p50
      refine ⟨fun h6 => ?_, fun h6 => ?_⟩
      · omega
      · omega
  | succ n ih =>
    intro i hd h0 u  hu
    refine yrun_ok (sp := fun pc => Nat.beq pc 126 || Nat.beq pc 160) hY 17 126 _ [] g ?_
    show (((g 90 22) ≤ i → (Y 160 [(3, 90), (1, t), (1, h), (1, u), (1, o), (1, f), (1, i)] [] g)) ∧ (¬ ((g 90 22) ≤ i) → (∃ (a2 b3 : Int), [(3, 90), (1, o), (1, i)] = [(3, 90), (1, a2), (1, b3)] ∧ (0 ≤ a2 ∧ a2 < 40) ∧ (0 ≤ b3 ∧ b3 < 40) ∧ (∀ (r4 : Int), ((r4 = 1 ∧ yPt g (Int.toNat a2) (Int.toNat b3)) ∨ (r4 = 0 ∧ ¬ yPt g (Int.toNat a2) (Int.toNat b3))) → ((r4 = 0 → (Y 126 [(3, 90), (1, t), (1, h), (1, (yw (u + 0))), (1, o), (1, f), (1, (yw (i + 1)))] [] g)) ∧ (¬ (r4 = 0) → (Y 126 [(3, 90), (1, t), (1, h), (1, (yw (u + 1))), (1, o), (1, f), (1, (yw (i + 1)))] [] g)))))))
    refine ⟨fun h1 => ?_, fun h1 => ?_⟩
    · omega
    · refine ⟨_, _, rfl, (by first | omega | (have c1 := hq2 (Int.toNat i) (by omega); have c2 := hq2 (Int.toNat o) (by omega); omega)), (by first | omega | (have c1 := hq2 (Int.toNat i) (by omega); have c2 := hq2 (Int.toNat o) (by omega); omega)), ?_⟩
      intro r4 p50
      refine ⟨fun h6 => ?_, fun h6 => ?_⟩
      · rcases p50 with ⟨q1, q2⟩ | ⟨q1, q2⟩
        · omega
        · have yi : yw (i + 1) = i + 1 := yw_s (i + 1) (by omega) (by omega)
          rw [yi]
          refine ih (i + 1) (by omega) (by omega) _ ?_
          rw [show Int.toNat (i + 1) = Int.toNat i + 1 by omega]
          exact ySu_00 hq3 hu (fun z => q2 z.2)
      · rcases p50 with ⟨q1, q2⟩ | ⟨q1, q2⟩
        · have yi : yw (i + 1) = i + 1 := yw_s (i + 1) (by omega) (by omega)
          rw [yi]
          refine ih (i + 1) (by omega) (by omega) _ ?_
          rw [show Int.toNat (i + 1) = Int.toNat i + 1 by omega]
          exact ySu_1 hu (⟨by omega, q2⟩) rfl
        · omega
set_option maxRecDepth 8000 in
theorem yt_MJU {K : List yV → yM → Prop} {Y : yNx} {g : yM} {t h u o : Int} {y z : yV} (hY : yCl zpD171 (zpZ, zpRS, zpP12, zpMT, [yC_IDY, yC_WM, yC_FS, yC_PAT, yC_LTO], (5, 134), 1) K Y) (hq1 : 0 ≤ o ∧ o < 40) (hE : Y 28 [(3, 90), (1, t), (1, h), (1, u), (1, o + 1), y, z] [] g) : Y 160 [(3, 90), (1, t), (1, h), (1, u), (1, o), y, z] [] g := by
  refine yrun_ok (sp := fun pc => Nat.beq pc 28) hY 3 160 _ [] g ?_
  show (Y 28 [(3, 90), (1, t), (1, h), (1, u), (1, (yw (o + 1))), y, z] [] g)
  rw [show yw (o + 1) = o + 1 from yw_s (o + 1) (by omega) (by omega)]
  exact hE
set_option maxRecDepth 8000 in
theorem yl_MJU {K : List yV → yM → Prop} {Y : yNx} {g : yM} {t h : Int} (hY : yCl zpD171 (zpZ, zpRS, zpP12, zpMT, [yC_IDY, yC_WM, yC_FS, yC_PAT, yC_LTO], (5, 134), 1) K Y) (hq0 : 0 ≤ g 90 22 ∧ g 90 22 ≤ 40) (hq2 : ∀ n : Nat, (n : Int) < g 90 22 → 0 ≤ g 104 n ∧ g 104 n ≤ 5) (hq3 : 0 ≤ h ∧ h ≤ 1) (hK : ∀ v : Int, (h = 0 → yFst (yMm g t) (g 90 22) v) → (h = 1 → yDu (fun p q => g 101 p = t ∧ yPt g p q) (Int.toNat (g 90 22)) (Int.toNat (g 90 22)) v) → K [(1, v)] g) : ∀ (n : Nat) (i : Int), i + n = g 90 22 → 0 ≤ i → ∀ (u : Int) (w5 w6 : yV), (h = 0 → ∀ j : Nat, (j : Int) < i → ¬ yMm g t j) → yDu (fun p q => g 101 p = t ∧ yPt g p q) (Int.toNat (g 90 22)) (Int.toNat i) u → Y 28 [(3, 90), (1, t), (1, h), (1, u), (1, i), w5, w6] [] g := by
  intro n
  induction n with
  | zero =>
    intro i hd h0 u w5 w6 hm hu
    refine yrun_ok (sp := fun pc => Nat.beq pc 28 || Nat.beq pc 126) hY 46 28 _ [] g ?_
    show (((g 90 22) ≤ i → ((h ≠ 0 → (K [(1, u)] g)) ∧ (¬ (h ≠ 0) → (K [(1, (-2))] g)))) ∧ (¬ ((g 90 22) ≤ i) → (((0 : Int) ≤ i ∧ i < ((40 : Nat) : Int)) ∧ (((g 101 (Int.toNat i)) = t → (((0 : Int) ≤ i ∧ i < ((40 : Nat) : Int)) ∧ (((g 108 (Int.toNat i)) < 0 → ((h ≠ 0 → (Y 126 [(3, 90), (1, t), (1, h), (1, u), (1, i), (1, 0), (1, 0)] [] g)) ∧ (¬ (h ≠ 0) → (((0 : Int) = 0 → (Y 126 [(3, 90), (1, t), (1, h), (1, u), (1, i), (1, 0), (1, 0)] [] g)) ∧ (¬ (0 : Int) = 0 → _))))) ∧ (¬ ((g 108 (Int.toNat i)) < 0) → (((0 : Int) ≤ i ∧ i < ((40 : Nat) : Int)) ∧ (((g 110 (Int.toNat i)) < 0 → ((h ≠ 0 → (Y 126 [(3, 90), (1, t), (1, h), (1, u), (1, i), (1, 1), (1, 0)] [] g)) ∧ (¬ (h ≠ 0) → (((1 : Int) = 0 → _) ∧ (¬ (1 : Int) = 0 → (K [(1, i)] g)))))) ∧ (¬ ((g 110 (Int.toNat i)) < 0) → (((0 : Int) ≤ i ∧ i < ((40 : Nat) : Int)) ∧ (((0 : Int) ≤ i ∧ i < ((40 : Nat) : Int)) ∧ (((g 108 (Int.toNat i)) < (g 110 (Int.toNat i)) → ((h ≠ 0 → (Y 126 [(3, 90), (1, t), (1, h), (1, u), (1, i), (1, 1), (1, 0)] [] g)) ∧ (¬ (h ≠ 0) → (((1 : Int) = 0 → _) ∧ (¬ (1 : Int) = 0 → (K [(1, i)] g)))))) ∧ (¬ ((g 108 (Int.toNat i)) < (g 110 (Int.toNat i))) → (((0 : Int) ≤ i ∧ i < ((40 : Nat) : Int)) ∧ (∃ (w13 : Int), [(3, 90), (1, i)] = [(3, 90), (1, w13)] ∧ (0 ≤ w13 ∧ w13 < 40) ∧ (0 ≤ g 104 (Int.toNat w13) ∧ g 104 (Int.toNat w13) ≤ 5) ∧ (∀ (r14 : Int), (r14 = yMl g (Int.toNat w13)) → (((g 108 (Int.toNat i)) ≤ r14 → ((h ≠ 0 → (Y 126 [(3, 90), (1, t), (1, h), (1, u), (1, i), (1, 0), (1, 0)] [] g)) ∧ (¬ (h ≠ 0) → (((0 : Int) = 0 → (Y 126 [(3, 90), (1, t), (1, h), (1, u), (1, i), (1, 0), (1, 0)] [] g)) ∧ (¬ (0 : Int) = 0 → _))))) ∧ (¬ ((g 108 (Int.toNat i)) ≤ r14) → ((h ≠ 0 → (Y 126 [(3, 90), (1, t), (1, h), (1, u), (1, i), (1, 1), (1, 0)] [] g)) ∧ (¬ (h ≠ 0) → (((1 : Int) = 0 → _) ∧ (¬ (1 : Int) = 0 → (K [(1, i)] g))))))))))))))))))))) ∧ (¬ ((g 101 (Int.toNat i)) = t) → (Y 28 [(3, 90), (1, t), (1, h), (1, u), (1, (yw (i + 1))), w5, w6] [] g))))))
    refine ⟨fun h1 => ?_, fun h1 => ?_⟩
    · refine ⟨fun h2 => ?_, fun h2 => ?_⟩
      · obtain rfl : i = g 90 22 := by omega
        exact hK _ (fun h => absurd h (by omega)) (fun _ => hu)
      · obtain rfl : i = g 90 22 := by omega
        exact hK _ (fun h => Or.inr ⟨rfl, hm h⟩) (fun h => absurd h (by omega))
    · refine ⟨(by omega), ?_⟩
      refine ⟨fun h3 => ?_, fun h3 => ?_⟩
      · refine ⟨(by omega), ?_⟩
        refine ⟨fun h4 => ?_, fun h4 => ?_⟩
        · refine ⟨fun h5 => ?_, fun h5 => ?_⟩
          · omega
          · refine ⟨fun _ => ?_, fun h6 => absurd (by decide) h6⟩
            omega
        · refine ⟨(by omega), ?_⟩
          refine ⟨fun h7 => ?_, fun h7 => ?_⟩
          · refine ⟨fun h8 => ?_, fun h8 => ?_⟩
            · omega
            · refine ⟨fun h9 => absurd h9 (by decide), fun _ => ?_⟩
              omega
          · refine ⟨(by omega), ?_⟩
            refine ⟨(by omega), ?_⟩
            refine ⟨fun h10 => ?_, fun h10 => ?_⟩
            · refine ⟨fun h11 => ?_, fun h11 => ?_⟩
              · omega
              · refine ⟨fun h12 => absurd h12 (by decide), fun _ => ?_⟩
                omega
            · refine ⟨(by omega), ?_⟩
              refine ⟨_, rfl, (by omega), (by omega), ?_⟩
              intro r14 p150
              refine ⟨fun h16 => ?_, fun h16 => ?_⟩
              · refine ⟨fun h17 => ?_, fun h17 => ?_⟩
                · omega
                · refine ⟨fun _ => ?_, fun h18 => absurd (by decide) h18⟩
                  omega
              · refine ⟨fun h19 => ?_, fun h19 => ?_⟩
                · omega
                · refine ⟨fun h20 => absurd h20 (by decide), fun _ => ?_⟩
                  omega
      · omega
  | succ n ih =>
    intro i hd h0 u w5 w6 hm hu
    refine yrun_ok (sp := fun pc => Nat.beq pc 28 || Nat.beq pc 126) hY 46 28 _ [] g ?_
    show (((g 90 22) ≤ i → ((h ≠ 0 → (K [(1, u)] g)) ∧ (¬ (h ≠ 0) → (K [(1, (-2))] g)))) ∧ (¬ ((g 90 22) ≤ i) → (((0 : Int) ≤ i ∧ i < ((40 : Nat) : Int)) ∧ (((g 101 (Int.toNat i)) = t → (((0 : Int) ≤ i ∧ i < ((40 : Nat) : Int)) ∧ (((g 108 (Int.toNat i)) < 0 → ((h ≠ 0 → (Y 126 [(3, 90), (1, t), (1, h), (1, u), (1, i), (1, 0), (1, 0)] [] g)) ∧ (¬ (h ≠ 0) → (((0 : Int) = 0 → (Y 126 [(3, 90), (1, t), (1, h), (1, u), (1, i), (1, 0), (1, 0)] [] g)) ∧ (¬ (0 : Int) = 0 → _))))) ∧ (¬ ((g 108 (Int.toNat i)) < 0) → (((0 : Int) ≤ i ∧ i < ((40 : Nat) : Int)) ∧ (((g 110 (Int.toNat i)) < 0 → ((h ≠ 0 → (Y 126 [(3, 90), (1, t), (1, h), (1, u), (1, i), (1, 1), (1, 0)] [] g)) ∧ (¬ (h ≠ 0) → (((1 : Int) = 0 → _) ∧ (¬ (1 : Int) = 0 → (K [(1, i)] g)))))) ∧ (¬ ((g 110 (Int.toNat i)) < 0) → (((0 : Int) ≤ i ∧ i < ((40 : Nat) : Int)) ∧ (((0 : Int) ≤ i ∧ i < ((40 : Nat) : Int)) ∧ (((g 108 (Int.toNat i)) < (g 110 (Int.toNat i)) → ((h ≠ 0 → (Y 126 [(3, 90), (1, t), (1, h), (1, u), (1, i), (1, 1), (1, 0)] [] g)) ∧ (¬ (h ≠ 0) → (((1 : Int) = 0 → _) ∧ (¬ (1 : Int) = 0 → (K [(1, i)] g)))))) ∧ (¬ ((g 108 (Int.toNat i)) < (g 110 (Int.toNat i))) → (((0 : Int) ≤ i ∧ i < ((40 : Nat) : Int)) ∧ (∃ (w13 : Int), [(3, 90), (1, i)] = [(3, 90), (1, w13)] ∧ (0 ≤ w13 ∧ w13 < 40) ∧ (0 ≤ g 104 (Int.toNat w13) ∧ g 104 (Int.toNat w13) ≤ 5) ∧ (∀ (r14 : Int), (r14 = yMl g (Int.toNat w13)) → (((g 108 (Int.toNat i)) ≤ r14 → ((h ≠ 0 → (Y 126 [(3, 90), (1, t), (1, h), (1, u), (1, i), (1, 0), (1, 0)] [] g)) ∧ (¬ (h ≠ 0) → (((0 : Int) = 0 → (Y 126 [(3, 90), (1, t), (1, h), (1, u), (1, i), (1, 0), (1, 0)] [] g)) ∧ (¬ (0 : Int) = 0 → _))))) ∧ (¬ ((g 108 (Int.toNat i)) ≤ r14) → ((h ≠ 0 → (Y 126 [(3, 90), (1, t), (1, h), (1, u), (1, i), (1, 1), (1, 0)] [] g)) ∧ (¬ (h ≠ 0) → (((1 : Int) = 0 → _) ∧ (¬ (1 : Int) = 0 → (K [(1, i)] g))))))))))))))))))))) ∧ (¬ ((g 101 (Int.toNat i)) = t) → (Y 28 [(3, 90), (1, t), (1, h), (1, u), (1, (yw (i + 1))), w5, w6] [] g))))))
    refine ⟨fun h1 => ?_, fun h1 => ?_⟩
    · refine ⟨fun h2 => ?_, fun h2 => ?_⟩
      · omega
      · omega
    · refine ⟨(by first | omega | (have c1 := hq2 (Int.toNat i) (by omega); omega)), ?_⟩
      refine ⟨fun h3 => ?_, fun h3 => ?_⟩
      · refine ⟨(by first | omega | (have c1 := hq2 (Int.toNat i) (by omega); omega)), ?_⟩
        refine ⟨fun h4 => ?_, fun h4 => ?_⟩
        · refine ⟨fun h5 => ?_, fun h5 => ?_⟩
          · refine yl_MJUj (e := u) hY hq0 ⟨h0, by omega⟩ hq2 (yDu_rng _ u hu) (by omega) (fun v hv => yt_MJU hY ⟨h0, by omega⟩ (ih (i + 1) (by omega) (by omega) v _ _ (fun h j hj => ?_) ?_)) (Int.toNat (g 90 22)) 0 (by omega) (by decide) u rfl
            · by_cases hji : (j : Int) < i
              · exact hm h j hji
              · obtain rfl : j = Int.toNat i := by omega
                exact fun z => by unfold yMm at z; omega
            · rw [show Int.toNat (i + 1) = Int.toNat i + 1 by omega]
              exact ⟨u, hu, hv⟩
          · refine ⟨fun _ => ?_, fun h6 => absurd (by decide) h6⟩
            refine yl_MJUj (e := u) hY hq0 ⟨h0, by omega⟩ hq2 (yDu_rng _ u hu) (by omega) (fun v hv => yt_MJU hY ⟨h0, by omega⟩ (ih (i + 1) (by omega) (by omega) v _ _ (fun h j hj => ?_) ?_)) (Int.toNat (g 90 22)) 0 (by omega) (by decide) u rfl
            · by_cases hji : (j : Int) < i
              · exact hm h j hji
              · obtain rfl : j = Int.toNat i := by omega
                exact fun z => by unfold yMm at z; omega
            · rw [show Int.toNat (i + 1) = Int.toNat i + 1 by omega]
              exact ⟨u, hu, hv⟩
        · refine ⟨(by first | omega | (have c1 := hq2 (Int.toNat i) (by omega); omega)), ?_⟩
          refine ⟨fun h7 => ?_, fun h7 => ?_⟩
          · refine ⟨fun h8 => ?_, fun h8 => ?_⟩
            · refine yl_MJUj (e := u) hY hq0 ⟨h0, by omega⟩ hq2 (yDu_rng _ u hu) (by omega) (fun v hv => yt_MJU hY ⟨h0, by omega⟩ (ih (i + 1) (by omega) (by omega) v _ _ (fun h j hj => ?_) ?_)) (Int.toNat (g 90 22)) 0 (by omega) (by decide) u rfl
              · by_cases hji : (j : Int) < i
                · exact hm h j hji
                · obtain rfl : j = Int.toNat i := by omega
                  exact fun z => by unfold yMm at z; omega
              · rw [show Int.toNat (i + 1) = Int.toNat i + 1 by omega]
                exact ⟨u, hu, hv⟩
            · refine ⟨fun h9 => absurd h9 (by decide), fun _ => ?_⟩
              exact hK _ (fun h => Or.inl ⟨Int.toNat i, by omega, by omega, by unfold yMm; omega, fun j hj => hm h j (by omega)⟩) (fun h => absurd h (by omega))
          · refine ⟨(by first | omega | (have c1 := hq2 (Int.toNat i) (by omega); omega)), ?_⟩
            refine ⟨(by first | omega | (have c1 := hq2 (Int.toNat i) (by omega); omega)), ?_⟩
            refine ⟨fun h10 => ?_, fun h10 => ?_⟩
            · refine ⟨fun h11 => ?_, fun h11 => ?_⟩
              · refine yl_MJUj (e := u) hY hq0 ⟨h0, by omega⟩ hq2 (yDu_rng _ u hu) (by omega) (fun v hv => yt_MJU hY ⟨h0, by omega⟩ (ih (i + 1) (by omega) (by omega) v _ _ (fun h j hj => ?_) ?_)) (Int.toNat (g 90 22)) 0 (by omega) (by decide) u rfl
                · by_cases hji : (j : Int) < i
                  · exact hm h j hji
                  · obtain rfl : j = Int.toNat i := by omega
                    exact fun z => by unfold yMm at z; omega
                · rw [show Int.toNat (i + 1) = Int.toNat i + 1 by omega]
                  exact ⟨u, hu, hv⟩
              · refine ⟨fun h12 => absurd h12 (by decide), fun _ => ?_⟩
                exact hK _ (fun h => Or.inl ⟨Int.toNat i, by omega, by omega, by unfold yMm; omega, fun j hj => hm h j (by omega)⟩) (fun h => absurd h (by omega))
            · refine ⟨(by first | omega | (have c1 := hq2 (Int.toNat i) (by omega); omega)), ?_⟩
              refine ⟨_, rfl, (by first | omega | (have c1 := hq2 (Int.toNat i) (by omega); omega)), (by first | omega | (have c1 := hq2 (Int.toNat i) (by omega); omega)), ?_⟩
              intro r14 p150
              refine ⟨fun h16 => ?_, fun h16 => ?_⟩
              · refine ⟨fun h17 => ?_, fun h17 => ?_⟩
                · refine yl_MJUj (e := u) hY hq0 ⟨h0, by omega⟩ hq2 (yDu_rng _ u hu) (by omega) (fun v hv => yt_MJU hY ⟨h0, by omega⟩ (ih (i + 1) (by omega) (by omega) v _ _ (fun h j hj => ?_) ?_)) (Int.toNat (g 90 22)) 0 (by omega) (by decide) u rfl
                  · by_cases hji : (j : Int) < i
                    · exact hm h j hji
                    · obtain rfl : j = Int.toNat i := by omega
                      exact fun z => by unfold yMm at z; omega
                  · rw [show Int.toNat (i + 1) = Int.toNat i + 1 by omega]
                    exact ⟨u, hu, hv⟩
                · refine ⟨fun _ => ?_, fun h18 => absurd (by decide) h18⟩
                  refine yl_MJUj (e := u) hY hq0 ⟨h0, by omega⟩ hq2 (yDu_rng _ u hu) (by omega) (fun v hv => yt_MJU hY ⟨h0, by omega⟩ (ih (i + 1) (by omega) (by omega) v _ _ (fun h j hj => ?_) ?_)) (Int.toNat (g 90 22)) 0 (by omega) (by decide) u rfl
                  · by_cases hji : (j : Int) < i
                    · exact hm h j hji
                    · obtain rfl : j = Int.toNat i := by omega
                      exact fun z => by unfold yMm at z; omega
                  · rw [show Int.toNat (i + 1) = Int.toNat i + 1 by omega]
                    exact ⟨u, hu, hv⟩
              · refine ⟨fun h19 => ?_, fun h19 => ?_⟩
                · refine yl_MJUj (e := u) hY hq0 ⟨h0, by omega⟩ hq2 (yDu_rng _ u hu) (by omega) (fun v hv => yt_MJU hY ⟨h0, by omega⟩ (ih (i + 1) (by omega) (by omega) v _ _ (fun h j hj => ?_) ?_)) (Int.toNat (g 90 22)) 0 (by omega) (by decide) u rfl
                  · by_cases hji : (j : Int) < i
                    · exact hm h j hji
                    · obtain rfl : j = Int.toNat i := by omega
                      exact fun z => by unfold yMm at z; omega
                  · rw [show Int.toNat (i + 1) = Int.toNat i + 1 by omega]
                    exact ⟨u, hu, hv⟩
                · refine ⟨fun h20 => absurd h20 (by decide), fun _ => ?_⟩
                  exact hK _ (fun h => Or.inl ⟨Int.toNat i, by omega, by omega, by unfold yMm; omega, fun j hj => hm h j (by omega)⟩) (fun h => absurd h (by omega))
      · have yi : yw (i + 1) = i + 1 := yw_s (i + 1) (by omega) (by omega)
        rw [yi]
        refine ih (i + 1) (by omega) (by omega) u _ _ (fun h j hj => ?_) ?_
        · by_cases hji : (j : Int) < i
          · exact hm h j hji
          · obtain rfl : j = Int.toNat i := by omega
            exact fun z => by unfold yMm at z; omega
        · rw [show Int.toNat (i + 1) = Int.toNat i + 1 by omega]
          exact ⟨u, hu, ySu_no _ (fun j _ z => by have z1 := z.1; omega)⟩
set_option maxRecDepth 8000 in
theorem yv_MJU {K : List yV → yM → Prop} {Y : yNx} {g : yM} {t h : Int} (hY : yCl zpD171 (zpZ, zpRS, zpP12, zpMT, [yC_IDY, yC_WM, yC_FS, yC_PAT, yC_LTO], (5, 134), 1) K Y) (hr_t : -2147483648 ≤ t ∧ t ≤ 2147483647) (hr_h : -2147483648 ≤ h ∧ h ≤ 2147483647) (hp0 : yTy zpZ g) (hp1 : 0 ≤ g 90 22 ∧ g 90 22 ≤ 40) (hp2 : 0 ≤ g 90 6 ∧ g 90 6 ≤ 12) (hp3 : ∀ n : Nat, (n : Int) < g 90 22 → (0 ≤ g 104 n ∧ g 104 n ≤ 5) ∧ g 102 n ≤ 719) (hK : ∀ (r : Int) (g' : yM), (¬ (0 ≤ t ∧ t ≤ 3 ∧ 0 ≤ h ∧ h ≤ 1) → r = -1 ∧ g' = g) → ((0 ≤ t ∧ t ≤ 3 ∧ 0 ≤ h ∧ h ≤ 1) → h = 0 → yFd g g' ∧ yFst (yMm g' t) (g' 90 22) r) → ((0 ≤ t ∧ t ≤ 3 ∧ 0 ≤ h ∧ h ≤ 1) → h = 1 → yFd g g' ∧ yDu (fun p q => g' 101 p = t ∧ yPt g' p q) (Int.toNat (g' 90 22)) (Int.toNat (g' 90 22)) r) → K [(1, r)] g') : Y 0 [(3, 90), (1, t), (1, h), (0, 0), (0, 0), (0, 0), (0, 0)] [] g := by
  refine yrun_ok (sp := fun pc => Nat.beq pc 28) hY 16 0 _ [] g ?_
  show (∃ (d1 : Int), [(1, t)] = [(1, d1)] ∧ (∀ (r2 : Int), ((r2 = 1 ∧ 0 ≤ d1 ∧ d1 ≤ 3) ∨ (r2 = 0 ∧ (d1 < 0 ∨ 3 < d1))) → ((r2 = 0 → (K [(1, (-1))] g)) ∧ (¬ (r2 = 0) → (∃ (v5 a6 b7 : Int), [(2, h), (2, 0), (2, 1)] = [(2, v5), (2, a6), (2, b7)] ∧ (∀ (r8 : Int), ((r8 = 1 ∧ a6 ≤ v5 ∧ v5 ≤ b7) ∨ (r8 = 0 ∧ (v5 < a6 ∨ b7 < v5))) → ((r8 ≠ 0 → ([(3, 90)] = [(3, 90)] ∧ (yTy zpZ g) ∧ (0 ≤ g 90 22 ∧ g 90 22 ≤ 40) ∧ (0 ≤ g 90 6 ∧ g 90 6 ≤ 12) ∧ (∀ n : Nat, (n : Int) < g 90 22 → (0 ≤ g 104 n ∧ g 104 n ≤ 5) ∧ g 102 n ≤ 719) ∧ (∀ (g11 : yM), (yFd g g11) → (Y 28 [(3, 90), (1, t), (1, h), (1, 0), (1, 0), (0, 0), (0, 0)] [] g11)))) ∧ (¬ (r8 ≠ 0) → (K [(1, (-1))] g)))))))))
  refine ⟨_, rfl, ?_⟩
  intro r2 p30
  refine ⟨fun h4 => ?_, fun h4 => ?_⟩
  · exact hK _ _ (fun _ => ⟨rfl, rfl⟩) (fun h => absurd h (by omega)) (fun h => absurd h (by omega))
  · refine ⟨_, _, _, rfl, ?_⟩
    intro r8 p90
    refine ⟨fun h10 => ?_, fun h10 => ?_⟩
    · refine ⟨rfl, (hp0), (by omega), (by omega), (hp3), ?_⟩
      intro g11 p120
      have hc := p120.c hp1 hp3
      exact yl_MJU (g := g11) hY hc.1 hc.2.1 ⟨by omega, by omega⟩ (fun v h1 h2 => hK v _ (fun h => absurd (by omega) h) (fun _ h => ⟨p120, h1 h⟩) (fun _ h => ⟨p120, h2 h⟩)) (Int.toNat (g11 90 22)) 0 (by omega) (by decide) 0 _ _ (fun _ j hj => absurd hj (by omega)) rfl
    · exact hK _ _ (fun _ => ⟨rfl, rfl⟩) (fun h => absurd h (by omega)) (fun h => absurd h (by omega))
theorem yM_MJU {l : Launch} {Ts : List Cond} {cl : List vw_C} {RO : zRO} (H : zHyp Ts cl RO) : yMet l Ts cl zpZ RO zpMT yC_MJU := ymet_of2 H.1 H.2.1 zpDj H.2.2.1 yRb H.p12 (ymets_cons (yM_IDY H) (ymets_cons (yM_WM H) (ymets_cons (yM_FS H) (ymets_cons (yM_PAT H) (ymets_cons (yM_LTO H) ymets_nil))))) (zrc1 rfl) (plainFor_of_name zpy12) zpDk171 (fun as g K Y h hA hY => by
  obtain ⟨t, h, rfl, hp0, hp1, hp2, hp3, hK⟩ := h
  exact yv_MJU hY (yAr1 hA (by simp)) (yAr1 hA (by simp)) hp0 hp1 hp2 hp3 hK)
def yP_MWH : yPT := fun as g K => ∃ (w : Int), as = [(3, 90), (1, w)] ∧ (yTy zpZ g) ∧ (0 ≤ g 90 22 ∧ g 90 22 ≤ 40) ∧ (0 ≤ g 90 6 ∧ g 90 6 ≤ 12) ∧ (∀ n : Nat, (n : Int) < g 90 22 → (0 ≤ g 104 n ∧ g 104 n ≤ 5) ∧ g 102 n ≤ 719) ∧ (∀ (r : Int) (g' : yM), (¬ (0 ≤ w ∧ w < g 90 22) → r = -1 ∧ g' = g) → ((0 ≤ w ∧ w < g 90 22) → yFd g g' ∧ yBt (yPt g' (Int.toNat w)) (Int.toNat (g' 90 22)) r) → K [(2, r)] g')
def yC_MWH : yC := (211, (5, 134), yP_MWH)
set_option maxRecDepth 8000 in
theorem yl_MWH {K : List yV → yM → Prop} {Y : yNx} {g : yM} {w : Int} (hY : yCl zpD211 (zpZ, zpRS, zpP12, zpMT, [yC_ICX, yC_FS, yC_PAT], (5, 134), 3) K Y) (hq0 : 0 ≤ g 90 22 ∧ g 90 22 ≤ 40) (hq1 : 0 ≤ w ∧ w < 40) (hK : ∀ v : Int, yBt (yPt g (Int.toNat w)) (Int.toNat (g 90 22)) v → K [(2, v)] g) : ∀ (n : Nat) (i : Int), i + n = g 90 22 → 0 ≤ i → ∀ u : Int, yBt (yPt g (Int.toNat w)) (Int.toNat i) u → Y 21 [(3, 90), (1, w), (2, u), (0, 0), (1, i)] [] g := by
  intro n
  induction n with
  | zero =>
    intro i hd h0 u hu
    refine yrun_ok (sp := fun pc => Nat.beq pc 21) hY 19 21 _ [] g ?_
    show (((g 90 22) ≤ i → (K [(2, u)] g)) ∧ (¬ ((g 90 22) ≤ i) → (∃ (a2 b3 : Int), [(3, 90), (1, w), (1, i)] = [(3, 90), (1, a2), (1, b3)] ∧ (0 ≤ a2 ∧ a2 < 40) ∧ (0 ≤ b3 ∧ b3 < 40) ∧ (∀ (r4 : Int), ((r4 = 1 ∧ yPt g (Int.toNat a2) (Int.toNat b3)) ∨ (r4 = 0 ∧ ¬ yPt g (Int.toNat a2) (Int.toNat b3))) → ((r4 = 0 → (Y 21 [(3, 90), (1, w), (2, (ybl (fun x y => x ||| y) u 0)), (0, 0), (1, (yw (i + 1)))] [] g)) ∧ (¬ (r4 = 0) → (Y 21 [(3, 90), (1, w), (2, (ybl (fun x y => x ||| y) u (ysh (fun x y => x <<< (y.toInt64 &&& 63)) 1 i))), (0, 0), (1, (yw (i + 1)))] [] g)))))))
    refine ⟨fun h1 => ?_, fun h1 => ?_⟩
    · obtain rfl : i = g 90 22 := by omega
      exact hK u hu
    · refine ⟨_, _, rfl, (by omega), (by omega), ?_⟩
      intro r4 p50
      refine ⟨fun h6 => ?_, fun h6 => ?_⟩
      · omega
      · omega
  | succ n ih =>
    intro i hd h0 u hu
    refine yrun_ok (sp := fun pc => Nat.beq pc 21) hY 19 21 _ [] g ?_
    show (((g 90 22) ≤ i → (K [(2, u)] g)) ∧ (¬ ((g 90 22) ≤ i) → (∃ (a2 b3 : Int), [(3, 90), (1, w), (1, i)] = [(3, 90), (1, a2), (1, b3)] ∧ (0 ≤ a2 ∧ a2 < 40) ∧ (0 ≤ b3 ∧ b3 < 40) ∧ (∀ (r4 : Int), ((r4 = 1 ∧ yPt g (Int.toNat a2) (Int.toNat b3)) ∨ (r4 = 0 ∧ ¬ yPt g (Int.toNat a2) (Int.toNat b3))) → ((r4 = 0 → (Y 21 [(3, 90), (1, w), (2, (ybl (fun x y => x ||| y) u 0)), (0, 0), (1, (yw (i + 1)))] [] g)) ∧ (¬ (r4 = 0) → (Y 21 [(3, 90), (1, w), (2, (ybl (fun x y => x ||| y) u (ysh (fun x y => x <<< (y.toInt64 &&& 63)) 1 i))), (0, 0), (1, (yw (i + 1)))] [] g)))))))
    refine ⟨fun h1 => ?_, fun h1 => ?_⟩
    · omega
    · refine ⟨_, _, rfl, (by omega), (by omega), ?_⟩
      intro r4 p50
      refine ⟨fun h6 => ?_, fun h6 => ?_⟩
      · rcases p50 with ⟨q1, q2⟩ | ⟨q1, q2⟩
        · omega
        · have yi : yw (i + 1) = i + 1 := yw_s (i + 1) (by omega) (by omega)
          rw [yi]
          refine ih (i + 1) (by omega) (by omega) _ ?_
          rw [show Int.toNat (i + 1) = Int.toNat i + 1 by omega]
          exact yBt_00 hu q2
      · rcases p50 with ⟨q1, q2⟩ | ⟨q1, q2⟩
        · have yi : yw (i + 1) = i + 1 := yw_s (i + 1) (by omega) (by omega)
          rw [yi]
          refine ih (i + 1) (by omega) (by omega) _ ?_
          rw [show Int.toNat (i + 1) = Int.toNat i + 1 by omega]
          have h9 := yBt_1 hu q2
          rw [show ((Int.toNat i : Nat) : Int) = i by omega] at h9
          exact h9
        · omega
set_option maxRecDepth 8000 in
theorem yv_MWH {K : List yV → yM → Prop} {Y : yNx} {g : yM} {w : Int} (hY : yCl zpD211 (zpZ, zpRS, zpP12, zpMT, [yC_ICX, yC_FS, yC_PAT], (5, 134), 3) K Y) (hr_w : -2147483648 ≤ w ∧ w ≤ 2147483647) (hp0 : yTy zpZ g) (hp1 : 0 ≤ g 90 22 ∧ g 90 22 ≤ 40) (hp2 : 0 ≤ g 90 6 ∧ g 90 6 ≤ 12) (hp3 : ∀ n : Nat, (n : Int) < g 90 22 → (0 ≤ g 104 n ∧ g 104 n ≤ 5) ∧ g 102 n ≤ 719) (hK : ∀ (r : Int) (g' : yM), (¬ (0 ≤ w ∧ w < g 90 22) → r = -1 ∧ g' = g) → ((0 ≤ w ∧ w < g 90 22) → yFd g g' ∧ yBt (yPt g' (Int.toNat w)) (Int.toNat (g' 90 22)) r) → K [(2, r)] g') : Y 0 [(3, 90), (1, w), (0, 0), (0, 0), (0, 0)] [] g := by
  refine yrun_ok (sp := fun pc => Nat.beq pc 21) hY 11 0 _ [] g ?_
  show (∃ (w1 : Int), [(3, 90), (1, w)] = [(3, 90), (1, w1)] ∧ (0 ≤ g 90 22 ∧ g 90 22 ≤ 40) ∧ (∀ (r2 : Int), ((r2 = 1 ∧ 0 ≤ w1 ∧ w1 < g 90 22) ∨ (r2 = 0 ∧ (w1 < 0 ∨ g 90 22 ≤ w1))) → ((r2 ≠ 0 → ([(3, 90)] = [(3, 90)] ∧ (yTy zpZ g) ∧ (0 ≤ g 90 22 ∧ g 90 22 ≤ 40) ∧ (0 ≤ g 90 6 ∧ g 90 6 ≤ 12) ∧ (∀ n : Nat, (n : Int) < g 90 22 → (0 ≤ g 104 n ∧ g 104 n ≤ 5) ∧ g 102 n ≤ 719) ∧ (∀ (g5 : yM), (yFd g g5) → (Y 21 [(3, 90), (1, w), (2, 0), (0, 0), (1, 0)] [] g5)))) ∧ (¬ (r2 ≠ 0) → (K [(2, (-1))] g)))))
  refine ⟨_, rfl, (by omega), ?_⟩
  intro r2 p30
  refine ⟨fun h4 => ?_, fun h4 => ?_⟩
  · refine ⟨rfl, (hp0), (by omega), (by omega), (hp3), ?_⟩
    intro g5 p60
    have hc := p60.c hp1 hp3
    exact yl_MWH (g := g5) hY hc.1 ⟨by omega, by omega⟩ (fun v hv => hK v _ (fun h => absurd (by omega) h) (fun _ => ⟨p60, hv⟩)) (Int.toNat (g5 90 22)) 0 (by omega) (by decide) 0 rfl
  · exact hK _ _ (fun _ => ⟨rfl, rfl⟩) (fun h => absurd h (by omega))
theorem yM_MWH {l : Launch} {Ts : List Cond} {cl : List vw_C} {RO : zRO} (H : zHyp Ts cl RO) : yMet l Ts cl zpZ RO zpMT yC_MWH := ymet_of2 H.1 H.2.1 zpDj H.2.2.1 yRb H.p12 (ymets_cons (yM_ICX H) (ymets_cons (yM_FS H) (ymets_cons (yM_PAT H) ymets_nil))) (zrc3 rfl) (plainFor_of_name zpy12) zpDk211 (fun as g K Y h hA hY => by
  obtain ⟨w, rfl, hp0, hp1, hp2, hp3, hK⟩ := h
  exact yv_MWH hY (yAr1 hA (by simp)) hp0 hp1 hp2 hp3 hK)
