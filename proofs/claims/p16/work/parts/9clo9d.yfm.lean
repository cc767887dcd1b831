/-! THE FEWEST: THE REFERENCE, ONE LEVEL AFTER THE OTHER -/
/-- halves -/
theorem yH2 {i : Int} (h : 0 ≤ i ∧ i < 12) : yb (fun x y => x / y) i 2 = ((Int.toNat i / 2 : Nat) : Int) ∧ yb (fun x y => x - x / y * y) i 2 = ((Int.toNat i % 2 : Nat) : Int) := by
  have key : ∀ n : Fin 12, yb (fun x y => x / y) ((n.val : Nat) : Int) 2 = ((n.val / 2 : Nat) : Int) ∧ yb (fun x y => x - x / y * y) ((n.val : Nat) : Int) 2 = ((n.val % 2 : Nat) : Int) := by decide +kernel
  have k1 : yb (fun x y => x / y) ((Int.toNat i : Nat) : Int) 2 = ((Int.toNat i / 2 : Nat) : Int) ∧ yb (fun x y => x - x / y * y) ((Int.toNat i : Nat) : Int) 2 = ((Int.toNat i % 2 : Nat) : Int) := key ⟨Int.toNat i, by omega⟩
  have e : ((Int.toNat i : Nat) : Int) = i := by omega
  rw [e] at k1
  exact k1
/-- who came in later, of those that are chosen -/
def yLb (g : yM) (p q : Nat) : Bool := (g 101 p == g 101 q) && (((g 90 11 == 0) || (g 107 p == g 107 q)) && decide (yw (g 91 q + g 91 52) < yw (g 91 p - g 91 52)))
theorem yLb_i {g : yM} {p q : Nat} : yLb g p q = true ↔ yLa g p q := by
  unfold yLb yLa
  rw [Bool.and_eq_true, Bool.and_eq_true, Bool.or_eq_true, beq_iff_eq, beq_iff_eq, beq_iff_eq, decide_eq_true_iff]
def yAm (g : yM) (j : Nat) : Nat := Int.toNat (g 112 j)
def yFlc (g : yM) (p q : Nat) : Bool := yLb g (yAm g p) (yAm g q)
/-- a start that is tried: within the span, an end of some span -/
def yAe (g : yM) (j : Nat) (v : Int) : Prop := (g 110 (yAm g j) ≤ v ∧ v ≤ yMl g (yAm g j)) ∧ ∃ i : Nat, (i : Int) < g 90 36 ∧ (v = g 110 (yAm g i) ∨ v = yMl g (yAm g i))
def yCo (g : yM) (k : Int) (s : Nat → Int) : Prop := (∀ j : Nat, (j : Int) < k → s j = g 113 j) ∧ ∀ j : Nat, k ≤ j → (j : Int) < g 90 36 → yAe g j (s j)
def yFcs (g : yM) (s : Nat → Int) : Int := yCw (yFlc g) s (yDnL (Int.toNat (g 90 36)))
def yFgd (g : yM) : Prop := (0 < g 90 36 ∧ g 90 36 ≤ 6) ∧ ∀ j : Nat, (j : Int) < g 90 36 → (0 ≤ g 112 j ∧ g 112 j < 40) ∧ (0 ≤ g 104 (yAm g j) ∧ g 104 (yAm g j) ≤ 5)
def yFk (k : Int) (g m : yM) : Prop := ∀ a b : Nat, ¬ (a = 113 ∧ k ≤ b) → ¬ (a = 90 ∧ b = 37) → m a b = g a b
def yFz (g m : yM) : Prop := ∀ a b : Nat, a ≠ 113 → ¬ (a = 90 ∧ b = 37) → m a b = g a b
theorem yFk.z {k : Int} {g m : yM} (h : yFk k g m) : yFz g m := fun a b h1 h2 => h a b (fun z => h1 z.1) h2
theorem yFk.rf {k : Int} {g : yM} : yFk k g g := fun _ _ _ _ => rfl
theorem yFk.lo {k : Int} {g m : yM} (h : yFk k g m) {j : Nat} (hj : (j : Int) < k) : m 113 j = g 113 j := h 113 j (by omega) (by omega)
theorem yFk.tr {k l : Int} {g m n : yM} (h1 : yFk k g m) (h2 : yFk l m n) (h : k ≤ l) : yFk k g n := fun a b c1 c2 => (h2 a b (fun z => c1 ⟨z.1, by omega⟩) c2).trans (h1 a b c1 c2)
theorem yFk.put {k : Int} {g m : yM} (h : yFk k g m) (hk : 0 ≤ k) {v : Int} : yFk k g (yset m 113 (Int.toNat k) v) := fun a b c1 c2 => (yset_ne (by omega)).trans (h a b c1 c2)
theorem yFz.mn {g m : yM} (h : yFz g m) : m 90 36 = g 90 36 := h 90 36 (by decide) (by decide)
theorem yFz.ea {g m : yM} (h : yFz g m) (x : Nat) : m 110 x = g 110 x := h 110 x (by decide) (by omega)
theorem yFz.ml {g m : yM} (h : yFz g m) (c : Nat) : yMl m c = yMl g c := by
  have e1 : ∀ x, m 91 x = g 91 x := fun x => h 91 x (by decide) (by omega)
  unfold yMl
  rw [h 102 c (by decide) (by omega), h 104 c (by decide) (by omega), e1]
theorem yFz.am {g m : yM} (h : yFz g m) (j : Nat) : yAm m j = yAm g j := by
  unfold yAm
  rw [h 112 j (by decide) (by omega)]
theorem yFz.lb {g m : yM} (h : yFz g m) (p q : Nat) : yLb m p q = yLb g p q := by
  have e1 : ∀ x, m 101 x = g 101 x := fun x => h 101 x (by decide) (by omega)
  have e2 : m 90 11 = g 90 11 := h 90 11 (by decide) (by decide)
  have e3 : ∀ x, m 107 x = g 107 x := fun x => h 107 x (by decide) (by omega)
  have e4 : ∀ x, m 91 x = g 91 x := fun x => h 91 x (by decide) (by omega)
  unfold yLb
  rw [e1, e1, e2, e3, e3, e4, e4, e4]
theorem yFz.lc {g m : yM} (h : yFz g m) : yFlc m = yFlc g := funext fun p => funext fun q => by
  unfold yFlc
  rw [h.am, h.am, h.lb]
theorem yFz.ae {g m : yM} (h : yFz g m) {j : Nat} {v : Int} : yAe m j v ↔ yAe g j v := by
  unfold yAe
  simp only [h.am, h.ea, h.ml, h.mn]
theorem yFz.cs {g m : yM} (h : yFz g m) (s : Nat → Int) : yFcs m s = yFcs g s := by
  unfold yFcs
  rw [h.lc, h.mn]
theorem yFz.gd {g m : yM} (h : yFz g m) (hG : yFgd g) : yFgd m := by
  refine ⟨by rw [h.mn]; exact hG.1, fun j hj => ?_⟩
  rw [h.mn] at hj
  rw [h.am, h 112 j (by decide) (by omega), h 104 (yAm g j) (by decide) (by omega)]
  exact hG.2 j hj
theorem yDnL_m {x : Nat} : ∀ {n : Nat}, x ∈ yDnL n → x < n
  | 0, h => by
    have h : x ∈ ([] : List Nat) := h
    cases h
  | n + 1, h => by
    have h : x ∈ n :: yDnL n := h
    rcases List.mem_cons.mp h with h | h
    · omega
    · have := yDnL_m h
      omega
theorem yDnL_l : ∀ n : Nat, (yDnL n).length = n
  | 0 => rfl
  | n + 1 => by
    show (yDnL n).length + 1 = n + 1
    rw [yDnL_l n]
theorem yDw_2 {c : Nat → Nat → Bool} {s : Nat → Int} {x : Nat} : ∀ l : List Nat, yDw c s x l ≤ 2 * (l.length : Int)
  | [] => Int.le_refl _
  | y :: r => by
    have ih := @yDw_2 c s x r
    have h1 := yPw_b c s x y
    have h2 := yPw_b c s y x
    simp only [yDw, List.length_cons]
    omega
theorem yDw_nb {c : Nat → Nat → Bool} {s : Nat → Int} {x n : Nat} : 0 ≤ yDw c s x (yDnL n) ∧ yDw c s x (yDnL n) ≤ 2 * n := by
  have h1 := @yDw_0 c s x (yDnL n)
  have h2 := @yDw_2 c s x (yDnL n)
  rw [yDnL_l] at h2
  exact ⟨h1, h2⟩
theorem yCw_up {c : Nat → Nat → Bool} {s : Nat → Int} {k : Nat} : ∀ n : Nat, k ≤ n → yCw c s (yDnL k) ≤ yCw c s (yDnL n)
  | 0, h => by
    rw [show k = 0 by omega]
    exact Int.le_refl _
  | n + 1, h => by
    by_cases e : k = n + 1
    · rw [e]
      exact Int.le_refl _
    · have ih := yCw_up (c := c) (s := s) (k := k) n (by omega)
      have h0 := @yDw_0 c s n (yDnL n)
      show yCw c s (yDnL k) ≤ yDw c s n (yDnL n) + yCw c s (yDnL n)
      omega
theorem yCw_nx {g m : yM} {k p n : Int} (z : yFz g m) (h113 : ∀ j : Nat, (j : Int) < k → m 113 j = g 113 j) (hk : 0 ≤ k) (hp : p = yCw (yFlc g) (g 113) (yDnL (Int.toNat k))) (hn : n = p + yDw (yFlc m) (m 113) (Int.toNat k) (yDnL (Int.toNat k))) : n = yCw (yFlc m) (m 113) (yDnL (Int.toNat (k + 1))) := by
  have e := yCw_c (c := yFlc g) (s := g 113) (t := m 113) (yDnL (Int.toNat k)) (fun y hy => (h113 y (by have := yDnL_m hy; omega)).symm)
  have e2 := z.lc
  rw [show Int.toNat (k + 1) = Int.toNat k + 1 by omega]
  show n = yDw (yFlc m) (m 113) (Int.toNat k) (yDnL (Int.toNat k)) + yCw (yFlc m) (m 113) (yDnL (Int.toNat k))
  rw [hn, hp, e, e2]
  omega
theorem yCo.lo {g : yM} {k : Int} {s : Nat → Int} (h : yCo g k s) (hk : 0 ≤ k ∧ k ≤ g 90 36) : yCw (yFlc g) (g 113) (yDnL (Int.toNat k)) ≤ yFcs g s := by
  have e := yCw_c (c := yFlc g) (s := g 113) (t := s) (yDnL (Int.toNat k)) (fun y hy => (h.1 y (by have := yDnL_m hy; omega)).symm)
  rw [e]
  exact yCw_up _ (by omega)
theorem yDs {g : yM} {s : Nat → Int} {k j : Nat} {z : Int} (h : (z = 1 ∧ ((yLa g (yAm g k) (yAm g j) ∧ s k < s j) ∨ (yLa g (yAm g j) (yAm g k) ∧ s j < s k))) ∨ (z = 0 ∧ ¬ (yLa g (yAm g k) (yAm g j) ∧ s k < s j) ∧ ¬ (yLa g (yAm g j) (yAm g k) ∧ s j < s k))) : yDw (yFlc g) s k (yDnL (j + 1)) = z + yDw (yFlc g) s k (yDnL j) := by
  have i1 : yFlc g k j = true ↔ yLa g (yAm g k) (yAm g j) := yLb_i
  have i2 : yFlc g j k = true ↔ yLa g (yAm g j) (yAm g k) := yLb_i
  show (yPw (yFlc g) s k j + yPw (yFlc g) s j k) + yDw (yFlc g) s k (yDnL j) = z + yDw (yFlc g) s k (yDnL j)
  have e : yPw (yFlc g) s k j + yPw (yFlc g) s j k = z := by
    unfold yPw
    rw [i1, i2]
    rcases h with ⟨h1, h2 | h2⟩ | ⟨h1, h2, h3⟩
    · rw [if_pos h2, if_neg (fun y => by have a := y.2; have b := h2.2; omega), h1]
      rfl
    · rw [if_neg (fun y => by have a := y.2; have b := h2.2; omega), if_pos h2, h1]
      rfl
    · rw [if_neg h2, if_neg h3, h1]
      rfl
  rw [e]
def yVi (g : yM) (i : Nat) : Int := if i % 2 = 0 then g 110 (yAm g (i / 2)) else yMl g (yAm g (i / 2))
theorem yVi_e {g : yM} {j : Nat} : yVi g (2 * j) = g 110 (yAm g j) := by
  unfold yVi
  rw [if_pos (by omega), show 2 * j / 2 = j by omega]
theorem yVi_o {g : yM} {j : Nat} : yVi g (2 * j + 1) = yMl g (yAm g j) := by
  unfold yVi
  rw [if_neg (by omega), show (2 * j + 1) / 2 = j by omega]
theorem yVi_a {g : yM} {k i : Nat} (hi : (i : Int) < 2 * g 90 36) (h : g 110 (yAm g k) ≤ yVi g i ∧ yVi g i ≤ yMl g (yAm g k)) : yAe g k (yVi g i) := by
  refine ⟨h, i / 2, by omega, ?_⟩
  unfold yVi
  by_cases c : i % 2 = 0
  · rw [if_pos c]
    exact Or.inl rfl
  · rw [if_neg c]
    exact Or.inr rfl
/-- what is found: the least of those that P holds of, no more than it was -/
def yFrs (g m : yM) (P : (Nat → Int) → Prop) : Prop := (0 ≤ m 90 37 ∧ m 90 37 ≤ g 90 37) ∧ (∀ s : Nat → Int, P s → m 90 37 ≤ yFcs g s) ∧ (m 90 37 = g 90 37 ∨ ∃ s : Nat → Int, P s ∧ m 90 37 = yFcs g s)
theorem yFrs.iff {g m : yM} {P Q : (Nat → Int) → Prop} (h : yFrs g m P) (e : ∀ s, P s ↔ Q s) : yFrs g m Q := ⟨h.1, fun s hs => h.2.1 s ((e s).mpr hs), h.2.2.imp id (fun ⟨s, s1, s2⟩ => ⟨s, (e s).mp s1, s2⟩)⟩
/-- the first i are tried -/
def yPi (g : yM) (k : Int) (i : Nat) (s : Nat → Int) : Prop := yCo g k s ∧ ∃ j : Nat, j < i ∧ s (Int.toNat k) = yVi g j
theorem yFrs.z {g : yM} {k : Int} (h : 0 ≤ g 90 37) : yFrs g g (yPi g k 0) := ⟨⟨h, Int.le_refl _⟩, fun s ⟨_, j, hj, _⟩ => absurd hj (Nat.not_lt_zero j), Or.inl rfl⟩
theorem yFrs.al {g m : yM} {k : Int} (hk : 0 ≤ k ∧ k < g 90 36) (h : yFrs g m (yPi g k (Int.toNat (2 * g 90 36)))) : yFrs g m (yCo g k) := h.iff fun s => ⟨fun z => z.1, fun z => ⟨z, by
  obtain ⟨-, i, i1, i2⟩ := z.2 (Int.toNat k) (by omega) (by omega)
  rcases i2 with i2 | i2
  · exact ⟨2 * i, by omega, i2.trans yVi_e.symm⟩
  · exact ⟨2 * i + 1, by omega, i2.trans yVi_o.symm⟩⟩⟩
theorem yFrs.sk {g m : yM} {k : Int} {i : Nat} (hk : 0 ≤ k ∧ k < g 90 36) (h : yFrs g m (yPi g k i)) (hn : ¬ (g 110 (yAm g (Int.toNat k)) ≤ yVi g i ∧ yVi g i ≤ yMl g (yAm g (Int.toNat k)))) : yFrs g m (yPi g k (i + 1)) := h.iff fun s => ⟨fun ⟨z1, j, z2, z3⟩ => ⟨z1, j, by omega, z3⟩, fun ⟨z1, j, z2, z3⟩ => ⟨z1, j, by
  by_cases c : j = i
  · rw [c] at z3
    have z4 := (z1.2 (Int.toNat k) (by omega) (by omega)).1
    rw [z3] at z4
    exact absurd z4 hn
  · omega, z3⟩⟩
theorem yCo.up {g m : yM} {k v : Int} (z : yFz g m) (hk : 0 ≤ k ∧ k < g 90 36) (h113 : ∀ j : Nat, (j : Int) < k → m 113 j = g 113 j) (hv : m 113 (Int.toNat k) = v) (ha : yAe g (Int.toNat k) v) {s : Nat → Int} : yCo m (k + 1) s ↔ (yCo g k s ∧ s (Int.toNat k) = v) := by
  constructor
  · intro h
    have hs : s (Int.toNat k) = v := (h.1 (Int.toNat k) (by omega)).trans hv
    refine ⟨⟨fun j hj => (h.1 j (by omega)).trans (h113 j hj), fun j h1 h2 => ?_⟩, hs⟩
    by_cases c : j = Int.toNat k
    · rw [c, hs]
      exact ha
    · exact z.ae.mp (h.2 j (by omega) (by rw [z.mn]; exact h2))
  · intro ⟨h, hs⟩
    refine ⟨fun j hj => ?_, fun j h1 h2 => z.ae.mpr (h.2 j (by omega) (by rw [z.mn] at h2; exact h2))⟩
    by_cases c : j = Int.toNat k
    · rw [c, hs, hv]
    · rw [h.1 j (by omega), h113 j (by omega)]
theorem yFrs.tk {g m n : yM} {k : Int} {i : Nat} (hk : 0 ≤ k ∧ k < g 90 36) (hi : (i : Int) < 2 * g 90 36) (f : yFk k g m) (h : yFrs g m (yPi g k i)) (hr : g 110 (yAm g (Int.toNat k)) ≤ yVi g i ∧ yVi g i ≤ yMl g (yAm g (Int.toNat k))) (t : yFrs (yset m 113 (Int.toNat k) (yVi g i)) n (yCo (yset m 113 (Int.toNat k) (yVi g i)) (k + 1))) : yFrs g n (yPi g k (i + 1)) := by
  have z : yFz g (yset m 113 (Int.toNat k) (yVi g i)) := (f.put hk.1).z
  have h113 : ∀ j : Nat, (j : Int) < k → (yset m 113 (Int.toNat k) (yVi g i)) 113 j = g 113 j := fun j hj => (f.put hk.1).lo hj
  have up : ∀ s : Nat → Int, yCo (yset m 113 (Int.toNat k) (yVi g i)) (k + 1) s ↔ (yCo g k s ∧ s (Int.toNat k) = yVi g i) := fun s => yCo.up z hk h113 yset_eq (yVi_a hi hr)
  have e37 : (yset m 113 (Int.toNat k) (yVi g i)) 90 37 = m 90 37 := yset_nc (by decide)
  obtain ⟨t1, t2, t3⟩ := t
  rw [e37] at t1 t3
  obtain ⟨h1, h2, h3⟩ := h
  refine ⟨by omega, fun s ⟨s1, j, s2, s3⟩ => ?_, ?_⟩
  · by_cases c : j = i
    · rw [c] at s3
      have q := t2 s ((up s).mpr ⟨s1, s3⟩)
      rw [z.cs] at q
      exact q
    · have q := h2 s ⟨s1, j, by omega, s3⟩
      omega
  · rcases t3 with t3 | ⟨s, s1, s2⟩
    · rw [t3]
      exact h3.imp id (fun ⟨s, ⟨s1, j, s2, s3⟩, s4⟩ => ⟨s, ⟨s1, j, by omega, s3⟩, s4⟩)
    · rw [z.cs] at s2
      have q := (up s).mp s1
      exact Or.inr ⟨s, ⟨q.1, i, Nat.lt_succ_self i, q.2⟩, s2⟩
theorem yFrs.no {g : yM} {k p : Int} (hk : 0 ≤ k ∧ k ≤ g 90 36) (hp : p = yCw (yFlc g) (g 113) (yDnL (Int.toNat k))) (h0 : 0 ≤ g 90 37) (h : g 90 37 ≤ p) : yFrs g g (yCo g k) := ⟨⟨h0, Int.le_refl _⟩, fun s hs => by have := hs.lo hk; omega, Or.inl rfl⟩
theorem yFrs.on {g : yM} {k p : Int} (hk : k = g 90 36) (h6 : 0 ≤ k) (hp : p = yCw (yFlc g) (g 113) (yDnL (Int.toNat k))) (h0 : 0 ≤ p) (h : p < g 90 37) : yFrs g (yset g 90 37 p) (yCo g k) := by
  refine ⟨by rw [yset_eq]; omega, fun s hs => ?_, Or.inr ⟨g 113, ⟨fun _ _ => rfl, fun j h1 h2 => absurd h2 (by omega)⟩, ?_⟩⟩
  · rw [yset_eq]
    have := hs.lo ⟨h6, by omega⟩
    omega
  · rw [yset_eq, hp, hk]
    rfl
def yP_CF0 : yPT := fun as g K => ∃ (k p : Int), as = [(3, 90), (1, k), (1, p)] ∧ (yTy zpZ g) ∧ (yFgd g) ∧ ((0 ≤ k ∧ k ≤ g 90 36) ∧ g 90 36 - k ≤ 0) ∧ (p = yCw (yFlc g) (g 113) (yDnL (Int.toNat k)) ∧ 0 ≤ p ∧ p ≤ 12 * k) ∧ (0 ≤ g 90 37 ∧ g 90 37 ≤ 99) ∧ (∀ (g' : yM), (yTy zpZ g') → (yFk k g g') → (yFrs g g' (yCo g k)) → K [] g')
def yC_CF0 : yC := (146, (2, 62), yP_CF0)
set_option maxRecDepth 8000 in
theorem yv_CF0 {K : List yV → yM → Prop} {Y : yNx} {g : yM} {k p : Int} (hY : yCl zpD146 (zpZ, zpRS, zpP12, zpMT, [yC_LTO, yC_ILT], (2, 62), 0) K Y) (hr_k : -2147483648 ≤ k ∧ k ≤ 2147483647) (hr_p : -2147483648 ≤ p ∧ p ≤ 2147483647) (hp0 : yTy zpZ g) (hp1 : yFgd g) (hp2 : (0 ≤ k ∧ k ≤ g 90 36) ∧ g 90 36 - k ≤ 0) (hp3 : p = yCw (yFlc g) (g 113) (yDnL (Int.toNat k)) ∧ 0 ≤ p ∧ p ≤ 12 * k) (hp4 : 0 ≤ g 90 37 ∧ g 90 37 ≤ 99) (hK : ∀ (g' : yM), (yTy zpZ g') → (yFk k g g') → (yFrs g g' (yCo g k)) → K [] g') : Y 0 [(3, 90), (1, k), (1, p), (0, 0), (0, 0), (0, 0), (0, 0), (0, 0)] [] g := by
  have h36 := hp1.1
  refine yrun_ok (sp := fun pc => Nat.beq pc 33) hY 16 0 _ [] g ?_
  show ((p < (g 90 37) → ((k ≠ (g 90 36) → (((0 : Int) ≤ k ∧ k < ((6 : Nat) : Int)) ∧ (Y 33 [(3, 90), (1, k), (1, p), (1, (g 112 (Int.toNat k))), (1, 0), (0, 0), (0, 0), (0, 0)] [] g))) ∧ (¬ (k ≠ (g 90 36)) → (K [] (yset g 90 37 p))))) ∧ (¬ (p < (g 90 37)) → (K [] g)))
  refine ⟨fun h1 => ?_, fun h1 => ?_⟩
  · refine ⟨fun h2 => ?_, fun h2 => ?_⟩
    · refine ⟨(by omega), ?_⟩
      omega
    · exact hK _ (hp0.sO (List.mem_of_getElem? (i := 42) rfl) rfl (by decide +kernel) ⟨by omega, by omega⟩) (fun a b c1 c2 => yset_ne (by omega)) (yFrs.on (by omega) hp2.1.1 hp3.1 hp3.2.1 (by omega))
  · exact hK g hp0 yFk.rf (yFrs.no hp2.1 hp3.1 hp4.1 (by omega))
theorem yM_CF0 {l : Launch} {Ts : List Cond} {cl : List vw_C} {RO : zRO} (H : zHyp Ts cl RO) : yMet l Ts cl zpZ RO zpMT yC_CF0 := ymet_of2 H.1 H.2.1 zpDj H.2.2.1 yRb H.p12 (ymets_cons (yM_LTO H) (ymets_cons (yM_ILT H) ymets_nil)) (zrc0 rfl) (plainFor_of_name zpy12) zpDk146 (fun as g K Y h hA hY => by
  obtain ⟨k, p, rfl, hp0, hp1, hp2, hp3, hp4, hK⟩ := h
  exact yv_CF0 hY (yAr1 hA (by simp)) (yAr1 hA (by simp)) hp0 hp1 hp2 hp3 hp4 hK)
def yP_CF1 : yPT := fun as g K => ∃ (k p : Int), as = [(3, 90), (1, k), (1, p)] ∧ (yTy zpZ g) ∧ (yFgd g) ∧ ((0 ≤ k ∧ k ≤ g 90 36) ∧ g 90 36 - k ≤ 1) ∧ (p = yCw (yFlc g) (g 113) (yDnL (Int.toNat k)) ∧ 0 ≤ p ∧ p ≤ 12 * k) ∧ (0 ≤ g 90 37 ∧ g 90 37 ≤ 99) ∧ (∀ (g' : yM), (yTy zpZ g') → (yFk k g g') → (yFrs g g' (yCo g k)) → K [] g')
def yC_CF1 : yC := (146, (3, 89), yP_CF1)
set_option maxRecDepth 8000 in
theorem yt_CF1 {K : List yV → yM → Prop} {Y : yNx} {g : yM} {k p c i v n j : Int} (hY : yCl zpD146 (zpZ, zpRS, zpP12, zpMT, [yC_LTO, yC_ILT, yC_CF0], (3, 89), 0) K Y) (hT : yTy zpZ g) (hG : yFgd g) (hk : (0 ≤ k ∧ k < g 90 36) ∧ g 90 36 - k ≤ 1) (hn : n = yCw (yFlc g) (g 113) (yDnL (Int.toNat (k + 1))) ∧ 0 ≤ n ∧ n ≤ 12 * (k + 1)) (hF : 0 ≤ g 90 37 ∧ g 90 37 ≤ 99) (hi : 0 ≤ i ∧ i < 12) (hE : ∀ g3 : yM, yTy zpZ g3 → yFk (k + 1) g g3 → yFrs g g3 (yCo g (k + 1)) → Y 33 [(3, 90), (1, k), (1, p), (1, c), (1, i + 1), (1, v), (1, n), (1, j)] [] g3) : Y 197 [(3, 90), (1, k), (1, p), (1, c), (1, i), (1, v), (1, n), (1, j)] [] g := by
  have h36 := hG.1
  have yk : yw (k + 1) = k + 1 := yw_s (k + 1) (by omega) (by omega)
  have yi : yw (i + 1) = i + 1 := yw_s (i + 1) (by omega) (by omega)
  refine yrun_ok (sp := fun pc => Nat.beq pc 33) hY 9 197 _ [] g ?_
  show (∃ (k1 p2 : Int), [(3, 90), (1, (yw (k + 1))), (1, n)] = [(3, 90), (1, k1), (1, p2)] ∧ (yTy zpZ g) ∧ (yFgd g) ∧ ((0 ≤ k1 ∧ k1 ≤ g 90 36) ∧ g 90 36 - k1 ≤ 0) ∧ (p2 = yCw (yFlc g) (g 113) (yDnL (Int.toNat k1)) ∧ 0 ≤ p2 ∧ p2 ≤ 12 * k1) ∧ (0 ≤ g 90 37 ∧ g 90 37 ≤ 99) ∧ (∀ (g3 : yM), (yTy zpZ g3) → (yFk k1 g g3) → (yFrs g g3 (yCo g k1)) → (Y 33 [(3, 90), (1, k), (1, p), (1, c), (1, (yw (i + 1))), (1, v), (1, n), (1, j)] [] g3)))
  refine ⟨_, _, rfl, (hT), (hG), (by omega), (by rw [yk]; exact hn), (by omega), ?_⟩
  intro g3 p40 p41 p42
  rw [yk] at p41 p42
  rw [yi]
  exact hE _ p40 p41 p42
set_option maxRecDepth 8000 in
theorem yj_CF1 {K : List yV → yM → Prop} {Y : yNx} {g : yM} {k p c i v : Int} (hY : yCl zpD146 (zpZ, zpRS, zpP12, zpMT, [yC_LTO, yC_ILT, yC_CF0], (3, 89), 0) K Y) (hG : yFgd g) (hk : 0 ≤ k ∧ k < g 90 36) (hc : c = g 112 (Int.toNat k)) (hv : g 113 (Int.toNat k) = v) (hp : 0 ≤ p ∧ p ≤ 12 * k) (hE : ∀ n : Int, n = p + yDw (yFlc g) (g 113) (Int.toNat k) (yDnL (Int.toNat k)) → Y 197 [(3, 90), (1, k), (1, p), (1, c), (1, i), (1, v), (1, n), (1, k)] [] g) : ∀ (d : Nat) (j : Int), j + d = k → 0 ≤ j → ∀ n : Int, n = p + yDw (yFlc g) (g 113) (Int.toNat k) (yDnL (Int.toNat j)) → Y 121 [(3, 90), (1, k), (1, p), (1, c), (1, i), (1, v), (1, n), (1, j)] [] g := by
  have h36 := hG.1
  have gk := (hG.2 (Int.toNat k) (by omega)).1
  have ek : yAm g (Int.toNat k) = Int.toNat c := by rw [hc]; rfl
  intro d
  induction d with
  | zero =>
    intro j hd h0 n hn
    refine yrun_ok (sp := fun pc => Nat.beq pc 121 || Nat.beq pc 197) hY 39 121 _ [] g ?_
    show ((k ≤ j → (Y 197 [(3, 90), (1, k), (1, p), (1, c), (1, i), (1, v), (1, n), (1, j)] [] g)) ∧ (¬ (k ≤ j) → (((0 : Int) ≤ j ∧ j < ((6 : Nat) : Int)) ∧ (∃ (a2 b3 : Int), [(3, 90), (1, c), (1, (g 112 (Int.toNat j)))] = [(3, 90), (1, a2), (1, b3)] ∧ (0 ≤ a2 ∧ a2 < 40) ∧ (0 ≤ b3 ∧ b3 < 40) ∧ (∀ (r4 : Int), ((r4 = 1 ∧ yLa g (Int.toNat a2) (Int.toNat b3)) ∨ (r4 = 0 ∧ ¬ yLa g (Int.toNat a2) (Int.toNat b3))) → ((r4 = 0 → (((0 : Int) ≤ j ∧ j < ((6 : Nat) : Int)) ∧ (∃ (a7 b8 : Int), [(3, 90), (1, (g 112 (Int.toNat j))), (1, c)] = [(3, 90), (1, a7), (1, b8)] ∧ (0 ≤ a7 ∧ a7 < 40) ∧ (0 ≤ b8 ∧ b8 < 40) ∧ (∀ (r9 : Int), ((r9 = 1 ∧ yLa g (Int.toNat a7) (Int.toNat b8)) ∨ (r9 = 0 ∧ ¬ yLa g (Int.toNat a7) (Int.toNat b8))) → ((r9 = 0 → (Y 121 [(3, 90), (1, k), (1, p), (1, c), (1, i), (1, v), (1, (yw (n + 0))), (1, (yw (j + 1)))] [] g)) ∧ (¬ (r9 = 0) → (((0 : Int) ≤ j ∧ j < ((6 : Nat) : Int)) ∧ ((v ≤ (g 113 (Int.toNat j)) → (Y 121 [(3, 90), (1, k), (1, p), (1, c), (1, i), (1, v), (1, (yw (n + 0))), (1, (yw (j + 1)))] [] g)) ∧ (¬ (v ≤ (g 113 (Int.toNat j))) → (Y 121 [(3, 90), (1, k), (1, p), (1, c), (1, i), (1, v), (1, (yw (n + 1))), (1, (yw (j + 1)))] [] g)))))))))) ∧ (¬ (r4 = 0) → (((0 : Int) ≤ j ∧ j < ((6 : Nat) : Int)) ∧ ((v < (g 113 (Int.toNat j)) → (Y 121 [(3, 90), (1, k), (1, p), (1, c), (1, i), (1, v), (1, (yw (n + 1))), (1, (yw (j + 1)))] [] g)) ∧ (¬ (v < (g 113 (Int.toNat j))) → (((0 : Int) ≤ j ∧ j < ((6 : Nat) : Int)) ∧ (∃ (a14 b15 : Int), [(3, 90), (1, (g 112 (Int.toNat j))), (1, c)] = [(3, 90), (1, a14), (1, b15)] ∧ (0 ≤ a14 ∧ a14 < 40) ∧ (0 ≤ b15 ∧ b15 < 40) ∧ (∀ (r16 : Int), ((r16 = 1 ∧ yLa g (Int.toNat a14) (Int.toNat b15)) ∨ (r16 = 0 ∧ ¬ yLa g (Int.toNat a14) (Int.toNat b15))) → ((r16 = 0 → (Y 121 [(3, 90), (1, k), (1, p), (1, c), (1, i), (1, v), (1, (yw (n + 0))), (1, (yw (j + 1)))] [] g)) ∧ (¬ (r16 = 0) → (((0 : Int) ≤ j ∧ j < ((6 : Nat) : Int)) ∧ ((v ≤ (g 113 (Int.toNat j)) → (Y 121 [(3, 90), (1, k), (1, p), (1, c), (1, i), (1, v), (1, (yw (n + 0))), (1, (yw (j + 1)))] [] g)) ∧ (¬ (v ≤ (g 113 (Int.toNat j))) → (Y 121 [(3, 90), (1, k), (1, p), (1, c), (1, i), (1, v), (1, (yw (n + 1))), (1, (yw (j + 1)))] [] g)))))))))))))))))))
    refine ⟨fun h1 => ?_, fun h1 => ?_⟩
    · obtain rfl : j = k := by omega
      exact hE n hn
    · refine ⟨(by omega), ?_⟩
      refine ⟨_, _, rfl, (by omega), (by omega), ?_⟩
      intro r4 p50
      refine ⟨fun h6 => ?_, fun h6 => ?_⟩
      · refine ⟨(by omega), ?_⟩
        refine ⟨_, _, rfl, (by omega), (by omega), ?_⟩
        intro r9 p100
        refine ⟨fun h11 => ?_, fun h11 => ?_⟩
        · omega
        · refine ⟨(by omega), ?_⟩
          refine ⟨fun h12 => ?_, fun h12 => ?_⟩
          · omega
          · omega
      · refine ⟨(by omega), ?_⟩
        refine ⟨fun h13 => ?_, fun h13 => ?_⟩
        · omega
        · refine ⟨(by omega), ?_⟩
          refine ⟨_, _, rfl, (by omega), (by omega), ?_⟩
          intro r16 p170
          refine ⟨fun h18 => ?_, fun h18 => ?_⟩
          · omega
          · refine ⟨(by omega), ?_⟩
            refine ⟨fun h19 => ?_, fun h19 => ?_⟩
            · omega
            · omega
  | succ d ih =>
    intro j hd h0 n hn
    refine yrun_ok (sp := fun pc => Nat.beq pc 121 || Nat.beq pc 197) hY 39 121 _ [] g ?_
    show ((k ≤ j → (Y 197 [(3, 90), (1, k), (1, p), (1, c), (1, i), (1, v), (1, n), (1, j)] [] g)) ∧ (¬ (k ≤ j) → (((0 : Int) ≤ j ∧ j < ((6 : Nat) : Int)) ∧ (∃ (a2 b3 : Int), [(3, 90), (1, c), (1, (g 112 (Int.toNat j)))] = [(3, 90), (1, a2), (1, b3)] ∧ (0 ≤ a2 ∧ a2 < 40) ∧ (0 ≤ b3 ∧ b3 < 40) ∧ (∀ (r4 : Int), ((r4 = 1 ∧ yLa g (Int.toNat a2) (Int.toNat b3)) ∨ (r4 = 0 ∧ ¬ yLa g (Int.toNat a2) (Int.toNat b3))) → ((r4 = 0 → (((0 : Int) ≤ j ∧ j < ((6 : Nat) : Int)) ∧ (∃ (a7 b8 : Int), [(3, 90), (1, (g 112 (Int.toNat j))), (1, c)] = [(3, 90), (1, a7), (1, b8)] ∧ (0 ≤ a7 ∧ a7 < 40) ∧ (0 ≤ b8 ∧ b8 < 40) ∧ (∀ (r9 : Int), ((r9 = 1 ∧ yLa g (Int.toNat a7) (Int.toNat b8)) ∨ (r9 = 0 ∧ ¬ yLa g (Int.toNat a7) (Int.toNat b8))) → ((r9 = 0 → (Y 121 [(3, 90), (1, k), (1, p), (1, c), (1, i), (1, v), (1, (yw (n + 0))), (1, (yw (j + 1)))] [] g)) ∧ (¬ (r9 = 0) → (((0 : Int) ≤ j ∧ j < ((6 : Nat) : Int)) ∧ ((v ≤ (g 113 (Int.toNat j)) → (Y 121 [(3, 90), (1, k), (1, p), (1, c), (1, i), (1, v), (1, (yw (n + 0))), (1, (yw (j + 1)))] [] g)) ∧ (¬ (v ≤ (g 113 (Int.toNat j))) → (Y 121 [(3, 90), (1, k), (1, p), (1, c), (1, i), (1, v), (1, (yw (n + 1))), (1, (yw (j + 1)))] [] g)))))))))) ∧ (¬ (r4 = 0) → (((0 : Int) ≤ j ∧ j < ((6 : Nat) : Int)) ∧ ((v < (g 113 (Int.toNat j)) → (Y 121 [(3, 90), (1, k), (1, p), (1, c), (1, i), (1, v), (1, (yw (n + 1))), (1, (yw (j + 1)))] [] g)) ∧ (¬ (v < (g 113 (Int.toNat j))) → (((0 : Int) ≤ j ∧ j < ((6 : Nat) : Int)) ∧ (∃ (a14 b15 : Int), [(3, 90), (1, (g 112 (Int.toNat j))), (1, c)] = [(3, 90), (1, a14), (1, b15)] ∧ (0 ≤ a14 ∧ a14 < 40) ∧ (0 ≤ b15 ∧ b15 < 40) ∧ (∀ (r16 : Int), ((r16 = 1 ∧ yLa g (Int.toNat a14) (Int.toNat b15)) ∨ (r16 = 0 ∧ ¬ yLa g (Int.toNat a14) (Int.toNat b15))) → ((r16 = 0 → (Y 121 [(3, 90), (1, k), (1, p), (1, c), (1, i), (1, v), (1, (yw (n + 0))), (1, (yw (j + 1)))] [] g)) ∧ (¬ (r16 = 0) → (((0 : Int) ≤ j ∧ j < ((6 : Nat) : Int)) ∧ ((v ≤ (g 113 (Int.toNat j)) → (Y 121 [(3, 90), (1, k), (1, p), (1, c), (1, i), (1, v), (1, (yw (n + 0))), (1, (yw (j + 1)))] [] g)) ∧ (¬ (v ≤ (g 113 (Int.toNat j))) → (Y 121 [(3, 90), (1, k), (1, p), (1, c), (1, i), (1, v), (1, (yw (n + 1))), (1, (yw (j + 1)))] [] g)))))))))))))))))))
    refine ⟨fun h1 => ?_, fun h1 => ?_⟩
    · omega
    · refine ⟨(by have gj := (hG.2 (Int.toNat j) (by omega)).1; omega), ?_⟩
      refine ⟨_, _, rfl, (by have gj := (hG.2 (Int.toNat j) (by omega)).1; omega), (by have gj := (hG.2 (Int.toNat j) (by omega)).1; omega), ?_⟩
      intro r4 p50
      refine ⟨fun h6 => ?_, fun h6 => ?_⟩
      · refine ⟨(by have gj := (hG.2 (Int.toNat j) (by omega)).1; omega), ?_⟩
        refine ⟨_, _, rfl, (by have gj := (hG.2 (Int.toNat j) (by omega)).1; omega), (by have gj := (hG.2 (Int.toNat j) (by omega)).1; omega), ?_⟩
        intro r9 p100
        refine ⟨fun h11 => ?_, fun h11 => ?_⟩
        · have yj : yw (j + 1) = j + 1 := yw_s (j + 1) (by omega) (by omega)
          have nb := @yDw_nb (yFlc g) (g 113) (Int.toNat k) (Int.toNat j)
          have ej : yAm g (Int.toNat j) = Int.toNat (g 112 (Int.toNat j)) := rfl
          have hs : yDw (yFlc g) (g 113) (Int.toNat k) (yDnL (Int.toNat j + 1)) = 0 + yDw (yFlc g) (g 113) (Int.toNat k) (yDnL (Int.toNat j)) := by
            refine yDs ?_
            rw [ek, ej, hv]
            rcases p50 with ⟨q1, q2⟩ | ⟨q1, q2⟩
            · rcases p100 with ⟨q3, q4⟩ | ⟨q3, q4⟩
              · first
                  | omega
                  | exact Or.inl ⟨rfl, Or.inl ⟨q2, by omega⟩⟩
                  | exact Or.inl ⟨rfl, Or.inr ⟨q4, by omega⟩⟩
                  | exact Or.inr ⟨rfl, (fun y => by have y2 := y.2; omega), (fun y => by have y2 := y.2; omega)⟩
              · first
                  | omega
                  | exact Or.inl ⟨rfl, Or.inl ⟨q2, by omega⟩⟩
                  | exact Or.inr ⟨rfl, (fun y => by have y2 := y.2; omega), (fun y => q4 y.1)⟩
            · rcases p100 with ⟨q3, q4⟩ | ⟨q3, q4⟩
              · first
                  | omega
                  | exact Or.inl ⟨rfl, Or.inr ⟨q4, by omega⟩⟩
                  | exact Or.inr ⟨rfl, (fun y => q2 y.1), (fun y => by have y2 := y.2; omega)⟩
              · first
                  | omega
                  | exact Or.inr ⟨rfl, (fun y => q2 y.1), (fun y => q4 y.1)⟩
          rw [yj]
          refine ih (j + 1) (by omega) (by omega) _ ?_
          rw [show Int.toNat (j + 1) = Int.toNat j + 1 by omega, hs, yw_s (n + 0) (by omega) (by omega), hn]
          omega
        · refine ⟨(by have gj := (hG.2 (Int.toNat j) (by omega)).1; omega), ?_⟩
          refine ⟨fun h12 => ?_, fun h12 => ?_⟩
          · have yj : yw (j + 1) = j + 1 := yw_s (j + 1) (by omega) (by omega)
            have nb := @yDw_nb (yFlc g) (g 113) (Int.toNat k) (Int.toNat j)
            have ej : yAm g (Int.toNat j) = Int.toNat (g 112 (Int.toNat j)) := rfl
            have hs : yDw (yFlc g) (g 113) (Int.toNat k) (yDnL (Int.toNat j + 1)) = 0 + yDw (yFlc g) (g 113) (Int.toNat k) (yDnL (Int.toNat j)) := by
              refine yDs ?_
              rw [ek, ej, hv]
              rcases p50 with ⟨q1, q2⟩ | ⟨q1, q2⟩
              · rcases p100 with ⟨q3, q4⟩ | ⟨q3, q4⟩
                · first
                    | omega
                    | exact Or.inl ⟨rfl, Or.inl ⟨q2, by omega⟩⟩
                    | exact Or.inl ⟨rfl, Or.inr ⟨q4, by omega⟩⟩
                    | exact Or.inr ⟨rfl, (fun y => by have y2 := y.2; omega), (fun y => by have y2 := y.2; omega)⟩
                · first
                    | omega
                    | exact Or.inl ⟨rfl, Or.inl ⟨q2, by omega⟩⟩
                    | exact Or.inr ⟨rfl, (fun y => by have y2 := y.2; omega), (fun y => q4 y.1)⟩
              · rcases p100 with ⟨q3, q4⟩ | ⟨q3, q4⟩
                · first
                    | omega
                    | exact Or.inl ⟨rfl, Or.inr ⟨q4, by omega⟩⟩
                    | exact Or.inr ⟨rfl, (fun y => q2 y.1), (fun y => by have y2 := y.2; omega)⟩
                · first
                    | omega
                    | exact Or.inr ⟨rfl, (fun y => q2 y.1), (fun y => q4 y.1)⟩
            rw [yj]
            refine ih (j + 1) (by omega) (by omega) _ ?_
            rw [show Int.toNat (j + 1) = Int.toNat j + 1 by omega, hs, yw_s (n + 0) (by omega) (by omega), hn]
            omega
          · have yj : yw (j + 1) = j + 1 := yw_s (j + 1) (by omega) (by omega)
            have nb := @yDw_nb (yFlc g) (g 113) (Int.toNat k) (Int.toNat j)
            have ej : yAm g (Int.toNat j) = Int.toNat (g 112 (Int.toNat j)) := rfl
            have hs : yDw (yFlc g) (g 113) (Int.toNat k) (yDnL (Int.toNat j + 1)) = 1 + yDw (yFlc g) (g 113) (Int.toNat k) (yDnL (Int.toNat j)) := by
              refine yDs ?_
              rw [ek, ej, hv]
              rcases p50 with ⟨q1, q2⟩ | ⟨q1, q2⟩
              · rcases p100 with ⟨q3, q4⟩ | ⟨q3, q4⟩
                · first
                    | omega
                    | exact Or.inl ⟨rfl, Or.inl ⟨q2, by omega⟩⟩
                    | exact Or.inl ⟨rfl, Or.inr ⟨q4, by omega⟩⟩
                    | exact Or.inr ⟨rfl, (fun y => by have y2 := y.2; omega), (fun y => by have y2 := y.2; omega)⟩
                · first
                    | omega
                    | exact Or.inl ⟨rfl, Or.inl ⟨q2, by omega⟩⟩
                    | exact Or.inr ⟨rfl, (fun y => by have y2 := y.2; omega), (fun y => q4 y.1)⟩
              · rcases p100 with ⟨q3, q4⟩ | ⟨q3, q4⟩
                · first
                    | omega
                    | exact Or.inl ⟨rfl, Or.inr ⟨q4, by omega⟩⟩
                    | exact Or.inr ⟨rfl, (fun y => q2 y.1), (fun y => by have y2 := y.2; omega)⟩
                · first
                    | omega
                    | exact Or.inr ⟨rfl, (fun y => q2 y.1), (fun y => q4 y.1)⟩
            rw [yj]
            refine ih (j + 1) (by omega) (by omega) _ ?_
            rw [show Int.toNat (j + 1) = Int.toNat j + 1 by omega, hs, yw_s (n + 1) (by omega) (by omega), hn]
            omega
      · refine ⟨(by have gj := (hG.2 (Int.toNat j) (by omega)).1; omega), ?_⟩
        refine ⟨fun h13 => ?_, fun h13 => ?_⟩
        · have yj : yw (j + 1) = j + 1 := yw_s (j + 1) (by omega) (by omega)
          have nb := @yDw_nb (yFlc g) (g 113) (Int.toNat k) (Int.toNat j)
          have ej : yAm g (Int.toNat j) = Int.toNat (g 112 (Int.toNat j)) := rfl
          have hs : yDw (yFlc g) (g 113) (Int.toNat k) (yDnL (Int.toNat j + 1)) = 1 + yDw (yFlc g) (g 113) (Int.toNat k) (yDnL (Int.toNat j)) := by
            refine yDs ?_
            rw [ek, ej, hv]
            rcases p50 with ⟨q1, q2⟩ | ⟨q1, q2⟩
            · first
                | omega
                | exact Or.inl ⟨rfl, Or.inl ⟨q2, by omega⟩⟩
                | exact Or.inr ⟨rfl, (fun y => by have y2 := y.2; omega), (fun y => by have y2 := y.2; omega)⟩
            · first
                | omega
                | exact Or.inr ⟨rfl, (fun y => q2 y.1), (fun y => by have y2 := y.2; omega)⟩
          rw [yj]
          refine ih (j + 1) (by omega) (by omega) _ ?_
          rw [show Int.toNat (j + 1) = Int.toNat j + 1 by omega, hs, yw_s (n + 1) (by omega) (by omega), hn]
          omega
        · refine ⟨(by have gj := (hG.2 (Int.toNat j) (by omega)).1; omega), ?_⟩
          refine ⟨_, _, rfl, (by have gj := (hG.2 (Int.toNat j) (by omega)).1; omega), (by have gj := (hG.2 (Int.toNat j) (by omega)).1; omega), ?_⟩
          intro r16 p170
          refine ⟨fun h18 => ?_, fun h18 => ?_⟩
          · have yj : yw (j + 1) = j + 1 := yw_s (j + 1) (by omega) (by omega)
            have nb := @yDw_nb (yFlc g) (g 113) (Int.toNat k) (Int.toNat j)
            have ej : yAm g (Int.toNat j) = Int.toNat (g 112 (Int.toNat j)) := rfl
            have hs : yDw (yFlc g) (g 113) (Int.toNat k) (yDnL (Int.toNat j + 1)) = 0 + yDw (yFlc g) (g 113) (Int.toNat k) (yDnL (Int.toNat j)) := by
              refine yDs ?_
              rw [ek, ej, hv]
              rcases p50 with ⟨q1, q2⟩ | ⟨q1, q2⟩
              · rcases p170 with ⟨q3, q4⟩ | ⟨q3, q4⟩
                · first
                    | omega
                    | exact Or.inl ⟨rfl, Or.inl ⟨q2, by omega⟩⟩
                    | exact Or.inl ⟨rfl, Or.inr ⟨q4, by omega⟩⟩
                    | exact Or.inr ⟨rfl, (fun y => by have y2 := y.2; omega), (fun y => by have y2 := y.2; omega)⟩
                · first
                    | omega
                    | exact Or.inl ⟨rfl, Or.inl ⟨q2, by omega⟩⟩
                    | exact Or.inr ⟨rfl, (fun y => by have y2 := y.2; omega), (fun y => q4 y.1)⟩
              · rcases p170 with ⟨q3, q4⟩ | ⟨q3, q4⟩
                · first
                    | omega
                    | exact Or.inl ⟨rfl, Or.inr ⟨q4, by omega⟩⟩
                    | exact Or.inr ⟨rfl, (fun y => q2 y.1), (fun y => by have y2 := y.2; omega)⟩
                · first
                    | omega
                    | exact Or.inr ⟨rfl, (fun y => q2 y.1), (fun y => q4 y.1)⟩
            rw [yj]
            refine ih (j + 1) (by omega) (by omega) _ ?_
            rw [show Int.toNat (j + 1) = Int.toNat j + 1 by omega, hs, yw_s (n + 0) (by omega) (by omega), hn]
            omega
          · refine ⟨(by have gj := (hG.2 (Int.toNat j) (by omega)).1; omega), ?_⟩
            refine ⟨fun h19 => ?_, fun h19 => ?_⟩
            · have yj : yw (j + 1) = j + 1 := yw_s (j + 1) (by omega) (by omega)
              have nb := @yDw_nb (yFlc g) (g 113) (Int.toNat k) (Int.toNat j)
              have ej : yAm g (Int.toNat j) = Int.toNat (g 112 (Int.toNat j)) := rfl
              have hs : yDw (yFlc g) (g 113) (Int.toNat k) (yDnL (Int.toNat j + 1)) = 0 + yDw (yFlc g) (g 113) (Int.toNat k) (yDnL (Int.toNat j)) := by
                refine yDs ?_
                rw [ek, ej, hv]
                rcases p50 with ⟨q1, q2⟩ | ⟨q1, q2⟩
                · rcases p170 with ⟨q3, q4⟩ | ⟨q3, q4⟩
                  · first
                      | omega
                      | exact Or.inl ⟨rfl, Or.inl ⟨q2, by omega⟩⟩
                      | exact Or.inl ⟨rfl, Or.inr ⟨q4, by omega⟩⟩
                      | exact Or.inr ⟨rfl, (fun y => by have y2 := y.2; omega), (fun y => by have y2 := y.2; omega)⟩
                  · first
                      | omega
                      | exact Or.inl ⟨rfl, Or.inl ⟨q2, by omega⟩⟩
                      | exact Or.inr ⟨rfl, (fun y => by have y2 := y.2; omega), (fun y => q4 y.1)⟩
                · rcases p170 with ⟨q3, q4⟩ | ⟨q3, q4⟩
                  · first
                      | omega
                      | exact Or.inl ⟨rfl, Or.inr ⟨q4, by omega⟩⟩
                      | exact Or.inr ⟨rfl, (fun y => q2 y.1), (fun y => by have y2 := y.2; omega)⟩
                  · first
                      | omega
                      | exact Or.inr ⟨rfl, (fun y => q2 y.1), (fun y => q4 y.1)⟩
              rw [yj]
              refine ih (j + 1) (by omega) (by omega) _ ?_
              rw [show Int.toNat (j + 1) = Int.toNat j + 1 by omega, hs, yw_s (n + 0) (by omega) (by omega), hn]
              omega
            · have yj : yw (j + 1) = j + 1 := yw_s (j + 1) (by omega) (by omega)
              have nb := @yDw_nb (yFlc g) (g 113) (Int.toNat k) (Int.toNat j)
              have ej : yAm g (Int.toNat j) = Int.toNat (g 112 (Int.toNat j)) := rfl
              have hs : yDw (yFlc g) (g 113) (Int.toNat k) (yDnL (Int.toNat j + 1)) = 1 + yDw (yFlc g) (g 113) (Int.toNat k) (yDnL (Int.toNat j)) := by
                refine yDs ?_
                rw [ek, ej, hv]
                rcases p50 with ⟨q1, q2⟩ | ⟨q1, q2⟩
                · rcases p170 with ⟨q3, q4⟩ | ⟨q3, q4⟩
                  · first
                      | omega
                      | exact Or.inl ⟨rfl, Or.inl ⟨q2, by omega⟩⟩
                      | exact Or.inl ⟨rfl, Or.inr ⟨q4, by omega⟩⟩
                      | exact Or.inr ⟨rfl, (fun y => by have y2 := y.2; omega), (fun y => by have y2 := y.2; omega)⟩
                  · first
                      | omega
                      | exact Or.inl ⟨rfl, Or.inl ⟨q2, by omega⟩⟩
                      | exact Or.inr ⟨rfl, (fun y => by have y2 := y.2; omega), (fun y => q4 y.1)⟩
                · rcases p170 with ⟨q3, q4⟩ | ⟨q3, q4⟩
                  · first
                      | omega
                      | exact Or.inl ⟨rfl, Or.inr ⟨q4, by omega⟩⟩
                      | exact Or.inr ⟨rfl, (fun y => q2 y.1), (fun y => by have y2 := y.2; omega)⟩
                  · first
                      | omega
                      | exact Or.inr ⟨rfl, (fun y => q2 y.1), (fun y => q4 y.1)⟩
              rw [yj]
              refine ih (j + 1) (by omega) (by omega) _ ?_
              rw [show Int.toNat (j + 1) = Int.toNat j + 1 by omega, hs, yw_s (n + 1) (by omega) (by omega), hn]
              omega
set_option maxRecDepth 8000 in
theorem yl_CF1 {K : List yV → yM → Prop} {Y : yNx} {g : yM} {k p c : Int} (hY : yCl zpD146 (zpZ, zpRS, zpP12, zpMT, [yC_LTO, yC_ILT, yC_CF0], (3, 89), 0) K Y) (hG : yFgd g) (hk : (0 ≤ k ∧ k < g 90 36) ∧ g 90 36 - k ≤ 1) (hc : c = g 112 (Int.toNat k)) (hp : p = yCw (yFlc g) (g 113) (yDnL (Int.toNat k)) ∧ 0 ≤ p ∧ p ≤ 12 * k) (hF : 0 ≤ g 90 37 ∧ g 90 37 ≤ 99) (hK : ∀ g' : yM, yTy zpZ g' → yFk k g g' → yFrs g g' (yCo g k) → K [] g') : ∀ (d : Nat) (i : Int), i + d = 2 * g 90 36 → 0 ≤ i → ∀ (m : yM) (y5 y6 y7 : yV), yTy zpZ m → yFk k g m → yFrs g m (yPi g k (Int.toNat i)) → Y 33 [(3, 90), (1, k), (1, p), (1, c), (1, i), y5, y6, y7] [] m := by
  have h36 := hG.1
  have gk := hG.2 (Int.toNat k) (by omega)
  have ek : yAm g (Int.toNat k) = Int.toNat c := by rw [hc]; rfl
  rw [ek] at gk
  intro d
  induction d with
  | zero =>
    intro i hd h0 m y5 y6 y7 hT f hr
    have z := f.z
    have e36 := z.mn
    have e2w : yw (2 * m 90 36) = 2 * m 90 36 := yw_s (2 * m 90 36) (by omega) (by omega)
    have e104 : m 104 (Int.toNat c) = g 104 (Int.toNat c) := z 104 _ (by decide) (by omega)
    have eEk : m 110 (Int.toNat c) = g 110 (Int.toNat c) := z.ea _
    have eLk : yMl m (Int.toNat c) = yMl g (Int.toNat c) := z.ml _
    refine yrun_ok (sp := fun pc => Nat.beq pc 33 || Nat.beq pc 121) hY 42 33 _ [] m ?_
    show (((yw (2 * (m 90 36))) ≤ i → (K [] m)) ∧ (¬ ((yw (2 * (m 90 36))) ≤ i) → ((2 : Int) ≠ 0 ∧ (((yb (fun x y => x - x / y * y) i 2) ≠ 0 → ((2 : Int) ≠ 0 ∧ (((0 : Int) ≤ (yb (fun x y => x / y) i 2) ∧ (yb (fun x y => x / y) i 2) < ((6 : Nat) : Int)) ∧ (∃ (w3 : Int), [(3, 90), (1, (m 112 (Int.toNat (yb (fun x y => x / y) i 2))))] = [(3, 90), (1, w3)] ∧ (0 ≤ w3 ∧ w3 < 40) ∧ (0 ≤ m 104 (Int.toNat w3) ∧ m 104 (Int.toNat w3) ≤ 5) ∧ (∀ (r4 : Int), (r4 = yMl m (Int.toNat w3)) → (((0 : Int) ≤ c ∧ c < ((40 : Nat) : Int)) ∧ ((r4 < (m 110 (Int.toNat c)) → (Y 33 [(3, 90), (1, k), (1, p), (1, c), (1, (yw (i + 1))), (1, r4), y6, y7] [] m)) ∧ (¬ (r4 < (m 110 (Int.toNat c))) → (∃ (w7 : Int), [(3, 90), (1, c)] = [(3, 90), (1, w7)] ∧ (0 ≤ w7 ∧ w7 < 40) ∧ (0 ≤ m 104 (Int.toNat w7) ∧ m 104 (Int.toNat w7) ≤ 5) ∧ (∀ (r8 : Int), (r8 = yMl m (Int.toNat w7)) → ((r4 ≤ r8 → (((0 : Int) ≤ k ∧ k < ((6 : Nat) : Int)) ∧ (Y 121 [(3, 90), (1, k), (1, p), (1, c), (1, i), (1, r4), (1, p), (1, 0)] [] (yset m 113 (Int.toNat k) r4)))) ∧ (¬ (r4 ≤ r8) → (Y 33 [(3, 90), (1, k), (1, p), (1, c), (1, (yw (i + 1))), (1, r4), y6, y7] [] m))))))))))))) ∧ (¬ ((yb (fun x y => x - x / y * y) i 2) ≠ 0) → ((2 : Int) ≠ 0 ∧ (((0 : Int) ≤ (yb (fun x y => x / y) i 2) ∧ (yb (fun x y => x / y) i 2) < ((6 : Nat) : Int)) ∧ (((0 : Int) ≤ (m 112 (Int.toNat (yb (fun x y => x / y) i 2))) ∧ (m 112 (Int.toNat (yb (fun x y => x / y) i 2))) < ((40 : Nat) : Int)) ∧ (((0 : Int) ≤ c ∧ c < ((40 : Nat) : Int)) ∧ (((m 110 (Int.toNat (m 112 (Int.toNat (yb (fun x y => x / y) i 2))))) < (m 110 (Int.toNat c)) → (Y 33 [(3, 90), (1, k), (1, p), (1, c), (1, (yw (i + 1))), (1, (m 110 (Int.toNat (m 112 (Int.toNat (yb (fun x y => x / y) i 2)))))), y6, y7] [] m)) ∧ (¬ ((m 110 (Int.toNat (m 112 (Int.toNat (yb (fun x y => x / y) i 2))))) < (m 110 (Int.toNat c))) → (∃ (w12 : Int), [(3, 90), (1, c)] = [(3, 90), (1, w12)] ∧ (0 ≤ w12 ∧ w12 < 40) ∧ (0 ≤ m 104 (Int.toNat w12) ∧ m 104 (Int.toNat w12) ≤ 5) ∧ (∀ (r13 : Int), (r13 = yMl m (Int.toNat w12)) → (((m 110 (Int.toNat (m 112 (Int.toNat (yb (fun x y => x / y) i 2))))) ≤ r13 → (((0 : Int) ≤ k ∧ k < ((6 : Nat) : Int)) ∧ (Y 121 [(3, 90), (1, k), (1, p), (1, c), (1, i), (1, (m 110 (Int.toNat (m 112 (Int.toNat (yb (fun x y => x / y) i 2)))))), (1, p), (1, 0)] [] (yset m 113 (Int.toNat k) (m 110 (Int.toNat (m 112 (Int.toNat (yb (fun x y => x / y) i 2))))))))) ∧ (¬ ((m 110 (Int.toNat (m 112 (Int.toNat (yb (fun x y => x / y) i 2))))) ≤ r13) → (Y 33 [(3, 90), (1, k), (1, p), (1, c), (1, (yw (i + 1))), (1, (m 110 (Int.toNat (m 112 (Int.toNat (yb (fun x y => x / y) i 2)))))), y6, y7] [] m))))))))))))))))
    refine ⟨fun h1 => ?_, fun h1 => ?_⟩
    · obtain rfl : i = 2 * g 90 36 := by omega
      exact hK m hT f (hr.al hk.1)
    · refine ⟨(by omega), ?_⟩
      refine ⟨fun h2 => ?_, fun h2 => ?_⟩
      · refine ⟨(by omega), ?_⟩
        refine ⟨(by omega), ?_⟩
        refine ⟨_, rfl, (by omega), (by omega), ?_⟩
        intro r4 p50
        refine ⟨(by omega), ?_⟩
        refine ⟨fun h6 => ?_, fun h6 => ?_⟩
        · omega
        · refine ⟨_, rfl, (by omega), (by omega), ?_⟩
          intro r8 p90
          refine ⟨fun h10 => ?_, fun h10 => ?_⟩
          · refine ⟨(by omega), ?_⟩
            omega
          · omega
      · refine ⟨(by omega), ?_⟩
        refine ⟨(by omega), ?_⟩
        refine ⟨(by omega), ?_⟩
        refine ⟨(by omega), ?_⟩
        refine ⟨fun h11 => ?_, fun h11 => ?_⟩
        · omega
        · refine ⟨_, rfl, (by omega), (by omega), ?_⟩
          intro r13 p140
          refine ⟨fun h15 => ?_, fun h15 => ?_⟩
          · refine ⟨(by omega), ?_⟩
            omega
          · omega
  | succ d ih =>
    intro i hd h0 m y5 y6 y7 hT f hr
    have z := f.z
    have e36 := z.mn
    have e2w : yw (2 * m 90 36) = 2 * m 90 36 := yw_s (2 * m 90 36) (by omega) (by omega)
    have e104 : m 104 (Int.toNat c) = g 104 (Int.toNat c) := z 104 _ (by decide) (by omega)
    have eEk : m 110 (Int.toNat c) = g 110 (Int.toNat c) := z.ea _
    have eLk : yMl m (Int.toNat c) = yMl g (Int.toNat c) := z.ml _
    refine yrun_ok (sp := fun pc => Nat.beq pc 33 || Nat.beq pc 121) hY 42 33 _ [] m ?_
    show (((yw (2 * (m 90 36))) ≤ i → (K [] m)) ∧ (¬ ((yw (2 * (m 90 36))) ≤ i) → ((2 : Int) ≠ 0 ∧ (((yb (fun x y => x - x / y * y) i 2) ≠ 0 → ((2 : Int) ≠ 0 ∧ (((0 : Int) ≤ (yb (fun x y => x / y) i 2) ∧ (yb (fun x y => x / y) i 2) < ((6 : Nat) : Int)) ∧ (∃ (w3 : Int), [(3, 90), (1, (m 112 (Int.toNat (yb (fun x y => x / y) i 2))))] = [(3, 90), (1, w3)] ∧ (0 ≤ w3 ∧ w3 < 40) ∧ (0 ≤ m 104 (Int.toNat w3) ∧ m 104 (Int.toNat w3) ≤ 5) ∧ (∀ (r4 : Int), (r4 = yMl m (Int.toNat w3)) → (((0 : Int) ≤ c ∧ c < ((40 : Nat) : Int)) ∧ ((r4 < (m 110 (Int.toNat c)) → (Y 33 [(3, 90), (1, k), (1, p), (1, c), (1, (yw (i + 1))), (1, r4), y6, y7] [] m)) ∧ (¬ (r4 < (m 110 (Int.toNat c))) → (∃ (w7 : Int), [(3, 90), (1, c)] = [(3, 90), (1, w7)] ∧ (0 ≤ w7 ∧ w7 < 40) ∧ (0 ≤ m 104 (Int.toNat w7) ∧ m 104 (Int.toNat w7) ≤ 5) ∧ (∀ (r8 : Int), (r8 = yMl m (Int.toNat w7)) → ((r4 ≤ r8 → (((0 : Int) ≤ k ∧ k < ((6 : Nat) : Int)) ∧ (Y 121 [(3, 90), (1, k), (1, p), (1, c), (1, i), (1, r4), (1, p), (1, 0)] [] (yset m 113 (Int.toNat k) r4)))) ∧ (¬ (r4 ≤ r8) → (Y 33 [(3, 90), (1, k), (1, p), (1, c), (1, (yw (i + 1))), (1, r4), y6, y7] [] m))))))))))))) ∧ (¬ ((yb (fun x y => x - x / y * y) i 2) ≠ 0) → ((2 : Int) ≠ 0 ∧ (((0 : Int) ≤ (yb (fun x y => x / y) i 2) ∧ (yb (fun x y => x / y) i 2) < ((6 : Nat) : Int)) ∧ (((0 : Int) ≤ (m 112 (Int.toNat (yb (fun x y => x / y) i 2))) ∧ (m 112 (Int.toNat (yb (fun x y => x / y) i 2))) < ((40 : Nat) : Int)) ∧ (((0 : Int) ≤ c ∧ c < ((40 : Nat) : Int)) ∧ (((m 110 (Int.toNat (m 112 (Int.toNat (yb (fun x y => x / y) i 2))))) < (m 110 (Int.toNat c)) → (Y 33 [(3, 90), (1, k), (1, p), (1, c), (1, (yw (i + 1))), (1, (m 110 (Int.toNat (m 112 (Int.toNat (yb (fun x y => x / y) i 2)))))), y6, y7] [] m)) ∧ (¬ ((m 110 (Int.toNat (m 112 (Int.toNat (yb (fun x y => x / y) i 2))))) < (m 110 (Int.toNat c))) → (∃ (w12 : Int), [(3, 90), (1, c)] = [(3, 90), (1, w12)] ∧ (0 ≤ w12 ∧ w12 < 40) ∧ (0 ≤ m 104 (Int.toNat w12) ∧ m 104 (Int.toNat w12) ≤ 5) ∧ (∀ (r13 : Int), (r13 = yMl m (Int.toNat w12)) → (((m 110 (Int.toNat (m 112 (Int.toNat (yb (fun x y => x / y) i 2))))) ≤ r13 → (((0 : Int) ≤ k ∧ k < ((6 : Nat) : Int)) ∧ (Y 121 [(3, 90), (1, k), (1, p), (1, c), (1, i), (1, (m 110 (Int.toNat (m 112 (Int.toNat (yb (fun x y => x / y) i 2)))))), (1, p), (1, 0)] [] (yset m 113 (Int.toNat k) (m 110 (Int.toNat (m 112 (Int.toNat (yb (fun x y => x / y) i 2))))))))) ∧ (¬ ((m 110 (Int.toNat (m 112 (Int.toNat (yb (fun x y => x / y) i 2))))) ≤ r13) → (Y 33 [(3, 90), (1, k), (1, p), (1, c), (1, (yw (i + 1))), (1, (m 110 (Int.toNat (m 112 (Int.toNat (yb (fun x y => x / y) i 2)))))), y6, y7] [] m))))))))))))))))
    refine ⟨fun h1 => ?_, fun h1 => ?_⟩
    · omega
    · refine ⟨(by decide), ?_⟩
      refine ⟨fun h2 => ?_, fun h2 => ?_⟩
      · refine ⟨(by decide), ?_⟩
        refine ⟨(by
      obtain ⟨d1, d2⟩ := yH2 (i := i) (by omega)
      have gi := (z.gd hG).2 (Int.toNat i / 2) (by omega)
      first
        | omega
        | (rw [d1]; omega)
        | (rw [d1, Int.toNat_natCast]; exact gi.1)
        | (rw [d1, Int.toNat_natCast]; exact gi.2)), ?_⟩
        refine ⟨_, rfl, (by
      obtain ⟨d1, d2⟩ := yH2 (i := i) (by omega)
      have gi := (z.gd hG).2 (Int.toNat i / 2) (by omega)
      first
        | omega
        | (rw [d1]; omega)
        | (rw [d1, Int.toNat_natCast]; exact gi.1)
        | (rw [d1, Int.toNat_natCast]; exact gi.2)), (by
      obtain ⟨d1, d2⟩ := yH2 (i := i) (by omega)
      have gi := (z.gd hG).2 (Int.toNat i / 2) (by omega)
      first
        | omega
        | (rw [d1]; omega)
        | (rw [d1, Int.toNat_natCast]; exact gi.1)
        | (rw [d1, Int.toNat_natCast]; exact gi.2)), ?_⟩
        intro r4 p50
        refine ⟨(by
      obtain ⟨d1, d2⟩ := yH2 (i := i) (by omega)
      have gi := (z.gd hG).2 (Int.toNat i / 2) (by omega)
      first
        | omega
        | (rw [d1]; omega)
        | (rw [d1, Int.toNat_natCast]; exact gi.1)
        | (rw [d1, Int.toNat_natCast]; exact gi.2)), ?_⟩
        refine ⟨fun h6 => ?_, fun h6 => ?_⟩
        · obtain ⟨d1, d2⟩ := yH2 (i := i) (by omega)
          have gi := (z.gd hG).2 (Int.toNat i / 2) (by omega)
          have yi : yw (i + 1) = i + 1 := yw_s (i + 1) (by omega) (by omega)
          have ti : Int.toNat (i + 1) = Int.toNat i + 1 := by omega
          rw [d2] at h2
          have eA : Int.toNat (m 112 (Int.toNat i / 2)) = yAm g (Int.toNat i / 2) := z.am _
          have hV : r4 = yVi g (Int.toNat i) := by
            have e := p50
            rw [d1, Int.toNat_natCast, eA, z.ml] at e
            rw [e]
            unfold yVi
            rw [if_neg (by omega)]
          rw [yi]
          refine ih (i + 1) (by omega) (by omega) m _ _ _ hT f ?_
          rw [ti]
          exact hr.sk hk.1 (fun y => by rw [ek, ← hV] at y; omega)
        · refine ⟨_, rfl, (by
      obtain ⟨d1, d2⟩ := yH2 (i := i) (by omega)
      have gi := (z.gd hG).2 (Int.toNat i / 2) (by omega)
      first
        | omega
        | (rw [d1]; omega)
        | (rw [d1, Int.toNat_natCast]; exact gi.1)
        | (rw [d1, Int.toNat_natCast]; exact gi.2)), (by
      obtain ⟨d1, d2⟩ := yH2 (i := i) (by omega)
      have gi := (z.gd hG).2 (Int.toNat i / 2) (by omega)
      first
        | omega
        | (rw [d1]; omega)
        | (rw [d1, Int.toNat_natCast]; exact gi.1)
        | (rw [d1, Int.toNat_natCast]; exact gi.2)), ?_⟩
          intro r8 p90
          refine ⟨fun h10 => ?_, fun h10 => ?_⟩
          · refine ⟨(by
      obtain ⟨d1, d2⟩ := yH2 (i := i) (by omega)
      have gi := (z.gd hG).2 (Int.toNat i / 2) (by omega)
      first
        | omega
        | (rw [d1]; omega)
        | (rw [d1, Int.toNat_natCast]; exact gi.1)
        | (rw [d1, Int.toNat_natCast]; exact gi.2)), ?_⟩
            obtain ⟨d1, d2⟩ := yH2 (i := i) (by omega)
            have gi := (z.gd hG).2 (Int.toNat i / 2) (by omega)
            have yi : yw (i + 1) = i + 1 := yw_s (i + 1) (by omega) (by omega)
            have ti : Int.toNat (i + 1) = Int.toNat i + 1 := by omega
            rw [d2] at h2
            have eA : Int.toNat (m 112 (Int.toNat i / 2)) = yAm g (Int.toNat i / 2) := z.am _
            have hV : r4 = yVi g (Int.toNat i) := by
              have e := p50
              rw [d1, Int.toNat_natCast, eA, z.ml] at e
              rw [e]
              unfold yVi
              rw [if_neg (by omega)]
            have hR : g 110 (yAm g (Int.toNat k)) ≤ yVi g (Int.toNat i) ∧ yVi g (Int.toNat i) ≤ yMl g (yAm g (Int.toNat k)) := by
              rw [ek, ← hV]
              omega
            rw [hV]
            have vr : -2147483648 ≤ yVi g (Int.toNat i) ∧ yVi g (Int.toNat i) ≤ 2147483647 := by
              have r1 := hT.fA (j := Int.toNat c) (List.mem_of_getElem? (i := 62) rfl) (by omega)
              have r2 : -2147483648 ≤ yMl g (Int.toNat c) ∧ yMl g (Int.toNat c) ≤ 2147483647 := yw_rng _
              rw [ek] at hR
              omega
            have fp : yFk k g (yset m 113 (Int.toNat k) (yVi g (Int.toNat i))) := f.put hk.1.1
            have e37 : (yset m 113 (Int.toNat k) (yVi g (Int.toNat i))) 90 37 = m 90 37 := yset_nc (by decide)
            have hr1 := hr.1
            refine yj_CF1 hY (fp.z.gd hG) (by rw [fp.z.mn]; exact hk.1) (by rw [fp.z 112 _ (by decide) (by omega)]; exact hc) yset_eq hp.2 (fun n hn => ?_) (Int.toNat k) 0 (by omega) (by decide) p (by show p = p + 0; omega)
            have hn2 := yCw_nx fp.z (fun j hj => fp.lo hj) hk.1.1 hp.1 hn
            have nb := @yDw_nb (yFlc (yset m 113 (Int.toNat k) (yVi g (Int.toNat i)))) ((yset m 113 (Int.toNat k) (yVi g (Int.toNat i))) 113) (Int.toNat k) (Int.toNat k)
            refine yt_CF1 hY (hT.sA (List.mem_of_getElem? (i := 65) rfl) (by decide +kernel) vr) (fp.z.gd hG) (by rw [fp.z.mn]; exact hk) ⟨hn2, by omega, by omega⟩ (by rw [e37]; omega) (by omega) (fun g3 t1 t2 t3 => ?_)
            refine ih (i + 1) (by omega) (by omega) g3 _ _ _ t1 (fp.tr t2 (by omega)) ?_
            rw [ti]
            exact yFrs.tk hk.1 (by omega) f hr hR t3
          · obtain ⟨d1, d2⟩ := yH2 (i := i) (by omega)
            have gi := (z.gd hG).2 (Int.toNat i / 2) (by omega)
            have yi : yw (i + 1) = i + 1 := yw_s (i + 1) (by omega) (by omega)
            have ti : Int.toNat (i + 1) = Int.toNat i + 1 := by omega
            rw [d2] at h2
            have eA : Int.toNat (m 112 (Int.toNat i / 2)) = yAm g (Int.toNat i / 2) := z.am _
            have hV : r4 = yVi g (Int.toNat i) := by
              have e := p50
              rw [d1, Int.toNat_natCast, eA, z.ml] at e
              rw [e]
              unfold yVi
              rw [if_neg (by omega)]
            rw [yi]
            refine ih (i + 1) (by omega) (by omega) m _ _ _ hT f ?_
            rw [ti]
            exact hr.sk hk.1 (fun y => by rw [ek, ← hV] at y; omega)
      · refine ⟨(by decide), ?_⟩
        refine ⟨(by
      obtain ⟨d1, d2⟩ := yH2 (i := i) (by omega)
      have gi := (z.gd hG).2 (Int.toNat i / 2) (by omega)
      first
        | omega
        | (rw [d1]; omega)
        | (rw [d1, Int.toNat_natCast]; exact gi.1)
        | (rw [d1, Int.toNat_natCast]; exact gi.2)), ?_⟩
        refine ⟨(by
      obtain ⟨d1, d2⟩ := yH2 (i := i) (by omega)
      have gi := (z.gd hG).2 (Int.toNat i / 2) (by omega)
      first
        | omega
        | (rw [d1]; omega)
        | (rw [d1, Int.toNat_natCast]; exact gi.1)
        | (rw [d1, Int.toNat_natCast]; exact gi.2)), ?_⟩
        refine ⟨(by
      obtain ⟨d1, d2⟩ := yH2 (i := i) (by omega)
      have gi := (z.gd hG).2 (Int.toNat i / 2) (by omega)
      first
        | omega
        | (rw [d1]; omega)
        | (rw [d1, Int.toNat_natCast]; exact gi.1)
        | (rw [d1, Int.toNat_natCast]; exact gi.2)), ?_⟩
        refine ⟨fun h11 => ?_, fun h11 => ?_⟩
        · obtain ⟨d1, d2⟩ := yH2 (i := i) (by omega)
          have gi := (z.gd hG).2 (Int.toNat i / 2) (by omega)
          have yi : yw (i + 1) = i + 1 := yw_s (i + 1) (by omega) (by omega)
          have ti : Int.toNat (i + 1) = Int.toNat i + 1 := by omega
          rw [d2] at h2
          have eA : Int.toNat (m 112 (Int.toNat i / 2)) = yAm g (Int.toNat i / 2) := z.am _
          have hV : (m 110 (Int.toNat (m 112 (Int.toNat (yb (fun x y => x / y) i 2))))) = yVi g (Int.toNat i) := by
            rw [d1, Int.toNat_natCast, eA, z.ea]
            unfold yVi
            rw [if_pos (by omega)]
          rw [yi]
          refine ih (i + 1) (by omega) (by omega) m _ _ _ hT f ?_
          rw [ti]
          exact hr.sk hk.1 (fun y => by rw [ek, ← hV] at y; omega)
        · refine ⟨_, rfl, (by
      obtain ⟨d1, d2⟩ := yH2 (i := i) (by omega)
      have gi := (z.gd hG).2 (Int.toNat i / 2) (by omega)
      first
        | omega
        | (rw [d1]; omega)
        | (rw [d1, Int.toNat_natCast]; exact gi.1)
        | (rw [d1, Int.toNat_natCast]; exact gi.2)), (by
      obtain ⟨d1, d2⟩ := yH2 (i := i) (by omega)
      have gi := (z.gd hG).2 (Int.toNat i / 2) (by omega)
      first
        | omega
        | (rw [d1]; omega)
        | (rw [d1, Int.toNat_natCast]; exact gi.1)
        | (rw [d1, Int.toNat_natCast]; exact gi.2)), ?_⟩
          intro r13 p140
          refine ⟨fun h15 => ?_, fun h15 => ?_⟩
          · refine ⟨(by
      obtain ⟨d1, d2⟩ := yH2 (i := i) (by omega)
      have gi := (z.gd hG).2 (Int.toNat i / 2) (by omega)
      first
        | omega
        | (rw [d1]; omega)
        | (rw [d1, Int.toNat_natCast]; exact gi.1)
        | (rw [d1, Int.toNat_natCast]; exact gi.2)), ?_⟩
            obtain ⟨d1, d2⟩ := yH2 (i := i) (by omega)
            have gi := (z.gd hG).2 (Int.toNat i / 2) (by omega)
            have yi : yw (i + 1) = i + 1 := yw_s (i + 1) (by omega) (by omega)
            have ti : Int.toNat (i + 1) = Int.toNat i + 1 := by omega
            rw [d2] at h2
            have eA : Int.toNat (m 112 (Int.toNat i / 2)) = yAm g (Int.toNat i / 2) := z.am _
            have hV : (m 110 (Int.toNat (m 112 (Int.toNat (yb (fun x y => x / y) i 2))))) = yVi g (Int.toNat i) := by
              rw [d1, Int.toNat_natCast, eA, z.ea]
              unfold yVi
              rw [if_pos (by omega)]
            have hR : g 110 (yAm g (Int.toNat k)) ≤ yVi g (Int.toNat i) ∧ yVi g (Int.toNat i) ≤ yMl g (yAm g (Int.toNat k)) := by
              rw [ek, ← hV]
              omega
            rw [hV]
            have vr : -2147483648 ≤ yVi g (Int.toNat i) ∧ yVi g (Int.toNat i) ≤ 2147483647 := by
              have r1 := hT.fA (j := Int.toNat c) (List.mem_of_getElem? (i := 62) rfl) (by omega)
              have r2 : -2147483648 ≤ yMl g (Int.toNat c) ∧ yMl g (Int.toNat c) ≤ 2147483647 := yw_rng _
              rw [ek] at hR
              omega
            have fp : yFk k g (yset m 113 (Int.toNat k) (yVi g (Int.toNat i))) := f.put hk.1.1
            have e37 : (yset m 113 (Int.toNat k) (yVi g (Int.toNat i))) 90 37 = m 90 37 := yset_nc (by decide)
            have hr1 := hr.1
            refine yj_CF1 hY (fp.z.gd hG) (by rw [fp.z.mn]; exact hk.1) (by rw [fp.z 112 _ (by decide) (by omega)]; exact hc) yset_eq hp.2 (fun n hn => ?_) (Int.toNat k) 0 (by omega) (by decide) p (by show p = p + 0; omega)
            have hn2 := yCw_nx fp.z (fun j hj => fp.lo hj) hk.1.1 hp.1 hn
            have nb := @yDw_nb (yFlc (yset m 113 (Int.toNat k) (yVi g (Int.toNat i)))) ((yset m 113 (Int.toNat k) (yVi g (Int.toNat i))) 113) (Int.toNat k) (Int.toNat k)
            refine yt_CF1 hY (hT.sA (List.mem_of_getElem? (i := 65) rfl) (by decide +kernel) vr) (fp.z.gd hG) (by rw [fp.z.mn]; exact hk) ⟨hn2, by omega, by omega⟩ (by rw [e37]; omega) (by omega) (fun g3 t1 t2 t3 => ?_)
            refine ih (i + 1) (by omega) (by omega) g3 _ _ _ t1 (fp.tr t2 (by omega)) ?_
            rw [ti]
            exact yFrs.tk hk.1 (by omega) f hr hR t3
          · obtain ⟨d1, d2⟩ := yH2 (i := i) (by omega)
            have gi := (z.gd hG).2 (Int.toNat i / 2) (by omega)
            have yi : yw (i + 1) = i + 1 := yw_s (i + 1) (by omega) (by omega)
            have ti : Int.toNat (i + 1) = Int.toNat i + 1 := by omega
            rw [d2] at h2
            have eA : Int.toNat (m 112 (Int.toNat i / 2)) = yAm g (Int.toNat i / 2) := z.am _
            have hV : (m 110 (Int.toNat (m 112 (Int.toNat (yb (fun x y => x / y) i 2))))) = yVi g (Int.toNat i) := by
              rw [d1, Int.toNat_natCast, eA, z.ea]
              unfold yVi
              rw [if_pos (by omega)]
            rw [yi]
            refine ih (i + 1) (by omega) (by omega) m _ _ _ hT f ?_
            rw [ti]
            exact hr.sk hk.1 (fun y => by rw [ek, ← hV] at y; omega)
set_option maxRecDepth 8000 in
theorem yv_CF1 {K : List yV → yM → Prop} {Y : yNx} {g : yM} {k p : Int} (hY : yCl zpD146 (zpZ, zpRS, zpP12, zpMT, [yC_LTO, yC_ILT, yC_CF0], (3, 89), 0) K Y) (hr_k : -2147483648 ≤ k ∧ k ≤ 2147483647) (hr_p : -2147483648 ≤ p ∧ p ≤ 2147483647) (hp0 : yTy zpZ g) (hp1 : yFgd g) (hp2 : (0 ≤ k ∧ k ≤ g 90 36) ∧ g 90 36 - k ≤ 1) (hp3 : p = yCw (yFlc g) (g 113) (yDnL (Int.toNat k)) ∧ 0 ≤ p ∧ p ≤ 12 * k) (hp4 : 0 ≤ g 90 37 ∧ g 90 37 ≤ 99) (hK : ∀ (g' : yM), (yTy zpZ g') → (yFk k g g') → (yFrs g g' (yCo g k)) → K [] g') : Y 0 [(3, 90), (1, k), (1, p), (0, 0), (0, 0), (0, 0), (0, 0), (0, 0)] [] g := by
  have h36 := hp1.1
  refine yrun_ok (sp := fun pc => Nat.beq pc 33) hY 16 0 _ [] g ?_
  show ((p < (g 90 37) → ((k ≠ (g 90 36) → (((0 : Int) ≤ k ∧ k < ((6 : Nat) : Int)) ∧ (Y 33 [(3, 90), (1, k), (1, p), (1, (g 112 (Int.toNat k))), (1, 0), (0, 0), (0, 0), (0, 0)] [] g))) ∧ (¬ (k ≠ (g 90 36)) → (K [] (yset g 90 37 p))))) ∧ (¬ (p < (g 90 37)) → (K [] g)))
  refine ⟨fun h1 => ?_, fun h1 => ?_⟩
  · refine ⟨fun h2 => ?_, fun h2 => ?_⟩
    · refine ⟨(by omega), ?_⟩
      exact yl_CF1 hY hp1 ⟨⟨hp2.1.1, by omega⟩, hp2.2⟩ rfl hp3 hp4 hK (Int.toNat (2 * g 90 36)) 0 (by omega) (by decide) g _ _ _ hp0 yFk.rf (yFrs.z hp4.1)
    · exact hK _ (hp0.sO (List.mem_of_getElem? (i := 42) rfl) rfl (by decide +kernel) ⟨by omega, by omega⟩) (fun a b c1 c2 => yset_ne (by omega)) (yFrs.on (by omega) hp2.1.1 hp3.1 hp3.2.1 (by omega))
  · exact hK g hp0 yFk.rf (yFrs.no hp2.1 hp3.1 hp4.1 (by omega))
theorem yM_CF1 {l : Launch} {Ts : List Cond} {cl : List vw_C} {RO : zRO} (H : zHyp Ts cl RO) : yMet l Ts cl zpZ RO zpMT yC_CF1 := ymet_of2 H.1 H.2.1 zpDj H.2.2.1 yRb H.p12 (ymets_cons (yM_LTO H) (ymets_cons (yM_ILT H) (ymets_cons (yM_CF0 H) ymets_nil))) (zrc0 rfl) (plainFor_of_name zpy12) zpDk146 (fun as g K Y h hA hY => by
  obtain ⟨k, p, rfl, hp0, hp1, hp2, hp3, hp4, hK⟩ := h
  exact yv_CF1 hY (yAr1 hA (by simp)) (yAr1 hA (by simp)) hp0 hp1 hp2 hp3 hp4 hK)
def yP_CF2 : yPT := fun as g K => ∃ (k p : Int), as = [(3, 90), (1, k), (1, p)] ∧ (yTy zpZ g) ∧ (yFgd g) ∧ ((0 ≤ k ∧ k ≤ g 90 36) ∧ g 90 36 - k ≤ 2) ∧ (p = yCw (yFlc g) (g 113) (yDnL (Int.toNat k)) ∧ 0 ≤ p ∧ p ≤ 12 * k) ∧ (0 ≤ g 90 37 ∧ g 90 37 ≤ 99) ∧ (∀ (g' : yM), (yTy zpZ g') → (yFk k g g') → (yFrs g g' (yCo g k)) → K [] g')
def yC_CF2 : yC := (146, (4, 116), yP_CF2)
set_option maxRecDepth 8000 in
theorem yt_CF2 {K : List yV → yM → Prop} {Y : yNx} {g : yM} {k p c i v n j : Int} (hY : yCl zpD146 (zpZ, zpRS, zpP12, zpMT, [yC_LTO, yC_ILT, yC_CF1], (4, 116), 0) K Y) (hT : yTy zpZ g) (hG : yFgd g) (hk : (0 ≤ k ∧ k < g 90 36) ∧ g 90 36 - k ≤ 2) (hn : n = yCw (yFlc g) (g 113) (yDnL (Int.toNat (k + 1))) ∧ 0 ≤ n ∧ n ≤ 12 * (k + 1)) (hF : 0 ≤ g 90 37 ∧ g 90 37 ≤ 99) (hi : 0 ≤ i ∧ i < 12) (hE : ∀ g3 : yM, yTy zpZ g3 → yFk (k + 1) g g3 → yFrs g g3 (yCo g (k + 1)) → Y 33 [(3, 90), (1, k), (1, p), (1, c), (1, i + 1), (1, v), (1, n), (1, j)] [] g3) : Y 197 [(3, 90), (1, k), (1, p), (1, c), (1, i), (1, v), (1, n), (1, j)] [] g := by
  have h36 := hG.1
  have yk : yw (k + 1) = k + 1 := yw_s (k + 1) (by omega) (by omega)
  have yi : yw (i + 1) = i + 1 := yw_s (i + 1) (by omega) (by omega)
  refine yrun_ok (sp := fun pc => Nat.beq pc 33) hY 9 197 _ [] g ?_
  show (∃ (k1 p2 : Int), [(3, 90), (1, (yw (k + 1))), (1, n)] = [(3, 90), (1, k1), (1, p2)] ∧ (yTy zpZ g) ∧ (yFgd g) ∧ ((0 ≤ k1 ∧ k1 ≤ g 90 36) ∧ g 90 36 - k1 ≤ 1) ∧ (p2 = yCw (yFlc g) (g 113) (yDnL (Int.toNat k1)) ∧ 0 ≤ p2 ∧ p2 ≤ 12 * k1) ∧ (0 ≤ g 90 37 ∧ g 90 37 ≤ 99) ∧ (∀ (g3 : yM), (yTy zpZ g3) → (yFk k1 g g3) → (yFrs g g3 (yCo g k1)) → (Y 33 [(3, 90), (1, k), (1, p), (1, c), (1, (yw (i + 1))), (1, v), (1, n), (1, j)] [] g3)))
  refine ⟨_, _, rfl, (hT), (hG), (by omega), (by rw [yk]; exact hn), (by omega), ?_⟩
  intro g3 p40 p41 p42
  rw [yk] at p41 p42
  rw [yi]
  exact hE _ p40 p41 p42
set_option maxRecDepth 8000 in
theorem yj_CF2 {K : List yV → yM → Prop} {Y : yNx} {g : yM} {k p c i v : Int} (hY : yCl zpD146 (zpZ, zpRS, zpP12, zpMT, [yC_LTO, yC_ILT, yC_CF1], (4, 116), 0) K Y) (hG : yFgd g) (hk : 0 ≤ k ∧ k < g 90 36) (hc : c = g 112 (Int.toNat k)) (hv : g 113 (Int.toNat k) = v) (hp : 0 ≤ p ∧ p ≤ 12 * k) (hE : ∀ n : Int, n = p + yDw (yFlc g) (g 113) (Int.toNat k) (yDnL (Int.toNat k)) → Y 197 [(3, 90), (1, k), (1, p), (1, c), (1, i), (1, v), (1, n), (1, k)] [] g) : ∀ (d : Nat) (j : Int), j + d = k → 0 ≤ j → ∀ n : Int, n = p + yDw (yFlc g) (g 113) (Int.toNat k) (yDnL (Int.toNat j)) → Y 121 [(3, 90), (1, k), (1, p), (1, c), (1, i), (1, v), (1, n), (1, j)] [] g := by
  have h36 := hG.1
  have gk := (hG.2 (Int.toNat k) (by omega)).1
  have ek : yAm g (Int.toNat k) = Int.toNat c := by rw [hc]; rfl
  intro d
  induction d with
  | zero =>
    intro j hd h0 n hn
    refine yrun_ok (sp := fun pc => Nat.beq pc 121 || Nat.beq pc 197) hY 39 121 _ [] g ?_
    show ((k ≤ j → (Y 197 [(3, 90), (1, k), (1, p), (1, c), (1, i), (1, v), (1, n), (1, j)] [] g)) ∧ (¬ (k ≤ j) → (((0 : Int) ≤ j ∧ j < ((6 : Nat) : Int)) ∧ (∃ (a2 b3 : Int), [(3, 90), (1, c), (1, (g 112 (Int.toNat j)))] = [(3, 90), (1, a2), (1, b3)] ∧ (0 ≤ a2 ∧ a2 < 40) ∧ (0 ≤ b3 ∧ b3 < 40) ∧ (∀ (r4 : Int), ((r4 = 1 ∧ yLa g (Int.toNat a2) (Int.toNat b3)) ∨ (r4 = 0 ∧ ¬ yLa g (Int.toNat a2) (Int.toNat b3))) → ((r4 = 0 → (((0 : Int) ≤ j ∧ j < ((6 : Nat) : Int)) ∧ (∃ (a7 b8 : Int), [(3, 90), (1, (g 112 (Int.toNat j))), (1, c)] = [(3, 90), (1, a7), (1, b8)] ∧ (0 ≤ a7 ∧ a7 < 40) ∧ (0 ≤ b8 ∧ b8 < 40) ∧ (∀ (r9 : Int), ((r9 = 1 ∧ yLa g (Int.toNat a7) (Int.toNat b8)) ∨ (r9 = 0 ∧ ¬ yLa g (Int.toNat a7) (Int.toNat b8))) → ((r9 = 0 → (Y 121 [(3, 90), (1, k), (1, p), (1, c), (1, i), (1, v), (1, (yw (n + 0))), (1, (yw (j + 1)))] [] g)) ∧ (¬ (r9 = 0) → (((0 : Int) ≤ j ∧ j < ((6 : Nat) : Int)) ∧ ((v ≤ (g 113 (Int.toNat j)) → (Y 121 [(3, 90), (1, k), (1, p), (1, c), (1, i), (1, v), (1, (yw (n + 0))), (1, (yw (j + 1)))] [] g)) ∧ (¬ (v ≤ (g 113 (Int.toNat j))) → (Y 121 [(3, 90), (1, k), (1, p), (1, c), (1, i), (1, v), (1, (yw (n + 1))), (1, (yw (j + 1)))] [] g)))))))))) ∧ (¬ (r4 = 0) → (((0 : Int) ≤ j ∧ j < ((6 : Nat) : Int)) ∧ ((v < (g 113 (Int.toNat j)) → (Y 121 [(3, 90), (1, k), (1, p), (1, c), (1, i), (1, v), (1, (yw (n + 1))), (1, (yw (j + 1)))] [] g)) ∧ (¬ (v < (g 113 (Int.toNat j))) → (((0 : Int) ≤ j ∧ j < ((6 : Nat) : Int)) ∧ (∃ (a14 b15 : Int), [(3, 90), (1, (g 112 (Int.toNat j))), (1, c)] = [(3, 90), (1, a14), (1, b15)] ∧ (0 ≤ a14 ∧ a14 < 40) ∧ (0 ≤ b15 ∧ b15 < 40) ∧ (∀ (r16 : Int), ((r16 = 1 ∧ yLa g (Int.toNat a14) (Int.toNat b15)) ∨ (r16 = 0 ∧ ¬ yLa g (Int.toNat a14) (Int.toNat b15))) → ((r16 = 0 → (Y 121 [(3, 90), (1, k), (1, p), (1, c), (1, i), (1, v), (1, (yw (n + 0))), (1, (yw (j + 1)))] [] g)) ∧ (¬ (r16 = 0) → (((0 : Int) ≤ j ∧ j < ((6 : Nat) : Int)) ∧ ((v ≤ (g 113 (Int.toNat j)) → (Y 121 [(3, 90), (1, k), (1, p), (1, c), (1, i), (1, v), (1, (yw (n + 0))), (1, (yw (j + 1)))] [] g)) ∧ (¬ (v ≤ (g 113 (Int.toNat j))) → (Y 121 [(3, 90), (1, k), (1, p), (1, c), (1, i), (1, v), (1, (yw (n + 1))), (1, (yw (j + 1)))] [] g)))))))))))))))))))
    refine ⟨fun h1 => ?_, fun h1 => ?_⟩
    · obtain rfl : j = k := by omega
      exact hE n hn
    · refine ⟨(by omega), ?_⟩
      refine ⟨_, _, rfl, (by omega), (by omega), ?_⟩
      intro r4 p50
      refine ⟨fun h6 => ?_, fun h6 => ?_⟩
      · refine ⟨(by omega), ?_⟩
        refine ⟨_, _, rfl, (by omega), (by omega), ?_⟩
        intro r9 p100
        refine ⟨fun h11 => ?_, fun h11 => ?_⟩
        · omega
        · refine ⟨(by omega), ?_⟩
          refine ⟨fun h12 => ?_, fun h12 => ?_⟩
          · omega
          · omega
      · refine ⟨(by omega), ?_⟩
        refine ⟨fun h13 => ?_, fun h13 => ?_⟩
        · omega
        · refine ⟨(by omega), ?_⟩
          refine ⟨_, _, rfl, (by omega), (by omega), ?_⟩
          intro r16 p170
          refine ⟨fun h18 => ?_, fun h18 => ?_⟩
          · omega
          · refine ⟨(by omega), ?_⟩
            refine ⟨fun h19 => ?_, fun h19 => ?_⟩
            · omega
            · omega
  | succ d ih =>
    intro j hd h0 n hn
    refine yrun_ok (sp := fun pc => Nat.beq pc 121 || Nat.beq pc 197) hY 39 121 _ [] g ?_
    show ((k ≤ j → (Y 197 [(3, 90), (1, k), (1, p), (1, c), (1, i), (1, v), (1, n), (1, j)] [] g)) ∧ (¬ (k ≤ j) → (((0 : Int) ≤ j ∧ j < ((6 : Nat) : Int)) ∧ (∃ (a2 b3 : Int), [(3, 90), (1, c), (1, (g 112 (Int.toNat j)))] = [(3, 90), (1, a2), (1, b3)] ∧ (0 ≤ a2 ∧ a2 < 40) ∧ (0 ≤ b3 ∧ b3 < 40) ∧ (∀ (r4 : Int), ((r4 = 1 ∧ yLa g (Int.toNat a2) (Int.toNat b3)) ∨ (r4 = 0 ∧ ¬ yLa g (Int.toNat a2) (Int.toNat b3))) → ((r4 = 0 → (((0 : Int) ≤ j ∧ j < ((6 : Nat) : Int)) ∧ (∃ (a7 b8 : Int), [(3, 90), (1, (g 112 (Int.toNat j))), (1, c)] = [(3, 90), (1, a7), (1, b8)] ∧ (0 ≤ a7 ∧ a7 < 40) ∧ (0 ≤ b8 ∧ b8 < 40) ∧ (∀ (r9 : Int), ((r9 = 1 ∧ yLa g (Int.toNat a7) (Int.toNat b8)) ∨ (r9 = 0 ∧ ¬ yLa g (Int.toNat a7) (Int.toNat b8))) → ((r9 = 0 → (Y 121 [(3, 90), (1, k), (1, p), (1, c), (1, i), (1, v), (1, (yw (n + 0))), (1, (yw (j + 1)))] [] g)) ∧ (¬ (r9 = 0) → (((0 : Int) ≤ j ∧ j < ((6 : Nat) : Int)) ∧ ((v ≤ (g 113 (Int.toNat j)) → (Y 121 [(3, 90), (1, k), (1, p), (1, c), (1, i), (1, v), (1, (yw (n + 0))), (1, (yw (j + 1)))] [] g)) ∧ (¬ (v ≤ (g 113 (Int.toNat j))) → (Y 121 [(3, 90), (1, k), (1, p), (1, c), (1, i), (1, v), (1, (yw (n + 1))), (1, (yw (j + 1)))] [] g)))))))))) ∧ (¬ (r4 = 0) → (((0 : Int) ≤ j ∧ j < ((6 : Nat) : Int)) ∧ ((v < (g 113 (Int.toNat j)) → (Y 121 [(3, 90), (1, k), (1, p), (1, c), (1, i), (1, v), (1, (yw (n + 1))), (1, (yw (j + 1)))] [] g)) ∧ (¬ (v < (g 113 (Int.toNat j))) → (((0 : Int) ≤ j ∧ j < ((6 : Nat) : Int)) ∧ (∃ (a14 b15 : Int), [(3, 90), (1, (g 112 (Int.toNat j))), (1, c)] = [(3, 90), (1, a14), (1, b15)] ∧ (0 ≤ a14 ∧ a14 < 40) ∧ (0 ≤ b15 ∧ b15 < 40) ∧ (∀ (r16 : Int), ((r16 = 1 ∧ yLa g (Int.toNat a14) (Int.toNat b15)) ∨ (r16 = 0 ∧ ¬ yLa g (Int.toNat a14) (Int.toNat b15))) → ((r16 = 0 → (Y 121 [(3, 90), (1, k), (1, p), (1, c), (1, i), (1, v), (1, (yw (n + 0))), (1, (yw (j + 1)))] [] g)) ∧ (¬ (r16 = 0) → (((0 : Int) ≤ j ∧ j < ((6 : Nat) : Int)) ∧ ((v ≤ (g 113 (Int.toNat j)) → (Y 121 [(3, 90), (1, k), (1, p), (1, c), (1, i), (1, v), (1, (yw (n + 0))), (1, (yw (j + 1)))] [] g)) ∧ (¬ (v ≤ (g 113 (Int.toNat j))) → (Y 121 [(3, 90), (1, k), (1, p), (1, c), (1, i), (1, v), (1, (yw (n + 1))), (1, (yw (j + 1)))] [] g)))))))))))))))))))
    refine ⟨fun h1 => ?_, fun h1 => ?_⟩
    · omega
    · refine ⟨(by have gj := (hG.2 (Int.toNat j) (by omega)).1; omega), ?_⟩
      refine ⟨_, _, rfl, (by have gj := (hG.2 (Int.toNat j) (by omega)).1; omega), (by have gj := (hG.2 (Int.toNat j) (by omega)).1; omega), ?_⟩
      intro r4 p50
      refine ⟨fun h6 => ?_, fun h6 => ?_⟩
      · refine ⟨(by have gj := (hG.2 (Int.toNat j) (by omega)).1; omega), ?_⟩
        refine ⟨_, _, rfl, (by have gj := (hG.2 (Int.toNat j) (by omega)).1; omega), (by have gj := (hG.2 (Int.toNat j) (by omega)).1; omega), ?_⟩
        intro r9 p100
        refine ⟨fun h11 => ?_, fun h11 => ?_⟩
        · have yj : yw (j + 1) = j + 1 := yw_s (j + 1) (by omega) (by omega)
          have nb := @yDw_nb (yFlc g) (g 113) (Int.toNat k) (Int.toNat j)
          have ej : yAm g (Int.toNat j) = Int.toNat (g 112 (Int.toNat j)) := rfl
          have hs : yDw (yFlc g) (g 113) (Int.toNat k) (yDnL (Int.toNat j + 1)) = 0 + yDw (yFlc g) (g 113) (Int.toNat k) (yDnL (Int.toNat j)) := by
            refine yDs ?_
            rw [ek, ej, hv]
            rcases p50 with ⟨q1, q2⟩ | ⟨q1, q2⟩
            · rcases p100 with ⟨q3, q4⟩ | ⟨q3, q4⟩
              · first
                  | omega
                  | exact Or.inl ⟨rfl, Or.inl ⟨q2, by omega⟩⟩
                  | exact Or.inl ⟨rfl, Or.inr ⟨q4, by omega⟩⟩
                  | exact Or.inr ⟨rfl, (fun y => by have y2 := y.2; omega), (fun y => by have y2 := y.2; omega)⟩
              · first
                  | omega
                  | exact Or.inl ⟨rfl, Or.inl ⟨q2, by omega⟩⟩
                  | exact Or.inr ⟨rfl, (fun y => by have y2 := y.2; omega), (fun y => q4 y.1)⟩
            · rcases p100 with ⟨q3, q4⟩ | ⟨q3, q4⟩
              · first
                  | omega
                  | exact Or.inl ⟨rfl, Or.inr ⟨q4, by omega⟩⟩
                  | exact Or.inr ⟨rfl, (fun y => q2 y.1), (fun y => by have y2 := y.2; omega)⟩
              · first
                  | omega
                  | exact Or.inr ⟨rfl, (fun y => q2 y.1), (fun y => q4 y.1)⟩
          rw [yj]
          refine ih (j + 1) (by omega) (by omega) _ ?_
          rw [show Int.toNat (j + 1) = Int.toNat j + 1 by omega, hs, yw_s (n + 0) (by omega) (by omega), hn]
          omega
        · refine ⟨(by have gj := (hG.2 (Int.toNat j) (by omega)).1; omega), ?_⟩
          refine ⟨fun h12 => ?_, fun h12 => ?_⟩
          · have yj : yw (j + 1) = j + 1 := yw_s (j + 1) (by omega) (by omega)
            have nb := @yDw_nb (yFlc g) (g 113) (Int.toNat k) (Int.toNat j)
            have ej : yAm g (Int.toNat j) = Int.toNat (g 112 (Int.toNat j)) := rfl
            have hs : yDw (yFlc g) (g 113) (Int.toNat k) (yDnL (Int.toNat j + 1)) = 0 + yDw (yFlc g) (g 113) (Int.toNat k) (yDnL (Int.toNat j)) := by
              refine yDs ?_
              rw [ek, ej, hv]
              rcases p50 with ⟨q1, q2⟩ | ⟨q1, q2⟩
              · rcases p100 with ⟨q3, q4⟩ | ⟨q3, q4⟩
                · first
                    | omega
                    | exact Or.inl ⟨rfl, Or.inl ⟨q2, by omega⟩⟩
                    | exact Or.inl ⟨rfl, Or.inr ⟨q4, by omega⟩⟩
                    | exact Or.inr ⟨rfl, (fun y => by have y2 := y.2; omega), (fun y => by have y2 := y.2; omega)⟩
                · first
                    | omega
                    | exact Or.inl ⟨rfl, Or.inl ⟨q2, by omega⟩⟩
                    | exact Or.inr ⟨rfl, (fun y => by have y2 := y.2; omega), (fun y => q4 y.1)⟩
              · rcases p100 with ⟨q3, q4⟩ | ⟨q3, q4⟩
                · first
                    | omega
                    | exact Or.inl ⟨rfl, Or.inr ⟨q4, by omega⟩⟩
                    | exact Or.inr ⟨rfl, (fun y => q2 y.1), (fun y => by have y2 := y.2; omega)⟩
                · first
                    | omega
                    | exact Or.inr ⟨rfl, (fun y => q2 y.1), (fun y => q4 y.1)⟩
            rw [yj]
            refine ih (j + 1) (by omega) (by omega) _ ?_
            rw [show Int.toNat (j + 1) = Int.toNat j + 1 by omega, hs, yw_s (n + 0) (by omega) (by omega), hn]
            omega
          · have yj : yw (j + 1) = j + 1 := yw_s (j + 1) (by omega) (by omega)
            have nb := @yDw_nb (yFlc g) (g 113) (Int.toNat k) (Int.toNat j)
            have ej : yAm g (Int.toNat j) = Int.toNat (g 112 (Int.toNat j)) := rfl
            have hs : yDw (yFlc g) (g 113) (Int.toNat k) (yDnL (Int.toNat j + 1)) = 1 + yDw (yFlc g) (g 113) (Int.toNat k) (yDnL (Int.toNat j)) := by
              refine yDs ?_
              rw [ek, ej, hv]
              rcases p50 with ⟨q1, q2⟩ | ⟨q1, q2⟩
              · rcases p100 with ⟨q3, q4⟩ | ⟨q3, q4⟩
                · first
                    | omega
                    | exact Or.inl ⟨rfl, Or.inl ⟨q2, by omega⟩⟩
                    | exact Or.inl ⟨rfl, Or.inr ⟨q4, by omega⟩⟩
                    | exact Or.inr ⟨rfl, (fun y => by have y2 := y.2; omega), (fun y => by have y2 := y.2; omega)⟩
                · first
                    | omega
                    | exact Or.inl ⟨rfl, Or.inl ⟨q2, by omega⟩⟩
                    | exact Or.inr ⟨rfl, (fun y => by have y2 := y.2; omega), (fun y => q4 y.1)⟩
              · rcases p100 with ⟨q3, q4⟩ | ⟨q3, q4⟩
                · first
                    | omega
                    | exact Or.inl ⟨rfl, Or.inr ⟨q4, by omega⟩⟩
                    | exact Or.inr ⟨rfl, (fun y => q2 y.1), (fun y => by have y2 := y.2; omega)⟩
                · first
                    | omega
                    | exact Or.inr ⟨rfl, (fun y => q2 y.1), (fun y => q4 y.1)⟩
            rw [yj]
            refine ih (j + 1) (by omega) (by omega) _ ?_
            rw [show Int.toNat (j + 1) = Int.toNat j + 1 by omega, hs, yw_s (n + 1) (by omega) (by omega), hn]
            omega
      · refine ⟨(by have gj := (hG.2 (Int.toNat j) (by omega)).1; omega), ?_⟩
        refine ⟨fun h13 => ?_, fun h13 => ?_⟩
        · have yj : yw (j + 1) = j + 1 := yw_s (j + 1) (by omega) (by omega)
          have nb := @yDw_nb (yFlc g) (g 113) (Int.toNat k) (Int.toNat j)
          have ej : yAm g (Int.toNat j) = Int.toNat (g 112 (Int.toNat j)) := rfl
          have hs : yDw (yFlc g) (g 113) (Int.toNat k) (yDnL (Int.toNat j + 1)) = 1 + yDw (yFlc g) (g 113) (Int.toNat k) (yDnL (Int.toNat j)) := by
            refine yDs ?_
            rw [ek, ej, hv]
            rcases p50 with ⟨q1, q2⟩ | ⟨q1, q2⟩
            · first
                | omega
                | exact Or.inl ⟨rfl, Or.inl ⟨q2, by omega⟩⟩
                | exact Or.inr ⟨rfl, (fun y => by have y2 := y.2; omega), (fun y => by have y2 := y.2; omega)⟩
            · first
                | omega
                | exact Or.inr ⟨rfl, (fun y => q2 y.1), (fun y => by have y2 := y.2; omega)⟩
          rw [yj]
          refine ih (j + 1) (by omega) (by omega) _ ?_
          rw [show Int.toNat (j + 1) = Int.toNat j + 1 by omega, hs, yw_s (n + 1) (by omega) (by omega), hn]
          omega
        · refine ⟨(by have gj := (hG.2 (Int.toNat j) (by omega)).1; omega), ?_⟩
          refine ⟨_, _, rfl, (by have gj := (hG.2 (Int.toNat j) (by omega)).1; omega), (by have gj := (hG.2 (Int.toNat j) (by omega)).1; omega), ?_⟩
          intro r16 p170
          refine ⟨fun h18 => ?_, fun h18 => ?_⟩
          · have yj : yw (j + 1) = j + 1 := yw_s (j + 1) (by omega) (by omega)
            have nb := @yDw_nb (yFlc g) (g 113) (Int.toNat k) (Int.toNat j)
            have ej : yAm g (Int.toNat j) = Int.toNat (g 112 (Int.toNat j)) := rfl
            have hs : yDw (yFlc g) (g 113) (Int.toNat k) (yDnL (Int.toNat j + 1)) = 0 + yDw (yFlc g) (g 113) (Int.toNat k) (yDnL (Int.toNat j)) := by
              refine yDs ?_
              rw [ek, ej, hv]
              rcases p50 with ⟨q1, q2⟩ | ⟨q1, q2⟩
              · rcases p170 with ⟨q3, q4⟩ | ⟨q3, q4⟩
                · first
                    | omega
                    | exact Or.inl ⟨rfl, Or.inl ⟨q2, by omega⟩⟩
                    | exact Or.inl ⟨rfl, Or.inr ⟨q4, by omega⟩⟩
                    | exact Or.inr ⟨rfl, (fun y => by have y2 := y.2; omega), (fun y => by have y2 := y.2; omega)⟩
                · first
                    | omega
                    | exact Or.inl ⟨rfl, Or.inl ⟨q2, by omega⟩⟩
                    | exact Or.inr ⟨rfl, (fun y => by have y2 := y.2; omega), (fun y => q4 y.1)⟩
              · rcases p170 with ⟨q3, q4⟩ | ⟨q3, q4⟩
                · first
                    | omega
                    | exact Or.inl ⟨rfl, Or.inr ⟨q4, by omega⟩⟩
                    | exact Or.inr ⟨rfl, (fun y => q2 y.1), (fun y => by have y2 := y.2; omega)⟩
                · first
                    | omega
                    | exact Or.inr ⟨rfl, (fun y => q2 y.1), (fun y => q4 y.1)⟩
            rw [yj]
            refine ih (j + 1) (by omega) (by omega) _ ?_
            rw [show Int.toNat (j + 1) = Int.toNat j + 1 by omega, hs, yw_s (n + 0) (by omega) (by omega), hn]
            omega
          · refine ⟨(by have gj := (hG.2 (Int.toNat j) (by omega)).1; omega), ?_⟩
            refine ⟨fun h19 => ?_, fun h19 => ?_⟩
            · have yj : yw (j + 1) = j + 1 := yw_s (j + 1) (by omega) (by omega)
              have nb := @yDw_nb (yFlc g) (g 113) (Int.toNat k) (Int.toNat j)
              have ej : yAm g (Int.toNat j) = Int.toNat (g 112 (Int.toNat j)) := rfl
              have hs : yDw (yFlc g) (g 113) (Int.toNat k) (yDnL (Int.toNat j + 1)) = 0 + yDw (yFlc g) (g 113) (Int.toNat k) (yDnL (Int.toNat j)) := by
                refine yDs ?_
                rw [ek, ej, hv]
                rcases p50 with ⟨q1, q2⟩ | ⟨q1, q2⟩
                · rcases p170 with ⟨q3, q4⟩ | ⟨q3, q4⟩
                  · first
                      | omega
                      | exact Or.inl ⟨rfl, Or.inl ⟨q2, by omega⟩⟩
                      | exact Or.inl ⟨rfl, Or.inr ⟨q4, by omega⟩⟩
                      | exact Or.inr ⟨rfl, (fun y => by have y2 := y.2; omega), (fun y => by have y2 := y.2; omega)⟩
                  · first
                      | omega
                      | exact Or.inl ⟨rfl, Or.inl ⟨q2, by omega⟩⟩
                      | exact Or.inr ⟨rfl, (fun y => by have y2 := y.2; omega), (fun y => q4 y.1)⟩
                · rcases p170 with ⟨q3, q4⟩ | ⟨q3, q4⟩
                  · first
                      | omega
                      | exact Or.inl ⟨rfl, Or.inr ⟨q4, by omega⟩⟩
                      | exact Or.inr ⟨rfl, (fun y => q2 y.1), (fun y => by have y2 := y.2; omega)⟩
                  · first
                      | omega
                      | exact Or.inr ⟨rfl, (fun y => q2 y.1), (fun y => q4 y.1)⟩
              rw [yj]
              refine ih (j + 1) (by omega) (by omega) _ ?_
              rw [show Int.toNat (j + 1) = Int.toNat j + 1 by omega, hs, yw_s (n + 0) (by omega) (by omega), hn]
              omega
            · have yj : yw (j + 1) = j + 1 := yw_s (j + 1) (by omega) (by omega)
              have nb := @yDw_nb (yFlc g) (g 113) (Int.toNat k) (Int.toNat j)
              have ej : yAm g (Int.toNat j) = Int.toNat (g 112 (Int.toNat j)) := rfl
              have hs : yDw (yFlc g) (g 113) (Int.toNat k) (yDnL (Int.toNat j + 1)) = 1 + yDw (yFlc g) (g 113) (Int.toNat k) (yDnL (Int.toNat j)) := by
                refine yDs ?_
                rw [ek, ej, hv]
                rcases p50 with ⟨q1, q2⟩ | ⟨q1, q2⟩
                · rcases p170 with ⟨q3, q4⟩ | ⟨q3, q4⟩
                  · first
                      | omega
                      | exact Or.inl ⟨rfl, Or.inl ⟨q2, by omega⟩⟩
                      | exact Or.inl ⟨rfl, Or.inr ⟨q4, by omega⟩⟩
                      | exact Or.inr ⟨rfl, (fun y => by have y2 := y.2; omega), (fun y => by have y2 := y.2; omega)⟩
                  · first
                      | omega
                      | exact Or.inl ⟨rfl, Or.inl ⟨q2, by omega⟩⟩
                      | exact Or.inr ⟨rfl, (fun y => by have y2 := y.2; omega), (fun y => q4 y.1)⟩
                · rcases p170 with ⟨q3, q4⟩ | ⟨q3, q4⟩
                  · first
                      | omega
                      | exact Or.inl ⟨rfl, Or.inr ⟨q4, by omega⟩⟩
                      | exact Or.inr ⟨rfl, (fun y => q2 y.1), (fun y => by have y2 := y.2; omega)⟩
                  · first
                      | omega
                      | exact Or.inr ⟨rfl, (fun y => q2 y.1), (fun y => q4 y.1)⟩
              rw [yj]
              refine ih (j + 1) (by omega) (by omega) _ ?_
              rw [show Int.toNat (j + 1) = Int.toNat j + 1 by omega, hs, yw_s (n + 1) (by omega) (by omega), hn]
              omega
set_option maxRecDepth 8000 in
theorem yl_CF2 {K : List yV → yM → Prop} {Y : yNx} {g : yM} {k p c : Int} (hY : yCl zpD146 (zpZ, zpRS, zpP12, zpMT, [yC_LTO, yC_ILT, yC_CF1], (4, 116), 0) K Y) (hG : yFgd g) (hk : (0 ≤ k ∧ k < g 90 36) ∧ g 90 36 - k ≤ 2) (hc : c = g 112 (Int.toNat k)) (hp : p = yCw (yFlc g) (g 113) (yDnL (Int.toNat k)) ∧ 0 ≤ p ∧ p ≤ 12 * k) (hF : 0 ≤ g 90 37 ∧ g 90 37 ≤ 99) (hK : ∀ g' : yM, yTy zpZ g' → yFk k g g' → yFrs g g' (yCo g k) → K [] g') : ∀ (d : Nat) (i : Int), i + d = 2 * g 90 36 → 0 ≤ i → ∀ (m : yM) (y5 y6 y7 : yV), yTy zpZ m → yFk k g m → yFrs g m (yPi g k (Int.toNat i)) → Y 33 [(3, 90), (1, k), (1, p), (1, c), (1, i), y5, y6, y7] [] m := by
  have h36 := hG.1
  have gk := hG.2 (Int.toNat k) (by omega)
  have ek : yAm g (Int.toNat k) = Int.toNat c := by rw [hc]; rfl
  rw [ek] at gk
  intro d
  induction d with
  | zero =>
    intro i hd h0 m y5 y6 y7 hT f hr
    have z := f.z
    have e36 := z.mn
    have e2w : yw (2 * m 90 36) = 2 * m 90 36 := yw_s (2 * m 90 36) (by omega) (by omega)
    have e104 : m 104 (Int.toNat c) = g 104 (Int.toNat c) := z 104 _ (by decide) (by omega)
    have eEk : m 110 (Int.toNat c) = g 110 (Int.toNat c) := z.ea _
    have eLk : yMl m (Int.toNat c) = yMl g (Int.toNat c) := z.ml _
    refine yrun_ok (sp := fun pc => Nat.beq pc 33 || Nat.beq pc 121) hY 42 33 _ [] m ?_
    show (((yw (2 * (m 90 36))) ≤ i → (K [] m)) ∧ (¬ ((yw (2 * (m 90 36))) ≤ i) → ((2 : Int) ≠ 0 ∧ (((yb (fun x y => x - x / y * y) i 2) ≠ 0 → ((2 : Int) ≠ 0 ∧ (((0 : Int) ≤ (yb (fun x y => x / y) i 2) ∧ (yb (fun x y => x / y) i 2) < ((6 : Nat) : Int)) ∧ (∃ (w3 : Int), [(3, 90), (1, (m 112 (Int.toNat (yb (fun x y => x / y) i 2))))] = [(3, 90), (1, w3)] ∧ (0 ≤ w3 ∧ w3 < 40) ∧ (0 ≤ m 104 (Int.toNat w3) ∧ m 104 (Int.toNat w3) ≤ 5) ∧ (∀ (r4 : Int), (r4 = yMl m (Int.toNat w3)) → (((0 : Int) ≤ c ∧ c < ((40 : Nat) : Int)) ∧ ((r4 < (m 110 (Int.toNat c)) → (Y 33 [(3, 90), (1, k), (1, p), (1, c), (1, (yw (i + 1))), (1, r4), y6, y7] [] m)) ∧ (¬ (r4 < (m 110 (Int.toNat c))) → (∃ (w7 : Int), [(3, 90), (1, c)] = [(3, 90), (1, w7)] ∧ (0 ≤ w7 ∧ w7 < 40) ∧ (0 ≤ m 104 (Int.toNat w7) ∧ m 104 (Int.toNat w7) ≤ 5) ∧ (∀ (r8 : Int), (r8 = yMl m (Int.toNat w7)) → ((r4 ≤ r8 → (((0 : Int) ≤ k ∧ k < ((6 : Nat) : Int)) ∧ (Y 121 [(3, 90), (1, k), (1, p), (1, c), (1, i), (1, r4), (1, p), (1, 0)] [] (yset m 113 (Int.toNat k) r4)))) ∧ (¬ (r4 ≤ r8) → (Y 33 [(3, 90), (1, k), (1, p), (1, c), (1, (yw (i + 1))), (1, r4), y6, y7] [] m))))))))))))) ∧ (¬ ((yb (fun x y => x - x / y * y) i 2) ≠ 0) → ((2 : Int) ≠ 0 ∧ (((0 : Int) ≤ (yb (fun x y => x / y) i 2) ∧ (yb (fun x y => x / y) i 2) < ((6 : Nat) : Int)) ∧ (((0 : Int) ≤ (m 112 (Int.toNat (yb (fun x y => x / y) i 2))) ∧ (m 112 (Int.toNat (yb (fun x y => x / y) i 2))) < ((40 : Nat) : Int)) ∧ (((0 : Int) ≤ c ∧ c < ((40 : Nat) : Int)) ∧ (((m 110 (Int.toNat (m 112 (Int.toNat (yb (fun x y => x / y) i 2))))) < (m 110 (Int.toNat c)) → (Y 33 [(3, 90), (1, k), (1, p), (1, c), (1, (yw (i + 1))), (1, (m 110 (Int.toNat (m 112 (Int.toNat (yb (fun x y => x / y) i 2)))))), y6, y7] [] m)) ∧ (¬ ((m 110 (Int.toNat (m 112 (Int.toNat (yb (fun x y => x / y) i 2))))) < (m 110 (Int.toNat c))) → (∃ (w12 : Int), [(3, 90), (1, c)] = [(3, 90), (1, w12)] ∧ (0 ≤ w12 ∧ w12 < 40) ∧ (0 ≤ m 104 (Int.toNat w12) ∧ m 104 (Int.toNat w12) ≤ 5) ∧ (∀ (r13 : Int), (r13 = yMl m (Int.toNat w12)) → (((m 110 (Int.toNat (m 112 (Int.toNat (yb (fun x y => x / y) i 2))))) ≤ r13 → (((0 : Int) ≤ k ∧ k < ((6 : Nat) : Int)) ∧ (Y 121 [(3, 90), (1, k), (1, p), (1, c), (1, i), (1, (m 110 (Int.toNat (m 112 (Int.toNat (yb (fun x y => x / y) i 2)))))), (1, p), (1, 0)] [] (yset m 113 (Int.toNat k) (m 110 (Int.toNat (m 112 (Int.toNat (yb (fun x y => x / y) i 2))))))))) ∧ (¬ ((m 110 (Int.toNat (m 112 (Int.toNat (yb (fun x y => x / y) i 2))))) ≤ r13) → (Y 33 [(3, 90), (1, k), (1, p), (1, c), (1, (yw (i + 1))), (1, (m 110 (Int.toNat (m 112 (Int.toNat (yb (fun x y => x / y) i 2)))))), y6, y7] [] m))))))))))))))))
    refine ⟨fun h1 => ?_, fun h1 => ?_⟩
    · obtain rfl : i = 2 * g 90 36 := by omega
      exact hK m hT f (hr.al hk.1)
    · refine ⟨(by omega), ?_⟩
      refine ⟨fun h2 => ?_, fun h2 => ?_⟩
      · refine ⟨(by omega), ?_⟩
        refine ⟨(by omega), ?_⟩
        refine ⟨_, rfl, (by omega), (by omega), ?_⟩
        intro r4 p50
        refine ⟨(by omega), ?_⟩
        refine ⟨fun h6 => ?_, fun h6 => ?_⟩
        · omega
        · refine ⟨_, rfl, (by omega), (by omega), ?_⟩
          intro r8 p90
          refine ⟨fun h10 => ?_, fun h10 => ?_⟩
          · refine ⟨(by omega), ?_⟩
            omega
          · omega
      · refine ⟨(by omega), ?_⟩
        refine ⟨(by omega), ?_⟩
        refine ⟨(by omega), ?_⟩
        refine ⟨(by omega), ?_⟩
        refine ⟨fun h11 => ?_, fun h11 => ?_⟩
        · omega
        · refine ⟨_, rfl, (by omega), (by omega), ?_⟩
          intro r13 p140
          refine ⟨fun h15 => ?_, fun h15 => ?_⟩
          · refine ⟨(by omega), ?_⟩
            omega
          · omega
  | succ d ih =>
    intro i hd h0 m y5 y6 y7 hT f hr
    have z := f.z
    have e36 := z.mn
    have e2w : yw (2 * m 90 36) = 2 * m 90 36 := yw_s (2 * m 90 36) (by omega) (by omega)
    have e104 : m 104 (Int.toNat c) = g 104 (Int.toNat c) := z 104 _ (by decide) (by omega)
    have eEk : m 110 (Int.toNat c) = g 110 (Int.toNat c) := z.ea _
    have eLk : yMl m (Int.toNat c) = yMl g (Int.toNat c) := z.ml _
    refine yrun_ok (sp := fun pc => Nat.beq pc 33 || Nat.beq pc 121) hY 42 33 _ [] m ?_
    show (((yw (2 * (m 90 36))) ≤ i → (K [] m)) ∧ (¬ ((yw (2 * (m 90 36))) ≤ i) → ((2 : Int) ≠ 0 ∧ (((yb (fun x y => x - x / y * y) i 2) ≠ 0 → ((2 : Int) ≠ 0 ∧ (((0 : Int) ≤ (yb (fun x y => x / y) i 2) ∧ (yb (fun x y => x / y) i 2) < ((6 : Nat) : Int)) ∧ (∃ (w3 : Int), [(3, 90), (1, (m 112 (Int.toNat (yb (fun x y => x / y) i 2))))] = [(3, 90), (1, w3)] ∧ (0 ≤ w3 ∧ w3 < 40) ∧ (0 ≤ m 104 (Int.toNat w3) ∧ m 104 (Int.toNat w3) ≤ 5) ∧ (∀ (r4 : Int), (r4 = yMl m (Int.toNat w3)) → (((0 : Int) ≤ c ∧ c < ((40 : Nat) : Int)) ∧ ((r4 < (m 110 (Int.toNat c)) → (Y 33 [(3, 90), (1, k), (1, p), (1, c), (1, (yw (i + 1))), (1, r4), y6, y7] [] m)) ∧ (¬ (r4 < (m 110 (Int.toNat c))) → (∃ (w7 : Int), [(3, 90), (1, c)] = [(3, 90), (1, w7)] ∧ (0 ≤ w7 ∧ w7 < 40) ∧ (0 ≤ m 104 (Int.toNat w7) ∧ m 104 (Int.toNat w7) ≤ 5) ∧ (∀ (r8 : Int), (r8 = yMl m (Int.toNat w7)) → ((r4 ≤ r8 → (((0 : Int) ≤ k ∧ k < ((6 : Nat) : Int)) ∧ (Y 121 [(3, 90), (1, k), (1, p), (1, c), (1, i), (1, r4), (1, p), (1, 0)] [] (yset m 113 (Int.toNat k) r4)))) ∧ (¬ (r4 ≤ r8) → (Y 33 [(3, 90), (1, k), (1, p), (1, c), (1, (yw (i + 1))), (1, r4), y6, y7] [] m))))))))))))) ∧ (¬ ((yb (fun x y => x - x / y * y) i 2) ≠ 0) → ((2 : Int) ≠ 0 ∧ (((0 : Int) ≤ (yb (fun x y => x / y) i 2) ∧ (yb (fun x y => x / y) i 2) < ((6 : Nat) : Int)) ∧ (((0 : Int) ≤ (m 112 (Int.toNat (yb (fun x y => x / y) i 2))) ∧ (m 112 (Int.toNat (yb (fun x y => x / y) i 2))) < ((40 : Nat) : Int)) ∧ (((0 : Int) ≤ c ∧ c < ((40 : Nat) : Int)) ∧ (((m 110 (Int.toNat (m 112 (Int.toNat (yb (fun x y => x / y) i 2))))) < (m 110 (Int.toNat c)) → (Y 33 [(3, 90), (1, k), (1, p), (1, c), (1, (yw (i + 1))), (1, (m 110 (Int.toNat (m 112 (Int.toNat (yb (fun x y => x / y) i 2)))))), y6, y7] [] m)) ∧ (¬ ((m 110 (Int.toNat (m 112 (Int.toNat (yb (fun x y => x / y) i 2))))) < (m 110 (Int.toNat c))) → (∃ (w12 : Int), [(3, 90), (1, c)] = [(3, 90), (1, w12)] ∧ (0 ≤ w12 ∧ w12 < 40) ∧ (0 ≤ m 104 (Int.toNat w12) ∧ m 104 (Int.toNat w12) ≤ 5) ∧ (∀ (r13 : Int), (r13 = yMl m (Int.toNat w12)) → (((m 110 (Int.toNat (m 112 (Int.toNat (yb (fun x y => x / y) i 2))))) ≤ r13 → (((0 : Int) ≤ k ∧ k < ((6 : Nat) : Int)) ∧ (Y 121 [(3, 90), (1, k), (1, p), (1, c), (1, i), (1, (m 110 (Int.toNat (m 112 (Int.toNat (yb (fun x y => x / y) i 2)))))), (1, p), (1, 0)] [] (yset m 113 (Int.toNat k) (m 110 (Int.toNat (m 112 (Int.toNat (yb (fun x y => x / y) i 2))))))))) ∧ (¬ ((m 110 (Int.toNat (m 112 (Int.toNat (yb (fun x y => x / y) i 2))))) ≤ r13) → (Y 33 [(3, 90), (1, k), (1, p), (1, c), (1, (yw (i + 1))), (1, (m 110 (Int.toNat (m 112 (Int.toNat (yb (fun x y => x / y) i 2)))))), y6, y7] [] m))))))))))))))))
    refine ⟨fun h1 => ?_, fun h1 => ?_⟩
    · omega
    · refine ⟨(by decide), ?_⟩
      refine ⟨fun h2 => ?_, fun h2 => ?_⟩
      · refine ⟨(by decide), ?_⟩
        refine ⟨(by
      obtain ⟨d1, d2⟩ := yH2 (i := i) (by omega)
      have gi := (z.gd hG).2 (Int.toNat i / 2) (by omega)
      first
        | omega
        | (rw [d1]; omega)
        | (rw [d1, Int.toNat_natCast]; exact gi.1)
        | (rw [d1, Int.toNat_natCast]; exact gi.2)), ?_⟩
        refine ⟨_, rfl, (by
      obtain ⟨d1, d2⟩ := yH2 (i := i) (by omega)
      have gi := (z.gd hG).2 (Int.toNat i / 2) (by omega)
      first
        | omega
        | (rw [d1]; omega)
        | (rw [d1, Int.toNat_natCast]; exact gi.1)
        | (rw [d1, Int.toNat_natCast]; exact gi.2)), (by
      obtain ⟨d1, d2⟩ := yH2 (i := i) (by omega)
      have gi := (z.gd hG).2 (Int.toNat i / 2) (by omega)
      first
        | omega
        | (rw [d1]; omega)
        | (rw [d1, Int.toNat_natCast]; exact gi.1)
        | (rw [d1, Int.toNat_natCast]; exact gi.2)), ?_⟩
        intro r4 p50
        refine ⟨(by
      obtain ⟨d1, d2⟩ := yH2 (i := i) (by omega)
      have gi := (z.gd hG).2 (Int.toNat i / 2) (by omega)
      first
        | omega
        | (rw [d1]; omega)
        | (rw [d1, Int.toNat_natCast]; exact gi.1)
        | (rw [d1, Int.toNat_natCast]; exact gi.2)), ?_⟩
        refine ⟨fun h6 => ?_, fun h6 => ?_⟩
        · obtain ⟨d1, d2⟩ := yH2 (i := i) (by omega)
          have gi := (z.gd hG).2 (Int.toNat i / 2) (by omega)
          have yi : yw (i + 1) = i + 1 := yw_s (i + 1) (by omega) (by omega)
          have ti : Int.toNat (i + 1) = Int.toNat i + 1 := by omega
          rw [d2] at h2
          have eA : Int.toNat (m 112 (Int.toNat i / 2)) = yAm g (Int.toNat i / 2) := z.am _
          have hV : r4 = yVi g (Int.toNat i) := by
            have e := p50
            rw [d1, Int.toNat_natCast, eA, z.ml] at e
            rw [e]
            unfold yVi
            rw [if_neg (by omega)]
          rw [yi]
          refine ih (i + 1) (by omega) (by omega) m _ _ _ hT f ?_
          rw [ti]
          exact hr.sk hk.1 (fun y => by rw [ek, ← hV] at y; omega)
        · refine ⟨_, rfl, (by
      obtain ⟨d1, d2⟩ := yH2 (i := i) (by omega)
      have gi := (z.gd hG).2 (Int.toNat i / 2) (by omega)
      first
        | omega
        | (rw [d1]; omega)
        | (rw [d1, Int.toNat_natCast]; exact gi.1)
        | (rw [d1, Int.toNat_natCast]; exact gi.2)), (by
      obtain ⟨d1, d2⟩ := yH2 (i := i) (by omega)
      have gi := (z.gd hG).2 (Int.toNat i / 2) (by omega)
      first
        | omega
        | (rw [d1]; omega)
        | (rw [d1, Int.toNat_natCast]; exact gi.1)
        | (rw [d1, Int.toNat_natCast]; exact gi.2)), ?_⟩
          intro r8 p90
          refine ⟨fun h10 => ?_, fun h10 => ?_⟩
          · refine ⟨(by
      obtain ⟨d1, d2⟩ := yH2 (i := i) (by omega)
      have gi := (z.gd hG).2 (Int.toNat i / 2) (by omega)
      first
        | omega
        | (rw [d1]; omega)
        | (rw [d1, Int.toNat_natCast]; exact gi.1)
        | (rw [d1, Int.toNat_natCast]; exact gi.2)), ?_⟩
            obtain ⟨d1, d2⟩ := yH2 (i := i) (by omega)
            have gi := (z.gd hG).2 (Int.toNat i / 2) (by omega)
            have yi : yw (i + 1) = i + 1 := yw_s (i + 1) (by omega) (by omega)
            have ti : Int.toNat (i + 1) = Int.toNat i + 1 := by omega
            rw [d2] at h2
            have eA : Int.toNat (m 112 (Int.toNat i / 2)) = yAm g (Int.toNat i / 2) := z.am _
            have hV : r4 = yVi g (Int.toNat i) := by
              have e := p50
              rw [d1, Int.toNat_natCast, eA, z.ml] at e
              rw [e]
              unfold yVi
              rw [if_neg (by omega)]
            have hR : g 110 (yAm g (Int.toNat k)) ≤ yVi g (Int.toNat i) ∧ yVi g (Int.toNat i) ≤ yMl g (yAm g (Int.toNat k)) := by
              rw [ek, ← hV]
              omega
            rw [hV]
            have vr : -2147483648 ≤ yVi g (Int.toNat i) ∧ yVi g (Int.toNat i) ≤ 2147483647 := by
              have r1 := hT.fA (j := Int.toNat c) (List.mem_of_getElem? (i := 62) rfl) (by omega)
              have r2 : -2147483648 ≤ yMl g (Int.toNat c) ∧ yMl g (Int.toNat c) ≤ 2147483647 := yw_rng _
              rw [ek] at hR
              omega
            have fp : yFk k g (yset m 113 (Int.toNat k) (yVi g (Int.toNat i))) := f.put hk.1.1
            have e37 : (yset m 113 (Int.toNat k) (yVi g (Int.toNat i))) 90 37 = m 90 37 := yset_nc (by decide)
            have hr1 := hr.1
            refine yj_CF2 hY (fp.z.gd hG) (by rw [fp.z.mn]; exact hk.1) (by rw [fp.z 112 _ (by decide) (by omega)]; exact hc) yset_eq hp.2 (fun n hn => ?_) (Int.toNat k) 0 (by omega) (by decide) p (by show p = p + 0; omega)
            have hn2 := yCw_nx fp.z (fun j hj => fp.lo hj) hk.1.1 hp.1 hn
            have nb := @yDw_nb (yFlc (yset m 113 (Int.toNat k) (yVi g (Int.toNat i)))) ((yset m 113 (Int.toNat k) (yVi g (Int.toNat i))) 113) (Int.toNat k) (Int.toNat k)
            refine yt_CF2 hY (hT.sA (List.mem_of_getElem? (i := 65) rfl) (by decide +kernel) vr) (fp.z.gd hG) (by rw [fp.z.mn]; exact hk) ⟨hn2, by omega, by omega⟩ (by rw [e37]; omega) (by omega) (fun g3 t1 t2 t3 => ?_)
            refine ih (i + 1) (by omega) (by omega) g3 _ _ _ t1 (fp.tr t2 (by omega)) ?_
            rw [ti]
            exact yFrs.tk hk.1 (by omega) f hr hR t3
          · obtain ⟨d1, d2⟩ := yH2 (i := i) (by omega)
            have gi := (z.gd hG).2 (Int.toNat i / 2) (by omega)
            have yi : yw (i + 1) = i + 1 := yw_s (i + 1) (by omega) (by omega)
            have ti : Int.toNat (i + 1) = Int.toNat i + 1 := by omega
            rw [d2] at h2
            have eA : Int.toNat (m 112 (Int.toNat i / 2)) = yAm g (Int.toNat i / 2) := z.am _
            have hV : r4 = yVi g (Int.toNat i) := by
              have e := p50
              rw [d1, Int.toNat_natCast, eA, z.ml] at e
              rw [e]
              unfold yVi
              rw [if_neg (by omega)]
            rw [yi]
            refine ih (i + 1) (by omega) (by omega) m _ _ _ hT f ?_
            rw [ti]
            exact hr.sk hk.1 (fun y => by rw [ek, ← hV] at y; omega)
      · refine ⟨(by decide), ?_⟩
        refine ⟨(by
      obtain ⟨d1, d2⟩ := yH2 (i := i) (by omega)
      have gi := (z.gd hG).2 (Int.toNat i / 2) (by omega)
      first
        | omega
        | (rw [d1]; omega)
        | (rw [d1, Int.toNat_natCast]; exact gi.1)
        | (rw [d1, Int.toNat_natCast]; exact gi.2)), ?_⟩
        refine ⟨(by
      obtain ⟨d1, d2⟩ := yH2 (i := i) (by omega)
      have gi := (z.gd hG).2 (Int.toNat i / 2) (by omega)
      first
        | omega
        | (rw [d1]; omega)
        | (rw [d1, Int.toNat_natCast]; exact gi.1)
        | (rw [d1, Int.toNat_natCast]; exact gi.2)), ?_⟩
        refine ⟨(by
      obtain ⟨d1, d2⟩ := yH2 (i := i) (by omega)
      have gi := (z.gd hG).2 (Int.toNat i / 2) (by omega)
      first
        | omega
        | (rw [d1]; omega)
        | (rw [d1, Int.toNat_natCast]; exact gi.1)
        | (rw [d1, Int.toNat_natCast]; exact gi.2)), ?_⟩
        refine ⟨fun h11 => ?_, fun h11 => ?_⟩
        · obtain ⟨d1, d2⟩ := yH2 (i := i) (by omega)
          have gi := (z.gd hG).2 (Int.toNat i / 2) (by omega)
          have yi : yw (i + 1) = i + 1 := yw_s (i + 1) (by omega) (by omega)
          have ti : Int.toNat (i + 1) = Int.toNat i + 1 := by omega
          rw [d2] at h2
          have eA : Int.toNat (m 112 (Int.toNat i / 2)) = yAm g (Int.toNat i / 2) := z.am _
          have hV : (m 110 (Int.toNat (m 112 (Int.toNat (yb (fun x y => x / y) i 2))))) = yVi g (Int.toNat i) := by
            rw [d1, Int.toNat_natCast, eA, z.ea]
            unfold yVi
            rw [if_pos (by omega)]
          rw [yi]
          refine ih (i + 1) (by omega) (by omega) m _ _ _ hT f ?_
          rw [ti]
          exact hr.sk hk.1 (fun y => by rw [ek, ← hV] at y; omega)
        · refine ⟨_, rfl, (by
      obtain ⟨d1, d2⟩ := yH2 (i := i) (by omega)
      have gi := (z.gd hG).2 (Int.toNat i / 2) (by omega)
      first
        | omega
        | (rw [d1]; omega)
        | (rw [d1, Int.toNat_natCast]; exact gi.1)
        | (rw [d1, Int.toNat_natCast]; exact gi.2)), (by
      obtain ⟨d1, d2⟩ := yH2 (i := i) (by omega)
      have gi := (z.gd hG).2 (Int.toNat i / 2) (by omega)
      first
        | omega
        | (rw [d1]; omega)
        | (rw [d1, Int.toNat_natCast]; exact gi.1)
        | (rw [d1, Int.toNat_natCast]; exact gi.2)), ?_⟩
          intro r13 p140
          refine ⟨fun h15 => ?_, fun h15 => ?_⟩
          · refine ⟨(by
      obtain ⟨d1, d2⟩ := yH2 (i := i) (by omega)
      have gi := (z.gd hG).2 (Int.toNat i / 2) (by omega)
      first
        | omega
        | (rw [d1]; omega)
        | (rw [d1, Int.toNat_natCast]; exact gi.1)
        | (rw [d1, Int.toNat_natCast]; exact gi.2)), ?_⟩
            obtain ⟨d1, d2⟩ := yH2 (i := i) (by omega)
            have gi := (z.gd hG).2 (Int.toNat i / 2) (by omega)
            have yi : yw (i + 1) = i + 1 := yw_s (i + 1) (by omega) (by omega)
            have ti : Int.toNat (i + 1) = Int.toNat i + 1 := by omega
            rw [d2] at h2
            have eA : Int.toNat (m 112 (Int.toNat i / 2)) = yAm g (Int.toNat i / 2) := z.am _
            have hV : (m 110 (Int.toNat (m 112 (Int.toNat (yb (fun x y => x / y) i 2))))) = yVi g (Int.toNat i) := by
              rw [d1, Int.toNat_natCast, eA, z.ea]
              unfold yVi
              rw [if_pos (by omega)]
            have hR : g 110 (yAm g (Int.toNat k)) ≤ yVi g (Int.toNat i) ∧ yVi g (Int.toNat i) ≤ yMl g (yAm g (Int.toNat k)) := by
              rw [ek, ← hV]
              omega
            rw [hV]
            have vr : -2147483648 ≤ yVi g (Int.toNat i) ∧ yVi g (Int.toNat i) ≤ 2147483647 := by
              have r1 := hT.fA (j := Int.toNat c) (List.mem_of_getElem? (i := 62) rfl) (by omega)
              have r2 : -2147483648 ≤ yMl g (Int.toNat c) ∧ yMl g (Int.toNat c) ≤ 2147483647 := yw_rng _
              rw [ek] at hR
              omega
            have fp : yFk k g (yset m 113 (Int.toNat k) (yVi g (Int.toNat i))) := f.put hk.1.1
            have e37 : (yset m 113 (Int.toNat k) (yVi g (Int.toNat i))) 90 37 = m 90 37 := yset_nc (by decide)
            have hr1 := hr.1
            refine yj_CF2 hY (fp.z.gd hG) (by rw [fp.z.mn]; exact hk.1) (by rw [fp.z 112 _ (by decide) (by omega)]; exact hc) yset_eq hp.2 (fun n hn => ?_) (Int.toNat k) 0 (by omega) (by decide) p (by show p = p + 0; omega)
            have hn2 := yCw_nx fp.z (fun j hj => fp.lo hj) hk.1.1 hp.1 hn
            have nb := @yDw_nb (yFlc (yset m 113 (Int.toNat k) (yVi g (Int.toNat i)))) ((yset m 113 (Int.toNat k) (yVi g (Int.toNat i))) 113) (Int.toNat k) (Int.toNat k)
            refine yt_CF2 hY (hT.sA (List.mem_of_getElem? (i := 65) rfl) (by decide +kernel) vr) (fp.z.gd hG) (by rw [fp.z.mn]; exact hk) ⟨hn2, by omega, by omega⟩ (by rw [e37]; omega) (by omega) (fun g3 t1 t2 t3 => ?_)
            refine ih (i + 1) (by omega) (by omega) g3 _ _ _ t1 (fp.tr t2 (by omega)) ?_
            rw [ti]
            exact yFrs.tk hk.1 (by omega) f hr hR t3
          · obtain ⟨d1, d2⟩ := yH2 (i := i) (by omega)
            have gi := (z.gd hG).2 (Int.toNat i / 2) (by omega)
            have yi : yw (i + 1) = i + 1 := yw_s (i + 1) (by omega) (by omega)
            have ti : Int.toNat (i + 1) = Int.toNat i + 1 := by omega
            rw [d2] at h2
            have eA : Int.toNat (m 112 (Int.toNat i / 2)) = yAm g (Int.toNat i / 2) := z.am _
            have hV : (m 110 (Int.toNat (m 112 (Int.toNat (yb (fun x y => x / y) i 2))))) = yVi g (Int.toNat i) := by
              rw [d1, Int.toNat_natCast, eA, z.ea]
              unfold yVi
              rw [if_pos (by omega)]
            rw [yi]
            refine ih (i + 1) (by omega) (by omega) m _ _ _ hT f ?_
            rw [ti]
            exact hr.sk hk.1 (fun y => by rw [ek, ← hV] at y; omega)
set_option maxRecDepth 8000 in
theorem yv_CF2 {K : List yV → yM → Prop} {Y : yNx} {g : yM} {k p : Int} (hY : yCl zpD146 (zpZ, zpRS, zpP12, zpMT, [yC_LTO, yC_ILT, yC_CF1], (4, 116), 0) K Y) (hr_k : -2147483648 ≤ k ∧ k ≤ 2147483647) (hr_p : -2147483648 ≤ p ∧ p ≤ 2147483647) (hp0 : yTy zpZ g) (hp1 : yFgd g) (hp2 : (0 ≤ k ∧ k ≤ g 90 36) ∧ g 90 36 - k ≤ 2) (hp3 : p = yCw (yFlc g) (g 113) (yDnL (Int.toNat k)) ∧ 0 ≤ p ∧ p ≤ 12 * k) (hp4 : 0 ≤ g 90 37 ∧ g 90 37 ≤ 99) (hK : ∀ (g' : yM), (yTy zpZ g') → (yFk k g g') → (yFrs g g' (yCo g k)) → K [] g') : Y 0 [(3, 90), (1, k), (1, p), (0, 0), (0, 0), (0, 0), (0, 0), (0, 0)] [] g := by
  have h36 := hp1.1
  refine yrun_ok (sp := fun pc => Nat.beq pc 33) hY 16 0 _ [] g ?_
  show ((p < (g 90 37) → ((k ≠ (g 90 36) → (((0 : Int) ≤ k ∧ k < ((6 : Nat) : Int)) ∧ (Y 33 [(3, 90), (1, k), (1, p), (1, (g 112 (Int.toNat k))), (1, 0), (0, 0), (0, 0), (0, 0)] [] g))) ∧ (¬ (k ≠ (g 90 36)) → (K [] (yset g 90 37 p))))) ∧ (¬ (p < (g 90 37)) → (K [] g)))
  refine ⟨fun h1 => ?_, fun h1 => ?_⟩
  · refine ⟨fun h2 => ?_, fun h2 => ?_⟩
    · refine ⟨(by omega), ?_⟩
      exact yl_CF2 hY hp1 ⟨⟨hp2.1.1, by omega⟩, hp2.2⟩ rfl hp3 hp4 hK (Int.toNat (2 * g 90 36)) 0 (by omega) (by decide) g _ _ _ hp0 yFk.rf (yFrs.z hp4.1)
    · exact hK _ (hp0.sO (List.mem_of_getElem? (i := 42) rfl) rfl (by decide +kernel) ⟨by omega, by omega⟩) (fun a b c1 c2 => yset_ne (by omega)) (yFrs.on (by omega) hp2.1.1 hp3.1 hp3.2.1 (by omega))
  · exact hK g hp0 yFk.rf (yFrs.no hp2.1 hp3.1 hp4.1 (by omega))
theorem yM_CF2 {l : Launch} {Ts : List Cond} {cl : List vw_C} {RO : zRO} (H : zHyp Ts cl RO) : yMet l Ts cl zpZ RO zpMT yC_CF2 := ymet_of2 H.1 H.2.1 zpDj H.2.2.1 yRb H.p12 (ymets_cons (yM_LTO H) (ymets_cons (yM_ILT H) (ymets_cons (yM_CF1 H) ymets_nil))) (zrc0 rfl) (plainFor_of_name zpy12) zpDk146 (fun as g K Y h hA hY => by
  obtain ⟨k, p, rfl, hp0, hp1, hp2, hp3, hp4, hK⟩ := h
  exact yv_CF2 hY (yAr1 hA (by simp)) (yAr1 hA (by simp)) hp0 hp1 hp2 hp3 hp4 hK)
def yP_CF3 : yPT := fun as g K => ∃ (k p : Int), as = [(3, 90), (1, k), (1, p)] ∧ (yTy zpZ g) ∧ (yFgd g) ∧ ((0 ≤ k ∧ k ≤ g 90 36) ∧ g 90 36 - k ≤ 3) ∧ (p = yCw (yFlc g) (g 113) (yDnL (Int.toNat k)) ∧ 0 ≤ p ∧ p ≤ 12 * k) ∧ (0 ≤ g 90 37 ∧ g 90 37 ≤ 99) ∧ (∀ (g' : yM), (yTy zpZ g') → (yFk k g g') → (yFrs g g' (yCo g k)) → K [] g')
def yC_CF3 : yC := (146, (5, 143), yP_CF3)
set_option maxRecDepth 8000 in
theorem yt_CF3 {K : List yV → yM → Prop} {Y : yNx} {g : yM} {k p c i v n j : Int} (hY : yCl zpD146 (zpZ, zpRS, zpP12, zpMT, [yC_LTO, yC_ILT, yC_CF2], (5, 143), 0) K Y) (hT : yTy zpZ g) (hG : yFgd g) (hk : (0 ≤ k ∧ k < g 90 36) ∧ g 90 36 - k ≤ 3) (hn : n = yCw (yFlc g) (g 113) (yDnL (Int.toNat (k + 1))) ∧ 0 ≤ n ∧ n ≤ 12 * (k + 1)) (hF : 0 ≤ g 90 37 ∧ g 90 37 ≤ 99) (hi : 0 ≤ i ∧ i < 12) (hE : ∀ g3 : yM, yTy zpZ g3 → yFk (k + 1) g g3 → yFrs g g3 (yCo g (k + 1)) → Y 33 [(3, 90), (1, k), (1, p), (1, c), (1, i + 1), (1, v), (1, n), (1, j)] [] g3) : Y 197 [(3, 90), (1, k), (1, p), (1, c), (1, i), (1, v), (1, n), (1, j)] [] g := by
  have h36 := hG.1
  have yk : yw (k + 1) = k + 1 := yw_s (k + 1) (by omega) (by omega)
  have yi : yw (i + 1) = i + 1 := yw_s (i + 1) (by omega) (by omega)
  refine yrun_ok (sp := fun pc => Nat.beq pc 33) hY 9 197 _ [] g ?_
  show (∃ (k1 p2 : Int), [(3, 90), (1, (yw (k + 1))), (1, n)] = [(3, 90), (1, k1), (1, p2)] ∧ (yTy zpZ g) ∧ (yFgd g) ∧ ((0 ≤ k1 ∧ k1 ≤ g 90 36) ∧ g 90 36 - k1 ≤ 2) ∧ (p2 = yCw (yFlc g) (g 113) (yDnL (Int.toNat k1)) ∧ 0 ≤ p2 ∧ p2 ≤ 12 * k1) ∧ (0 ≤ g 90 37 ∧ g 90 37 ≤ 99) ∧ (∀ (g3 : yM), (yTy zpZ g3) → (yFk k1 g g3) → (yFrs g g3 (yCo g k1)) → (Y 33 [(3, 90), (1, k), (1, p), (1, c), (1, (yw (i + 1))), (1, v), (1, n), (1, j)] [] g3)))
  refine ⟨_, _, rfl, (hT), (hG), (by omega), (by rw [yk]; exact hn), (by omega), ?_⟩
  intro g3 p40 p41 p42
  rw [yk] at p41 p42
  rw [yi]
  exact hE _ p40 p41 p42
set_option maxRecDepth 8000 in
theorem yj_CF3 {K : List yV → yM → Prop} {Y : yNx} {g : yM} {k p c i v : Int} (hY : yCl zpD146 (zpZ, zpRS, zpP12, zpMT, [yC_LTO, yC_ILT, yC_CF2], (5, 143), 0) K Y) (hG : yFgd g) (hk : 0 ≤ k ∧ k < g 90 36) (hc : c = g 112 (Int.toNat k)) (hv : g 113 (Int.toNat k) = v) (hp : 0 ≤ p ∧ p ≤ 12 * k) (hE : ∀ n : Int, n = p + yDw (yFlc g) (g 113) (Int.toNat k) (yDnL (Int.toNat k)) → Y 197 [(3, 90), (1, k), (1, p), (1, c), (1, i), (1, v), (1, n), (1, k)] [] g) : ∀ (d : Nat) (j : Int), j + d = k → 0 ≤ j → ∀ n : Int, n = p + yDw (yFlc g) (g 113) (Int.toNat k) (yDnL (Int.toNat j)) → Y 121 [(3, 90), (1, k), (1, p), (1, c), (1, i), (1, v), (1, n), (1, j)] [] g := by
  have h36 := hG.1
  have gk := (hG.2 (Int.toNat k) (by omega)).1
  have ek : yAm g (Int.toNat k) = Int.toNat c := by rw [hc]; rfl
  intro d
  induction d with
  | zero =>
    intro j hd h0 n hn
    refine yrun_ok (sp := fun pc => Nat.beq pc 121 || Nat.beq pc 197) hY 39 121 _ [] g ?_
    show ((k ≤ j → (Y 197 [(3, 90), (1, k), (1, p), (1, c), (1, i), (1, v), (1, n), (1, j)] [] g)) ∧ (¬ (k ≤ j) → (((0 : Int) ≤ j ∧ j < ((6 : Nat) : Int)) ∧ (∃ (a2 b3 : Int), [(3, 90), (1, c), (1, (g 112 (Int.toNat j)))] = [(3, 90), (1, a2), (1, b3)] ∧ (0 ≤ a2 ∧ a2 < 40) ∧ (0 ≤ b3 ∧ b3 < 40) ∧ (∀ (r4 : Int), ((r4 = 1 ∧ yLa g (Int.toNat a2) (Int.toNat b3)) ∨ (r4 = 0 ∧ ¬ yLa g (Int.toNat a2) (Int.toNat b3))) → ((r4 = 0 → (((0 : Int) ≤ j ∧ j < ((6 : Nat) : Int)) ∧ (∃ (a7 b8 : Int), [(3, 90), (1, (g 112 (Int.toNat j))), (1, c)] = [(3, 90), (1, a7), (1, b8)] ∧ (0 ≤ a7 ∧ a7 < 40) ∧ (0 ≤ b8 ∧ b8 < 40) ∧ (∀ (r9 : Int), ((r9 = 1 ∧ yLa g (Int.toNat a7) (Int.toNat b8)) ∨ (r9 = 0 ∧ ¬ yLa g (Int.toNat a7) (Int.toNat b8))) → ((r9 = 0 → (Y 121 [(3, 90), (1, k), (1, p), (1, c), (1, i), (1, v), (1, (yw (n + 0))), (1, (yw (j + 1)))] [] g)) ∧ (¬ (r9 = 0) → (((0 : Int) ≤ j ∧ j < ((6 : Nat) : Int)) ∧ ((v ≤ (g 113 (Int.toNat j)) → (Y 121 [(3, 90), (1, k), (1, p), (1, c), (1, i), (1, v), (1, (yw (n + 0))), (1, (yw (j + 1)))] [] g)) ∧ (¬ (v ≤ (g 113 (Int.toNat j))) → (Y 121 [(3, 90), (1, k), (1, p), (1, c), (1, i), (1, v), (1, (yw (n + 1))), (1, (yw (j + 1)))] [] g)))))))))) ∧ (¬ (r4 = 0) → (((0 : Int) ≤ j ∧ j < ((6 : Nat) : Int)) ∧ ((v < (g 113 (Int.toNat j)) → (Y 121 [(3, 90), (1, k), (1, p), (1, c), (1, i), (1, v), (1, (yw (n + 1))), (1, (yw (j + 1)))] [] g)) ∧ (¬ (v < (g 113 (Int.toNat j))) → (((0 : Int) ≤ j ∧ j < ((6 : Nat) : Int)) ∧ (∃ (a14 b15 : Int), [(3, 90), (1, (g 112 (Int.toNat j))), (1, c)] = [(3, 90), (1, a14), (1, b15)] ∧ (0 ≤ a14 ∧ a14 < 40) ∧ (0 ≤ b15 ∧ b15 < 40) ∧ (∀ (r16 : Int), ((r16 = 1 ∧ yLa g (Int.toNat a14) (Int.toNat b15)) ∨ (r16 = 0 ∧ ¬ yLa g (Int.toNat a14) (Int.toNat b15))) → ((r16 = 0 → (Y 121 [(3, 90), (1, k), (1, p), (1, c), (1, i), (1, v), (1, (yw (n + 0))), (1, (yw (j + 1)))] [] g)) ∧ (¬ (r16 = 0) → (((0 : Int) ≤ j ∧ j < ((6 : Nat) : Int)) ∧ ((v ≤ (g 113 (Int.toNat j)) → (Y 121 [(3, 90), (1, k), (1, p), (1, c), (1, i), (1, v), (1, (yw (n + 0))), (1, (yw (j + 1)))] [] g)) ∧ (¬ (v ≤ (g 113 (Int.toNat j))) → (Y 121 [(3, 90), (1, k), (1, p), (1, c), (1, i), (1, v), (1, (yw (n + 1))), (1, (yw (j + 1)))] [] g)))))))))))))))))))
    refine ⟨fun h1 => ?_, fun h1 => ?_⟩
    · obtain rfl : j = k := by omega
      exact hE n hn
    · refine ⟨(by omega), ?_⟩
      refine ⟨_, _, rfl, (by omega), (by omega), ?_⟩
      intro r4 p50
      refine ⟨fun h6 => ?_, fun h6 => ?_⟩
      · refine ⟨(by omega), ?_⟩
        refine ⟨_, _, rfl, (by omega), (by omega), ?_⟩
        intro r9 p100
        refine ⟨fun h11 => ?_, fun h11 => ?_⟩
        · omega
        · refine ⟨(by omega), ?_⟩
          refine ⟨fun h12 => ?_, fun h12 => ?_⟩
          · omega
          · omega
      · refine ⟨(by omega), ?_⟩
        refine ⟨fun h13 => ?_, fun h13 => ?_⟩
        · omega
        · refine ⟨(by omega), ?_⟩
          refine ⟨_, _, rfl, (by omega), (by omega), ?_⟩
          intro r16 p170
          refine ⟨fun h18 => ?_, fun h18 => ?_⟩
          · omega
          · refine ⟨(by omega), ?_⟩
            refine ⟨fun h19 => ?_, fun h19 => ?_⟩
            · omega
            · omega
  | succ d ih =>
    intro j hd h0 n hn
    refine yrun_ok (sp := fun pc => Nat.beq pc 121 || Nat.beq pc 197) hY 39 121 _ [] g ?_
    show ((k ≤ j → (Y 197 [(3, 90), (1, k), (1, p), (1, c), (1, i), (1, v), (1, n), (1, j)] [] g)) ∧ (¬ (k ≤ j) → (((0 : Int) ≤ j ∧ j < ((6 : Nat) : Int)) ∧ (∃ (a2 b3 : Int), [(3, 90), (1, c), (1, (g 112 (Int.toNat j)))] = [(3, 90), (1, a2), (1, b3)] ∧ (0 ≤ a2 ∧ a2 < 40) ∧ (0 ≤ b3 ∧ b3 < 40) ∧ (∀ (r4 : Int), ((r4 = 1 ∧ yLa g (Int.toNat a2) (Int.toNat b3)) ∨ (r4 = 0 ∧ ¬ yLa g (Int.toNat a2) (Int.toNat b3))) → ((r4 = 0 → (((0 : Int) ≤ j ∧ j < ((6 : Nat) : Int)) ∧ (∃ (a7 b8 : Int), [(3, 90), (1, (g 112 (Int.toNat j))), (1, c)] = [(3, 90), (1, a7), (1, b8)] ∧ (0 ≤ a7 ∧ a7 < 40) ∧ (0 ≤ b8 ∧ b8 < 40) ∧ (∀ (r9 : Int), ((r9 = 1 ∧ yLa g (Int.toNat a7) (Int.toNat b8)) ∨ (r9 = 0 ∧ ¬ yLa g (Int.toNat a7) (Int.toNat b8))) → ((r9 = 0 → (Y 121 [(3, 90), (1, k), (1, p), (1, c), (1, i), (1, v), (1, (yw (n + 0))), (1, (yw (j + 1)))] [] g)) ∧ (¬ (r9 = 0) → (((0 : Int) ≤ j ∧ j < ((6 : Nat) : Int)) ∧ ((v ≤ (g 113 (Int.toNat j)) → (Y 121 [(3, 90), (1, k), (1, p), (1, c), (1, i), (1, v), (1, (yw (n + 0))), (1, (yw (j + 1)))] [] g)) ∧ (¬ (v ≤ (g 113 (Int.toNat j))) → (Y 121 [(3, 90), (1, k), (1, p), (1, c), (1, i), (1, v), (1, (yw (n + 1))), (1, (yw (j + 1)))] [] g)))))))))) ∧ (¬ (r4 = 0) → (((0 : Int) ≤ j ∧ j < ((6 : Nat) : Int)) ∧ ((v < (g 113 (Int.toNat j)) → (Y 121 [(3, 90), (1, k), (1, p), (1, c), (1, i), (1, v), (1, (yw (n + 1))), (1, (yw (j + 1)))] [] g)) ∧ (¬ (v < (g 113 (Int.toNat j))) → (((0 : Int) ≤ j ∧ j < ((6 : Nat) : Int)) ∧ (∃ (a14 b15 : Int), [(3, 90), (1, (g 112 (Int.toNat j))), (1, c)] = [(3, 90), (1, a14), (1, b15)] ∧ (0 ≤ a14 ∧ a14 < 40) ∧ (0 ≤ b15 ∧ b15 < 40) ∧ (∀ (r16 : Int), ((r16 = 1 ∧ yLa g (Int.toNat a14) (Int.toNat b15)) ∨ (r16 = 0 ∧ ¬ yLa g (Int.toNat a14) (Int.toNat b15))) → ((r16 = 0 → (Y 121 [(3, 90), (1, k), (1, p), (1, c), (1, i), (1, v), (1, (yw (n + 0))), (1, (yw (j + 1)))] [] g)) ∧ (¬ (r16 = 0) → (((0 : Int) ≤ j ∧ j < ((6 : Nat) : Int)) ∧ ((v ≤ (g 113 (Int.toNat j)) → (Y 121 [(3, 90), (1, k), (1, p), (1, c), (1, i), (1, v), (1, (yw (n + 0))), (1, (yw (j + 1)))] [] g)) ∧ (¬ (v ≤ (g 113 (Int.toNat j))) → (Y 121 [(3, 90), (1, k), (1, p), (1, c), (1, i), (1, v), (1, (yw (n + 1))), (1, (yw (j + 1)))] [] g)))))))))))))))))))
    refine ⟨fun h1 => ?_, fun h1 => ?_⟩
    · omega
    · refine ⟨(by have gj := (hG.2 (Int.toNat j) (by omega)).1; omega), ?_⟩
      refine ⟨_, _, rfl, (by have gj := (hG.2 (Int.toNat j) (by omega)).1; omega), (by have gj := (hG.2 (Int.toNat j) (by omega)).1; omega), ?_⟩
      intro r4 p50
      refine ⟨fun h6 => ?_, fun h6 => ?_⟩
      · refine ⟨(by have gj := (hG.2 (Int.toNat j) (by omega)).1; omega), ?_⟩
        refine ⟨_, _, rfl, (by have gj := (hG.2 (Int.toNat j) (by omega)).1; omega), (by have gj := (hG.2 (Int.toNat j) (by omega)).1; omega), ?_⟩
        intro r9 p100
        refine ⟨fun h11 => ?_, fun h11 => ?_⟩
        · have yj : yw (j + 1) = j + 1 := yw_s (j + 1) (by omega) (by omega)
          have nb := @yDw_nb (yFlc g) (g 113) (Int.toNat k) (Int.toNat j)
          have ej : yAm g (Int.toNat j) = Int.toNat (g 112 (Int.toNat j)) := rfl
          have hs : yDw (yFlc g) (g 113) (Int.toNat k) (yDnL (Int.toNat j + 1)) = 0 + yDw (yFlc g) (g 113) (Int.toNat k) (yDnL (Int.toNat j)) := by
            refine yDs ?_
            rw [ek, ej, hv]
            rcases p50 with ⟨q1, q2⟩ | ⟨q1, q2⟩
            · rcases p100 with ⟨q3, q4⟩ | ⟨q3, q4⟩
              · first
                  | omega
                  | exact Or.inl ⟨rfl, Or.inl ⟨q2, by omega⟩⟩
                  | exact Or.inl ⟨rfl, Or.inr ⟨q4, by omega⟩⟩
                  | exact Or.inr ⟨rfl, (fun y => by have y2 := y.2; omega), (fun y => by have y2 := y.2; omega)⟩
              · first
                  | omega
                  | exact Or.inl ⟨rfl, Or.inl ⟨q2, by omega⟩⟩
                  | exact Or.inr ⟨rfl, (fun y => by have y2 := y.2; omega), (fun y => q4 y.1)⟩
            · rcases p100 with ⟨q3, q4⟩ | ⟨q3, q4⟩
              · first
                  | omega
                  | exact Or.inl ⟨rfl, Or.inr ⟨q4, by omega⟩⟩
                  | exact Or.inr ⟨rfl, (fun y => q2 y.1), (fun y => by have y2 := y.2; omega)⟩
              · first
                  | omega
                  | exact Or.inr ⟨rfl, (fun y => q2 y.1), (fun y => q4 y.1)⟩
          rw [yj]
          refine ih (j + 1) (by omega) (by omega) _ ?_
          rw [show Int.toNat (j + 1) = Int.toNat j + 1 by omega, hs, yw_s (n + 0) (by omega) (by omega), hn]
          omega
        · refine ⟨(by have gj := (hG.2 (Int.toNat j) (by omega)).1; omega), ?_⟩
          refine ⟨fun h12 => ?_, fun h12 => ?_⟩
          · have yj : yw (j + 1) = j + 1 := yw_s (j + 1) (by omega) (by omega)
            have nb := @yDw_nb (yFlc g) (g 113) (Int.toNat k) (Int.toNat j)
            have ej : yAm g (Int.toNat j) = Int.toNat (g 112 (Int.toNat j)) := rfl
            have hs : yDw (yFlc g) (g 113) (Int.toNat k) (yDnL (Int.toNat j + 1)) = 0 + yDw (yFlc g) (g 113) (Int.toNat k) (yDnL (Int.toNat j)) := by
              refine yDs ?_
              rw [ek, ej, hv]
              rcases p50 with ⟨q1, q2⟩ | ⟨q1, q2⟩
              · rcases p100 with ⟨q3, q4⟩ | ⟨q3, q4⟩
                · first
                    | omega
                    | exact Or.inl ⟨rfl, Or.inl ⟨q2, by omega⟩⟩
                    | exact Or.inl ⟨rfl, Or.inr ⟨q4, by omega⟩⟩
                    | exact Or.inr ⟨rfl, (fun y => by have y2 := y.2; omega), (fun y => by have y2 := y.2; omega)⟩
                · first
                    | omega
                    | exact Or.inl ⟨rfl, Or.inl ⟨q2, by omega⟩⟩
                    | exact Or.inr ⟨rfl, (fun y => by have y2 := y.2; omega), (fun y => q4 y.1)⟩
              · rcases p100 with ⟨q3, q4⟩ | ⟨q3, q4⟩
                · first
                    | omega
                    | exact Or.inl ⟨rfl, Or.inr ⟨q4, by omega⟩⟩
                    | exact Or.inr ⟨rfl, (fun y => q2 y.1), (fun y => by have y2 := y.2; omega)⟩
                · first
                    | omega
                    | exact Or.inr ⟨rfl, (fun y => q2 y.1), (fun y => q4 y.1)⟩
            rw [yj]
            refine ih (j + 1) (by omega) (by omega) _ ?_
            rw [show Int.toNat (j + 1) = Int.toNat j + 1 by omega, hs, yw_s (n + 0) (by omega) (by omega), hn]
            omega
          · have yj : yw (j + 1) = j + 1 := yw_s (j + 1) (by omega) (by omega)
            have nb := @yDw_nb (yFlc g) (g 113) (Int.toNat k) (Int.toNat j)
            have ej : yAm g (Int.toNat j) = Int.toNat (g 112 (Int.toNat j)) := rfl
            have hs : yDw (yFlc g) (g 113) (Int.toNat k) (yDnL (Int.toNat j + 1)) = 1 + yDw (yFlc g) (g 113) (Int.toNat k) (yDnL (Int.toNat j)) := by
              refine yDs ?_
              rw [ek, ej, hv]
              rcases p50 with ⟨q1, q2⟩ | ⟨q1, q2⟩
              · rcases p100 with ⟨q3, q4⟩ | ⟨q3, q4⟩
                · first
                    | omega
                    | exact Or.inl ⟨rfl, Or.inl ⟨q2, by omega⟩⟩
                    | exact Or.inl ⟨rfl, Or.inr ⟨q4, by omega⟩⟩
                    | exact Or.inr ⟨rfl, (fun y => by have y2 := y.2; omega), (fun y => by have y2 := y.2; omega)⟩
                · first
                    | omega
                    | exact Or.inl ⟨rfl, Or.inl ⟨q2, by omega⟩⟩
                    | exact Or.inr ⟨rfl, (fun y => by have y2 := y.2; omega), (fun y => q4 y.1)⟩
              · rcases p100 with ⟨q3, q4⟩ | ⟨q3, q4⟩
                · first
                    | omega
                    | exact Or.inl ⟨rfl, Or.inr ⟨q4, by omega⟩⟩
                    | exact Or.inr ⟨rfl, (fun y => q2 y.1), (fun y => by have y2 := y.2; omega)⟩
                · first
                    | omega
                    | exact Or.inr ⟨rfl, (fun y => q2 y.1), (fun y => q4 y.1)⟩
            rw [yj]
            refine ih (j + 1) (by omega) (by omega) _ ?_
            rw [show Int.toNat (j + 1) = Int.toNat j + 1 by omega, hs, yw_s (n + 1) (by omega) (by omega), hn]
            omega
      · refine ⟨(by have gj := (hG.2 (Int.toNat j) (by omega)).1; omega), ?_⟩
        refine ⟨fun h13 => ?_, fun h13 => ?_⟩
        · have yj : yw (j + 1) = j + 1 := yw_s (j + 1) (by omega) (by omega)
          have nb := @yDw_nb (yFlc g) (g 113) (Int.toNat k) (Int.toNat j)
          have ej : yAm g (Int.toNat j) = Int.toNat (g 112 (Int.toNat j)) := rfl
          have hs : yDw (yFlc g) (g 113) (Int.toNat k) (yDnL (Int.toNat j + 1)) = 1 + yDw (yFlc g) (g 113) (Int.toNat k) (yDnL (Int.toNat j)) := by
            refine yDs ?_
            rw [ek, ej, hv]
            rcases p50 with ⟨q1, q2⟩ | ⟨q1, q2⟩
            · first
                | omega
                | exact Or.inl ⟨rfl, Or.inl ⟨q2, by omega⟩⟩
                | exact Or.inr ⟨rfl, (fun y => by have y2 := y.2; omega), (fun y => by have y2 := y.2; omega)⟩
            · first
                | omega
                | exact Or.inr ⟨rfl, (fun y => q2 y.1), (fun y => by have y2 := y.2; omega)⟩
          rw [yj]
          refine ih (j + 1) (by omega) (by omega) _ ?_
          rw [show Int.toNat (j + 1) = Int.toNat j + 1 by omega, hs, yw_s (n + 1) (by omega) (by omega), hn]
          omega
        · refine ⟨(by have gj := (hG.2 (Int.toNat j) (by omega)).1; omega), ?_⟩
          refine ⟨_, _, rfl, (by have gj := (hG.2 (Int.toNat j) (by omega)).1; omega), (by have gj := (hG.2 (Int.toNat j) (by omega)).1; omega), ?_⟩
          intro r16 p170
          refine ⟨fun h18 => ?_, fun h18 => ?_⟩
          · have yj : yw (j + 1) = j + 1 := yw_s (j + 1) (by omega) (by omega)
            have nb := @yDw_nb (yFlc g) (g 113) (Int.toNat k) (Int.toNat j)
            have ej : yAm g (Int.toNat j) = Int.toNat (g 112 (Int.toNat j)) := rfl
            have hs : yDw (yFlc g) (g 113) (Int.toNat k) (yDnL (Int.toNat j + 1)) = 0 + yDw (yFlc g) (g 113) (Int.toNat k) (yDnL (Int.toNat j)) := by
              refine yDs ?_
              rw [ek, ej, hv]
              rcases p50 with ⟨q1, q2⟩ | ⟨q1, q2⟩
              · rcases p170 with ⟨q3, q4⟩ | ⟨q3, q4⟩
                · first
                    | omega
                    | exact Or.inl ⟨rfl, Or.inl ⟨q2, by omega⟩⟩
                    | exact Or.inl ⟨rfl, Or.inr ⟨q4, by omega⟩⟩
                    | exact Or.inr ⟨rfl, (fun y => by have y2 := y.2; omega), (fun y => by have y2 := y.2; omega)⟩
                · first
                    | omega
                    | exact Or.inl ⟨rfl, Or.inl ⟨q2, by omega⟩⟩
                    | exact Or.inr ⟨rfl, (fun y => by have y2 := y.2; omega), (fun y => q4 y.1)⟩
              · rcases p170 with ⟨q3, q4⟩ | ⟨q3, q4⟩
                · first
                    | omega
                    | exact Or.inl ⟨rfl, Or.inr ⟨q4, by omega⟩⟩
                    | exact Or.inr ⟨rfl, (fun y => q2 y.1), (fun y => by have y2 := y.2; omega)⟩
                · first
                    | omega
                    | exact Or.inr ⟨rfl, (fun y => q2 y.1), (fun y => q4 y.1)⟩
            rw [yj]
            refine ih (j + 1) (by omega) (by omega) _ ?_
            rw [show Int.toNat (j + 1) = Int.toNat j + 1 by omega, hs, yw_s (n + 0) (by omega) (by omega), hn]
            omega
          · refine ⟨(by have gj := (hG.2 (Int.toNat j) (by omega)).1; omega), ?_⟩
            refine ⟨fun h19 => ?_, fun h19 => ?_⟩
            · have yj : yw (j + 1) = j + 1 := yw_s (j + 1) (by omega) (by omega)
              have nb := @yDw_nb (yFlc g) (g 113) (Int.toNat k) (Int.toNat j)
              have ej : yAm g (Int.toNat j) = Int.toNat (g 112 (Int.toNat j)) := rfl
              have hs : yDw (yFlc g) (g 113) (Int.toNat k) (yDnL (Int.toNat j + 1)) = 0 + yDw (yFlc g) (g 113) (Int.toNat k) (yDnL (Int.toNat j)) := by
                refine yDs ?_
                rw [ek, ej, hv]
                rcases p50 with ⟨q1, q2⟩ | ⟨q1, q2⟩
                · rcases p170 with ⟨q3, q4⟩ | ⟨q3, q4⟩
                  · first
                      | omega
                      | exact Or.inl ⟨rfl, Or.inl ⟨q2, by omega⟩⟩
                      | exact Or.inl ⟨rfl, Or.inr ⟨q4, by omega⟩⟩
                      | exact Or.inr ⟨rfl, (fun y => by have y2 := y.2; omega), (fun y => by have y2 := y.2; omega)⟩
                  · first
                      | omega
                      | exact Or.inl ⟨rfl, Or.inl ⟨q2, by omega⟩⟩
                      | exact Or.inr ⟨rfl, (fun y => by have y2 := y.2; omega), (fun y => q4 y.1)⟩
                · rcases p170 with ⟨q3, q4⟩ | ⟨q3, q4⟩
                  · first
                      | omega
                      | exact Or.inl ⟨rfl, Or.inr ⟨q4, by omega⟩⟩
                      | exact Or.inr ⟨rfl, (fun y => q2 y.1), (fun y => by have y2 := y.2; omega)⟩
                  · first
                      | omega
                      | exact Or.inr ⟨rfl, (fun y => q2 y.1), (fun y => q4 y.1)⟩
              rw [yj]
              refine ih (j + 1) (by omega) (by omega) _ ?_
              rw [show Int.toNat (j + 1) = Int.toNat j + 1 by omega, hs, yw_s (n + 0) (by omega) (by omega), hn]
              omega
            · have yj : yw (j + 1) = j + 1 := yw_s (j + 1) (by omega) (by omega)
              have nb := @yDw_nb (yFlc g) (g 113) (Int.toNat k) (Int.toNat j)
              have ej : yAm g (Int.toNat j) = Int.toNat (g 112 (Int.toNat j)) := rfl
              have hs : yDw (yFlc g) (g 113) (Int.toNat k) (yDnL (Int.toNat j + 1)) = 1 + yDw (yFlc g) (g 113) (Int.toNat k) (yDnL (Int.toNat j)) := by
                refine yDs ?_
                rw [ek, ej, hv]
                rcases p50 with ⟨q1, q2⟩ | ⟨q1, q2⟩
                · rcases p170 with ⟨q3, q4⟩ | ⟨q3, q4⟩
                  · first
                      | omega
                      | exact Or.inl ⟨rfl, Or.inl ⟨q2, by omega⟩⟩
                      | exact Or.inl ⟨rfl, Or.inr ⟨q4, by omega⟩⟩
                      | exact Or.inr ⟨rfl, (fun y => by have y2 := y.2; omega), (fun y => by have y2 := y.2; omega)⟩
                  · first
                      | omega
                      | exact Or.inl ⟨rfl, Or.inl ⟨q2, by omega⟩⟩
                      | exact Or.inr ⟨rfl, (fun y => by have y2 := y.2; omega), (fun y => q4 y.1)⟩
                · rcases p170 with ⟨q3, q4⟩ | ⟨q3, q4⟩
                  · first
                      | omega
                      | exact Or.inl ⟨rfl, Or.inr ⟨q4, by omega⟩⟩
                      | exact Or.inr ⟨rfl, (fun y => q2 y.1), (fun y => by have y2 := y.2; omega)⟩
                  · first
                      | omega
                      | exact Or.inr ⟨rfl, (fun y => q2 y.1), (fun y => q4 y.1)⟩
              rw [yj]
              refine ih (j + 1) (by omega) (by omega) _ ?_
              rw [show Int.toNat (j + 1) = Int.toNat j + 1 by omega, hs, yw_s (n + 1) (by omega) (by omega), hn]
              omega
set_option maxRecDepth 8000 in
theorem yl_CF3 {K : List yV → yM → Prop} {Y : yNx} {g : yM} {k p c : Int} (hY : yCl zpD146 (zpZ, zpRS, zpP12, zpMT, [yC_LTO, yC_ILT, yC_CF2], (5, 143), 0) K Y) (hG : yFgd g) (hk : (0 ≤ k ∧ k < g 90 36) ∧ g 90 36 - k ≤ 3) (hc : c = g 112 (Int.toNat k)) (hp : p = yCw (yFlc g) (g 113) (yDnL (Int.toNat k)) ∧ 0 ≤ p ∧ p ≤ 12 * k) (hF : 0 ≤ g 90 37 ∧ g 90 37 ≤ 99) (hK : ∀ g' : yM, yTy zpZ g' → yFk k g g' → yFrs g g' (yCo g k) → K [] g') : ∀ (d : Nat) (i : Int), i + d = 2 * g 90 36 → 0 ≤ i → ∀ (m : yM) (y5 y6 y7 : yV), yTy zpZ m → yFk k g m → yFrs g m (yPi g k (Int.toNat i)) → Y 33 [(3, 90), (1, k), (1, p), (1, c), (1, i), y5, y6, y7] [] m := by
  have h36 := hG.1
  have gk := hG.2 (Int.toNat k) (by omega)
  have ek : yAm g (Int.toNat k) = Int.toNat c := by rw [hc]; rfl
  rw [ek] at gk
  intro d
  induction d with
  | zero =>
    intro i hd h0 m y5 y6 y7 hT f hr
    have z := f.z
    have e36 := z.mn
    have e2w : yw (2 * m 90 36) = 2 * m 90 36 := yw_s (2 * m 90 36) (by omega) (by omega)
    have e104 : m 104 (Int.toNat c) = g 104 (Int.toNat c) := z 104 _ (by decide) (by omega)
    have eEk : m 110 (Int.toNat c) = g 110 (Int.toNat c) := z.ea _
    have eLk : yMl m (Int.toNat c) = yMl g (Int.toNat c) := z.ml _
    refine yrun_ok (sp := fun pc => Nat.beq pc 33 || Nat.beq pc 121) hY 42 33 _ [] m ?_
    show (((yw (2 * (m 90 36))) ≤ i → (K [] m)) ∧ (¬ ((yw (2 * (m 90 36))) ≤ i) → ((2 : Int) ≠ 0 ∧ (((yb (fun x y => x - x / y * y) i 2) ≠ 0 → ((2 : Int) ≠ 0 ∧ (((0 : Int) ≤ (yb (fun x y => x / y) i 2) ∧ (yb (fun x y => x / y) i 2) < ((6 : Nat) : Int)) ∧ (∃ (w3 : Int), [(3, 90), (1, (m 112 (Int.toNat (yb (fun x y => x / y) i 2))))] = [(3, 90), (1, w3)] ∧ (0 ≤ w3 ∧ w3 < 40) ∧ (0 ≤ m 104 (Int.toNat w3) ∧ m 104 (Int.toNat w3) ≤ 5) ∧ (∀ (r4 : Int), (r4 = yMl m (Int.toNat w3)) → (((0 : Int) ≤ c ∧ c < ((40 : Nat) : Int)) ∧ ((r4 < (m 110 (Int.toNat c)) → (Y 33 [(3, 90), (1, k), (1, p), (1, c), (1, (yw (i + 1))), (1, r4), y6, y7] [] m)) ∧ (¬ (r4 < (m 110 (Int.toNat c))) → (∃ (w7 : Int), [(3, 90), (1, c)] = [(3, 90), (1, w7)] ∧ (0 ≤ w7 ∧ w7 < 40) ∧ (0 ≤ m 104 (Int.toNat w7) ∧ m 104 (Int.toNat w7) ≤ 5) ∧ (∀ (r8 : Int), (r8 = yMl m (Int.toNat w7)) → ((r4 ≤ r8 → (((0 : Int) ≤ k ∧ k < ((6 : Nat) : Int)) ∧ (Y 121 [(3, 90), (1, k), (1, p), (1, c), (1, i), (1, r4), (1, p), (1, 0)] [] (yset m 113 (Int.toNat k) r4)))) ∧ (¬ (r4 ≤ r8) → (Y 33 [(3, 90), (1, k), (1, p), (1, c), (1, (yw (i + 1))), (1, r4), y6, y7] [] m))))))))))))) ∧ (¬ ((yb (fun x y => x - x / y * y) i 2) ≠ 0) → ((2 : Int) ≠ 0 ∧ (((0 : Int) ≤ (yb (fun x y => x / y) i 2) ∧ (yb (fun x y => x / y) i 2) < ((6 : Nat) : Int)) ∧ (((0 : Int) ≤ (m 112 (Int.toNat (yb (fun x y => x / y) i 2))) ∧ (m 112 (Int.toNat (yb (fun x y => x / y) i 2))) < ((40 : Nat) : Int)) ∧ (((0 : Int) ≤ c ∧ c < ((40 : Nat) : Int)) ∧ (((m 110 (Int.toNat (m 112 (Int.toNat (yb (fun x y => x / y) i 2))))) < (m 110 (Int.toNat c)) → (Y 33 [(3, 90), (1, k), (1, p), (1, c), (1, (yw (i + 1))), (1, (m 110 (Int.toNat (m 112 (Int.toNat (yb (fun x y => x / y) i 2)))))), y6, y7] [] m)) ∧ (¬ ((m 110 (Int.toNat (m 112 (Int.toNat (yb (fun x y => x / y) i 2))))) < (m 110 (Int.toNat c))) → (∃ (w12 : Int), [(3, 90), (1, c)] = [(3, 90), (1, w12)] ∧ (0 ≤ w12 ∧ w12 < 40) ∧ (0 ≤ m 104 (Int.toNat w12) ∧ m 104 (Int.toNat w12) ≤ 5) ∧ (∀ (r13 : Int), (r13 = yMl m (Int.toNat w12)) → (((m 110 (Int.toNat (m 112 (Int.toNat (yb (fun x y => x / y) i 2))))) ≤ r13 → (((0 : Int) ≤ k ∧ k < ((6 : Nat) : Int)) ∧ (Y 121 [(3, 90), (1, k), (1, p), (1, c), (1, i), (1, (m 110 (Int.toNat (m 112 (Int.toNat (yb (fun x y => x / y) i 2)))))), (1, p), (1, 0)] [] (yset m 113 (Int.toNat k) (m 110 (Int.toNat (m 112 (Int.toNat (yb (fun x y => x / y) i 2))))))))) ∧ (¬ ((m 110 (Int.toNat (m 112 (Int.toNat (yb (fun x y => x / y) i 2))))) ≤ r13) → (Y 33 [(3, 90), (1, k), (1, p), (1, c), (1, (yw (i + 1))), (1, (m 110 (Int.toNat (m 112 (Int.toNat (yb (fun x y => x / y) i 2)))))), y6, y7] [] m))))))))))))))))
    refine ⟨fun h1 => ?_, fun h1 => ?_⟩
    · obtain rfl : i = 2 * g 90 36 := by omega
      exact hK m hT f (hr.al hk.1)
    · refine ⟨(by omega), ?_⟩
      refine ⟨fun h2 => ?_, fun h2 => ?_⟩
      · refine ⟨(by omega), ?_⟩
        refine ⟨(by omega), ?_⟩
        refine ⟨_, rfl, (by omega), (by omega), ?_⟩
        intro r4 p50
        refine ⟨(by omega), ?_⟩
        refine ⟨fun h6 => ?_, fun h6 => ?_⟩
        · omega
        · refine ⟨_, rfl, (by omega), (by omega), ?_⟩
          intro r8 p90
          refine ⟨fun h10 => ?_, fun h10 => ?_⟩
          · refine ⟨(by omega), ?_⟩
            omega
          · omega
      · refine ⟨(by omega), ?_⟩
        refine ⟨(by omega), ?_⟩
        refine ⟨(by omega), ?_⟩
        refine ⟨(by omega), ?_⟩
        refine ⟨fun h11 => ?_, fun h11 => ?_⟩
        · omega
        · refine ⟨_, rfl, (by omega), (by omega), ?_⟩
          intro r13 p140
          refine ⟨fun h15 => ?_, fun h15 => ?_⟩
          · refine ⟨(by omega), ?_⟩
            omega
          · omega
  | succ d ih =>
    intro i hd h0 m y5 y6 y7 hT f hr
    have z := f.z
    have e36 := z.mn
    have e2w : yw (2 * m 90 36) = 2 * m 90 36 := yw_s (2 * m 90 36) (by omega) (by omega)
    have e104 : m 104 (Int.toNat c) = g 104 (Int.toNat c) := z 104 _ (by decide) (by omega)
    have eEk : m 110 (Int.toNat c) = g 110 (Int.toNat c) := z.ea _
    have eLk : yMl m (Int.toNat c) = yMl g (Int.toNat c) := z.ml _
    refine yrun_ok (sp := fun pc => Nat.beq pc 33 || Nat.beq pc 121) hY 42 33 _ [] m ?_
    show (((yw (2 * (m 90 36))) ≤ i → (K [] m)) ∧ (¬ ((yw (2 * (m 90 36))) ≤ i) → ((2 : Int) ≠ 0 ∧ (((yb (fun x y => x - x / y * y) i 2) ≠ 0 → ((2 : Int) ≠ 0 ∧ (((0 : Int) ≤ (yb (fun x y => x / y) i 2) ∧ (yb (fun x y => x / y) i 2) < ((6 : Nat) : Int)) ∧ (∃ (w3 : Int), [(3, 90), (1, (m 112 (Int.toNat (yb (fun x y => x / y) i 2))))] = [(3, 90), (1, w3)] ∧ (0 ≤ w3 ∧ w3 < 40) ∧ (0 ≤ m 104 (Int.toNat w3) ∧ m 104 (Int.toNat w3) ≤ 5) ∧ (∀ (r4 : Int), (r4 = yMl m (Int.toNat w3)) → (((0 : Int) ≤ c ∧ c < ((40 : Nat) : Int)) ∧ ((r4 < (m 110 (Int.toNat c)) → (Y 33 [(3, 90), (1, k), (1, p), (1, c), (1, (yw (i + 1))), (1, r4), y6, y7] [] m)) ∧ (¬ (r4 < (m 110 (Int.toNat c))) → (∃ (w7 : Int), [(3, 90), (1, c)] = [(3, 90), (1, w7)] ∧ (0 ≤ w7 ∧ w7 < 40) ∧ (0 ≤ m 104 (Int.toNat w7) ∧ m 104 (Int.toNat w7) ≤ 5) ∧ (∀ (r8 : Int), (r8 = yMl m (Int.toNat w7)) → ((r4 ≤ r8 → (((0 : Int) ≤ k ∧ k < ((6 : Nat) : Int)) ∧ (Y 121 [(3, 90), (1, k), (1, p), (1, c), (1, i), (1, r4), (1, p), (1, 0)] [] (yset m 113 (Int.toNat k) r4)))) ∧ (¬ (r4 ≤ r8) → (Y 33 [(3, 90), (1, k), (1, p), (1, c), (1, (yw (i + 1))), (1, r4), y6, y7] [] m))))))))))))) ∧ (¬ ((yb (fun x y => x - x / y * y) i 2) ≠ 0) → ((2 : Int) ≠ 0 ∧ (((0 : Int) ≤ (yb (fun x y => x / y) i 2) ∧ (yb (fun x y => x / y) i 2) < ((6 : Nat) : Int)) ∧ (((0 : Int) ≤ (m 112 (Int.toNat (yb (fun x y => x / y) i 2))) ∧ (m 112 (Int.toNat (yb (fun x y => x / y) i 2))) < ((40 : Nat) : Int)) ∧ (((0 : Int) ≤ c ∧ c < ((40 : Nat) : Int)) ∧ (((m 110 (Int.toNat (m 112 (Int.toNat (yb (fun x y => x / y) i 2))))) < (m 110 (Int.toNat c)) → (Y 33 [(3, 90), (1, k), (1, p), (1, c), (1, (yw (i + 1))), (1, (m 110 (Int.toNat (m 112 (Int.toNat (yb (fun x y => x / y) i 2)))))), y6, y7] [] m)) ∧ (¬ ((m 110 (Int.toNat (m 112 (Int.toNat (yb (fun x y => x / y) i 2))))) < (m 110 (Int.toNat c))) → (∃ (w12 : Int), [(3, 90), (1, c)] = [(3, 90), (1, w12)] ∧ (0 ≤ w12 ∧ w12 < 40) ∧ (0 ≤ m 104 (Int.toNat w12) ∧ m 104 (Int.toNat w12) ≤ 5) ∧ (∀ (r13 : Int), (r13 = yMl m (Int.toNat w12)) → (((m 110 (Int.toNat (m 112 (Int.toNat (yb (fun x y => x / y) i 2))))) ≤ r13 → (((0 : Int) ≤ k ∧ k < ((6 : Nat) : Int)) ∧ (Y 121 [(3, 90), (1, k), (1, p), (1, c), (1, i), (1, (m 110 (Int.toNat (m 112 (Int.toNat (yb (fun x y => x / y) i 2)))))), (1, p), (1, 0)] [] (yset m 113 (Int.toNat k) (m 110 (Int.toNat (m 112 (Int.toNat (yb (fun x y => x / y) i 2))))))))) ∧ (¬ ((m 110 (Int.toNat (m 112 (Int.toNat (yb (fun x y => x / y) i 2))))) ≤ r13) → (Y 33 [(3, 90), (1, k), (1, p), (1, c), (1, (yw (i + 1))), (1, (m 110 (Int.toNat (m 112 (Int.toNat (yb (fun x y => x / y) i 2)))))), y6, y7] [] m))))))))))))))))
    refine ⟨fun h1 => ?_, fun h1 => ?_⟩
    · omega
    · refine ⟨(by decide), ?_⟩
      refine ⟨fun h2 => ?_, fun h2 => ?_⟩
      · refine ⟨(by decide), ?_⟩
        refine ⟨(by
      obtain ⟨d1, d2⟩ := yH2 (i := i) (by omega)
      have gi := (z.gd hG).2 (Int.toNat i / 2) (by omega)
      first
        | omega
        | (rw [d1]; omega)
        | (rw [d1, Int.toNat_natCast]; exact gi.1)
        | (rw [d1, Int.toNat_natCast]; exact gi.2)), ?_⟩
        refine ⟨_, rfl, (by
      obtain ⟨d1, d2⟩ := yH2 (i := i) (by omega)
      have gi := (z.gd hG).2 (Int.toNat i / 2) (by omega)
      first
        | omega
        | (rw [d1]; omega)
        | (rw [d1, Int.toNat_natCast]; exact gi.1)
        | (rw [d1, Int.toNat_natCast]; exact gi.2)), (by
      obtain ⟨d1, d2⟩ := yH2 (i := i) (by omega)
      have gi := (z.gd hG).2 (Int.toNat i / 2) (by omega)
      first
        | omega
        | (rw [d1]; omega)
        | (rw [d1, Int.toNat_natCast]; exact gi.1)
        | (rw [d1, Int.toNat_natCast]; exact gi.2)), ?_⟩
        intro r4 p50
        refine ⟨(by
      obtain ⟨d1, d2⟩ := yH2 (i := i) (by omega)
      have gi := (z.gd hG).2 (Int.toNat i / 2) (by omega)
      first
        | omega
        | (rw [d1]; omega)
        | (rw [d1, Int.toNat_natCast]; exact gi.1)
        | (rw [d1, Int.toNat_natCast]; exact gi.2)), ?_⟩
        refine ⟨fun h6 => ?_, fun h6 => ?_⟩
        · obtain ⟨d1, d2⟩ := yH2 (i := i) (by omega)
          have gi := (z.gd hG).2 (Int.toNat i / 2) (by omega)
          have yi : yw (i + 1) = i + 1 := yw_s (i + 1) (by omega) (by omega)
          have ti : Int.toNat (i + 1) = Int.toNat i + 1 := by omega
          rw [d2] at h2
          have eA : Int.toNat (m 112 (Int.toNat i / 2)) = yAm g (Int.toNat i / 2) := z.am _
          have hV : r4 = yVi g (Int.toNat i) := by
            have e := p50
            rw [d1, Int.toNat_natCast, eA, z.ml] at e
            rw [e]
            unfold yVi
            rw [if_neg (by omega)]
          rw [yi]
          refine ih (i + 1) (by omega) (by omega) m _ _ _ hT f ?_
          rw [ti]
          exact hr.sk hk.1 (fun y => by rw [ek, ← hV] at y; omega)
        · refine ⟨_, rfl, (by
      obtain ⟨d1, d2⟩ := yH2 (i := i) (by omega)
      have gi := (z.gd hG).2 (Int.toNat i / 2) (by omega)
      first
        | omega
        | (rw [d1]; omega)
        | (rw [d1, Int.toNat_natCast]; exact gi.1)
        | (rw [d1, Int.toNat_natCast]; exact gi.2)), (by
      obtain ⟨d1, d2⟩ := yH2 (i := i) (by omega)
      have gi := (z.gd hG).2 (Int.toNat i / 2) (by omega)
      first
        | omega
        | (rw [d1]; omega)
        | (rw [d1, Int.toNat_natCast]; exact gi.1)
        | (rw [d1, Int.toNat_natCast]; exact gi.2)), ?_⟩
          intro r8 p90
          refine ⟨fun h10 => ?_, fun h10 => ?_⟩
          · refine ⟨(by
      obtain ⟨d1, d2⟩ := yH2 (i := i) (by omega)
      have gi := (z.gd hG).2 (Int.toNat i / 2) (by omega)
      first
        | omega
        | (rw [d1]; omega)
        | (rw [d1, Int.toNat_natCast]; exact gi.1)
        | (rw [d1, Int.toNat_natCast]; exact gi.2)), ?_⟩
            obtain ⟨d1, d2⟩ := yH2 (i := i) (by omega)
            have gi := (z.gd hG).2 (Int.toNat i / 2) (by omega)
            have yi : yw (i + 1) = i + 1 := yw_s (i + 1) (by omega) (by omega)
            have ti : Int.toNat (i + 1) = Int.toNat i + 1 := by omega
            rw [d2] at h2
            have eA : Int.toNat (m 112 (Int.toNat i / 2)) = yAm g (Int.toNat i / 2) := z.am _
            have hV : r4 = yVi g (Int.toNat i) := by
              have e := p50
              rw [d1, Int.toNat_natCast, eA, z.ml] at e
              rw [e]
              unfold yVi
              rw [if_neg (by omega)]
            have hR : g 110 (yAm g (Int.toNat k)) ≤ yVi g (Int.toNat i) ∧ yVi g (Int.toNat i) ≤ yMl g (yAm g (Int.toNat k)) := by
              rw [ek, ← hV]
              omega
            rw [hV]
            have vr : -2147483648 ≤ yVi g (Int.toNat i) ∧ yVi g (Int.toNat i) ≤ 2147483647 := by
              have r1 := hT.fA (j := Int.toNat c) (List.mem_of_getElem? (i := 62) rfl) (by omega)
              have r2 : -2147483648 ≤ yMl g (Int.toNat c) ∧ yMl g (Int.toNat c) ≤ 2147483647 := yw_rng _
              rw [ek] at hR
              omega
            have fp : yFk k g (yset m 113 (Int.toNat k) (yVi g (Int.toNat i))) := f.put hk.1.1
            have e37 : (yset m 113 (Int.toNat k) (yVi g (Int.toNat i))) 90 37 = m 90 37 := yset_nc (by decide)
            have hr1 := hr.1
            refine yj_CF3 hY (fp.z.gd hG) (by rw [fp.z.mn]; exact hk.1) (by rw [fp.z 112 _ (by decide) (by omega)]; exact hc) yset_eq hp.2 (fun n hn => ?_) (Int.toNat k) 0 (by omega) (by decide) p (by show p = p + 0; omega)
            have hn2 := yCw_nx fp.z (fun j hj => fp.lo hj) hk.1.1 hp.1 hn
            have nb := @yDw_nb (yFlc (yset m 113 (Int.toNat k) (yVi g (Int.toNat i)))) ((yset m 113 (Int.toNat k) (yVi g (Int.toNat i))) 113) (Int.toNat k) (Int.toNat k)
            refine yt_CF3 hY (hT.sA (List.mem_of_getElem? (i := 65) rfl) (by decide +kernel) vr) (fp.z.gd hG) (by rw [fp.z.mn]; exact hk) ⟨hn2, by omega, by omega⟩ (by rw [e37]; omega) (by omega) (fun g3 t1 t2 t3 => ?_)
            refine ih (i + 1) (by omega) (by omega) g3 _ _ _ t1 (fp.tr t2 (by omega)) ?_
            rw [ti]
            exact yFrs.tk hk.1 (by omega) f hr hR t3
          · obtain ⟨d1, d2⟩ := yH2 (i := i) (by omega)
            have gi := (z.gd hG).2 (Int.toNat i / 2) (by omega)
            have yi : yw (i + 1) = i + 1 := yw_s (i + 1) (by omega) (by omega)
            have ti : Int.toNat (i + 1) = Int.toNat i + 1 := by omega
            rw [d2] at h2
            have eA : Int.toNat (m 112 (Int.toNat i / 2)) = yAm g (Int.toNat i / 2) := z.am _
            have hV : r4 = yVi g (Int.toNat i) := by
              have e := p50
              rw [d1, Int.toNat_natCast, eA, z.ml] at e
              rw [e]
              unfold yVi
              rw [if_neg (by omega)]
            rw [yi]
            refine ih (i + 1) (by omega) (by omega) m _ _ _ hT f ?_
            rw [ti]
            exact hr.sk hk.1 (fun y => by rw [ek, ← hV] at y; omega)
      · refine ⟨(by decide), ?_⟩
        refine ⟨(by
      obtain ⟨d1, d2⟩ := yH2 (i := i) (by omega)
      have gi := (z.gd hG).2 (Int.toNat i / 2) (by omega)
      first
        | omega
        | (rw [d1]; omega)
        | (rw [d1, Int.toNat_natCast]; exact gi.1)
        | (rw [d1, Int.toNat_natCast]; exact gi.2)), ?_⟩
        refine ⟨(by
      obtain ⟨d1, d2⟩ := yH2 (i := i) (by omega)
      have gi := (z.gd hG).2 (Int.toNat i / 2) (by omega)
      first
        | omega
        | (rw [d1]; omega)
        | (rw [d1, Int.toNat_natCast]; exact gi.1)
        | (rw [d1, Int.toNat_natCast]; exact gi.2)), ?_⟩
        refine ⟨(by
      obtain ⟨d1, d2⟩ := yH2 (i := i) (by omega)
      have gi := (z.gd hG).2 (Int.toNat i / 2) (by omega)
      first
        | omega
        | (rw [d1]; omega)
        | (rw [d1, Int.toNat_natCast]; exact gi.1)
        | (rw [d1, Int.toNat_natCast]; exact gi.2)), ?_⟩
        refine ⟨fun h11 => ?_, fun h11 => ?_⟩
        · obtain ⟨d1, d2⟩ := yH2 (i := i) (by omega)
          have gi := (z.gd hG).2 (Int.toNat i / 2) (by omega)
          have yi : yw (i + 1) = i + 1 := yw_s (i + 1) (by omega) (by omega)
          have ti : Int.toNat (i + 1) = Int.toNat i + 1 := by omega
          rw [d2] at h2
          have eA : Int.toNat (m 112 (Int.toNat i / 2)) = yAm g (Int.toNat i / 2) := z.am _
          have hV : (m 110 (Int.toNat (m 112 (Int.toNat (yb (fun x y => x / y) i 2))))) = yVi g (Int.toNat i) := by
            rw [d1, Int.toNat_natCast, eA, z.ea]
            unfold yVi
            rw [if_pos (by omega)]
          rw [yi]
          refine ih (i + 1) (by omega) (by omega) m _ _ _ hT f ?_
          rw [ti]
          exact hr.sk hk.1 (fun y => by rw [ek, ← hV] at y; omega)
        · refine ⟨_, rfl, (by
      obtain ⟨d1, d2⟩ := yH2 (i := i) (by omega)
      have gi := (z.gd hG).2 (Int.toNat i / 2) (by omega)
      first
        | omega
        | (rw [d1]; omega)
        | (rw [d1, Int.toNat_natCast]; exact gi.1)
        | (rw [d1, Int.toNat_natCast]; exact gi.2)), (by
      obtain ⟨d1, d2⟩ := yH2 (i := i) (by omega)
      have gi := (z.gd hG).2 (Int.toNat i / 2) (by omega)
      first
        | omega
        | (rw [d1]; omega)
        | (rw [d1, Int.toNat_natCast]; exact gi.1)
        | (rw [d1, Int.toNat_natCast]; exact gi.2)), ?_⟩
          intro r13 p140
          refine ⟨fun h15 => ?_, fun h15 => ?_⟩
          · refine ⟨(by
      obtain ⟨d1, d2⟩ := yH2 (i := i) (by omega)
      have gi := (z.gd hG).2 (Int.toNat i / 2) (by omega)
      first
        | omega
        | (rw [d1]; omega)
        | (rw [d1, Int.toNat_natCast]; exact gi.1)
        | (rw [d1, Int.toNat_natCast]; exact gi.2)), ?_⟩
            obtain ⟨d1, d2⟩ := yH2 (i := i) (by omega)
            have gi := (z.gd hG).2 (Int.toNat i / 2) (by omega)
            have yi : yw (i + 1) = i + 1 := yw_s (i + 1) (by omega) (by omega)
            have ti : Int.toNat (i + 1) = Int.toNat i + 1 := by omega
            rw [d2] at h2
            have eA : Int.toNat (m 112 (Int.toNat i / 2)) = yAm g (Int.toNat i / 2) := z.am _
            have hV : (m 110 (Int.toNat (m 112 (Int.toNat (yb (fun x y => x / y) i 2))))) = yVi g (Int.toNat i) := by
              rw [d1, Int.toNat_natCast, eA, z.ea]
              unfold yVi
              rw [if_pos (by omega)]
            have hR : g 110 (yAm g (Int.toNat k)) ≤ yVi g (Int.toNat i) ∧ yVi g (Int.toNat i) ≤ yMl g (yAm g (Int.toNat k)) := by
              rw [ek, ← hV]
              omega
            rw [hV]
            have vr : -2147483648 ≤ yVi g (Int.toNat i) ∧ yVi g (Int.toNat i) ≤ 2147483647 := by
              have r1 := hT.fA (j := Int.toNat c) (List.mem_of_getElem? (i := 62) rfl) (by omega)
              have r2 : -2147483648 ≤ yMl g (Int.toNat c) ∧ yMl g (Int.toNat c) ≤ 2147483647 := yw_rng _
              rw [ek] at hR
              omega
            have fp : yFk k g (yset m 113 (Int.toNat k) (yVi g (Int.toNat i))) := f.put hk.1.1
            have e37 : (yset m 113 (Int.toNat k) (yVi g (Int.toNat i))) 90 37 = m 90 37 := yset_nc (by decide)
            have hr1 := hr.1
            refine yj_CF3 hY (fp.z.gd hG) (by rw [fp.z.mn]; exact hk.1) (by rw [fp.z 112 _ (by decide) (by omega)]; exact hc) yset_eq hp.2 (fun n hn => ?_) (Int.toNat k) 0 (by omega) (by decide) p (by show p = p + 0; omega)
            have hn2 := yCw_nx fp.z (fun j hj => fp.lo hj) hk.1.1 hp.1 hn
            have nb := @yDw_nb (yFlc (yset m 113 (Int.toNat k) (yVi g (Int.toNat i)))) ((yset m 113 (Int.toNat k) (yVi g (Int.toNat i))) 113) (Int.toNat k) (Int.toNat k)
            refine yt_CF3 hY (hT.sA (List.mem_of_getElem? (i := 65) rfl) (by decide +kernel) vr) (fp.z.gd hG) (by rw [fp.z.mn]; exact hk) ⟨hn2, by omega, by omega⟩ (by rw [e37]; omega) (by omega) (fun g3 t1 t2 t3 => ?_)
            refine ih (i + 1) (by omega) (by omega) g3 _ _ _ t1 (fp.tr t2 (by omega)) ?_
            rw [ti]
            exact yFrs.tk hk.1 (by omega) f hr hR t3
          · obtain ⟨d1, d2⟩ := yH2 (i := i) (by omega)
            have gi := (z.gd hG).2 (Int.toNat i / 2) (by omega)
            have yi : yw (i + 1) = i + 1 := yw_s (i + 1) (by omega) (by omega)
            have ti : Int.toNat (i + 1) = Int.toNat i + 1 := by omega
            rw [d2] at h2
            have eA : Int.toNat (m 112 (Int.toNat i / 2)) = yAm g (Int.toNat i / 2) := z.am _
            have hV : (m 110 (Int.toNat (m 112 (Int.toNat (yb (fun x y => x / y) i 2))))) = yVi g (Int.toNat i) := by
              rw [d1, Int.toNat_natCast, eA, z.ea]
              unfold yVi
              rw [if_pos (by omega)]
            rw [yi]
            refine ih (i + 1) (by omega) (by omega) m _ _ _ hT f ?_
            rw [ti]
            exact hr.sk hk.1 (fun y => by rw [ek, ← hV] at y; omega)
set_option maxRecDepth 8000 in
theorem yv_CF3 {K : List yV → yM → Prop} {Y : yNx} {g : yM} {k p : Int} (hY : yCl zpD146 (zpZ, zpRS, zpP12, zpMT, [yC_LTO, yC_ILT, yC_CF2], (5, 143), 0) K Y) (hr_k : -2147483648 ≤ k ∧ k ≤ 2147483647) (hr_p : -2147483648 ≤ p ∧ p ≤ 2147483647) (hp0 : yTy zpZ g) (hp1 : yFgd g) (hp2 : (0 ≤ k ∧ k ≤ g 90 36) ∧ g 90 36 - k ≤ 3) (hp3 : p = yCw (yFlc g) (g 113) (yDnL (Int.toNat k)) ∧ 0 ≤ p ∧ p ≤ 12 * k) (hp4 : 0 ≤ g 90 37 ∧ g 90 37 ≤ 99) (hK : ∀ (g' : yM), (yTy zpZ g') → (yFk k g g') → (yFrs g g' (yCo g k)) → K [] g') : Y 0 [(3, 90), (1, k), (1, p), (0, 0), (0, 0), (0, 0), (0, 0), (0, 0)] [] g := by
  have h36 := hp1.1
  refine yrun_ok (sp := fun pc => Nat.beq pc 33) hY 16 0 _ [] g ?_
  show ((p < (g 90 37) → ((k ≠ (g 90 36) → (((0 : Int) ≤ k ∧ k < ((6 : Nat) : Int)) ∧ (Y 33 [(3, 90), (1, k), (1, p), (1, (g 112 (Int.toNat k))), (1, 0), (0, 0), (0, 0), (0, 0)] [] g))) ∧ (¬ (k ≠ (g 90 36)) → (K [] (yset g 90 37 p))))) ∧ (¬ (p < (g 90 37)) → (K [] g)))
  refine ⟨fun h1 => ?_, fun h1 => ?_⟩
  · refine ⟨fun h2 => ?_, fun h2 => ?_⟩
    · refine ⟨(by omega), ?_⟩
      exact yl_CF3 hY hp1 ⟨⟨hp2.1.1, by omega⟩, hp2.2⟩ rfl hp3 hp4 hK (Int.toNat (2 * g 90 36)) 0 (by omega) (by decide) g _ _ _ hp0 yFk.rf (yFrs.z hp4.1)
    · exact hK _ (hp0.sO (List.mem_of_getElem? (i := 42) rfl) rfl (by decide +kernel) ⟨by omega, by omega⟩) (fun a b c1 c2 => yset_ne (by omega)) (yFrs.on (by omega) hp2.1.1 hp3.1 hp3.2.1 (by omega))
  · exact hK g hp0 yFk.rf (yFrs.no hp2.1 hp3.1 hp4.1 (by omega))
theorem yM_CF3 {l : Launch} {Ts : List Cond} {cl : List vw_C} {RO : zRO} (H : zHyp Ts cl RO) : yMet l Ts cl zpZ RO zpMT yC_CF3 := ymet_of2 H.1 H.2.1 zpDj H.2.2.1 yRb H.p12 (ymets_cons (yM_LTO H) (ymets_cons (yM_ILT H) (ymets_cons (yM_CF2 H) ymets_nil))) (zrc0 rfl) (plainFor_of_name zpy12) zpDk146 (fun as g K Y h hA hY => by
  obtain ⟨k, p, rfl, hp0, hp1, hp2, hp3, hp4, hK⟩ := h
  exact yv_CF3 hY (yAr1 hA (by simp)) (yAr1 hA (by simp)) hp0 hp1 hp2 hp3 hp4 hK)
def yP_CF4 : yPT := fun as g K => ∃ (k p : Int), as = [(3, 90), (1, k), (1, p)] ∧ (yTy zpZ g) ∧ (yFgd g) ∧ ((0 ≤ k ∧ k ≤ g 90 36) ∧ g 90 36 - k ≤ 4) ∧ (p = yCw (yFlc g) (g 113) (yDnL (Int.toNat k)) ∧ 0 ≤ p ∧ p ≤ 12 * k) ∧ (0 ≤ g 90 37 ∧ g 90 37 ≤ 99) ∧ (∀ (g' : yM), (yTy zpZ g') → (yFk k g g') → (yFrs g g' (yCo g k)) → K [] g')
def yC_CF4 : yC := (146, (6, 170), yP_CF4)
set_option maxRecDepth 8000 in
theorem yt_CF4 {K : List yV → yM → Prop} {Y : yNx} {g : yM} {k p c i v n j : Int} (hY : yCl zpD146 (zpZ, zpRS, zpP12, zpMT, [yC_LTO, yC_ILT, yC_CF3], (6, 170), 0) K Y) (hT : yTy zpZ g) (hG : yFgd g) (hk : (0 ≤ k ∧ k < g 90 36) ∧ g 90 36 - k ≤ 4) (hn : n = yCw (yFlc g) (g 113) (yDnL (Int.toNat (k + 1))) ∧ 0 ≤ n ∧ n ≤ 12 * (k + 1)) (hF : 0 ≤ g 90 37 ∧ g 90 37 ≤ 99) (hi : 0 ≤ i ∧ i < 12) (hE : ∀ g3 : yM, yTy zpZ g3 → yFk (k + 1) g g3 → yFrs g g3 (yCo g (k + 1)) → Y 33 [(3, 90), (1, k), (1, p), (1, c), (1, i + 1), (1, v), (1, n), (1, j)] [] g3) : Y 197 [(3, 90), (1, k), (1, p), (1, c), (1, i), (1, v), (1, n), (1, j)] [] g := by
  have h36 := hG.1
  have yk : yw (k + 1) = k + 1 := yw_s (k + 1) (by omega) (by omega)
  have yi : yw (i + 1) = i + 1 := yw_s (i + 1) (by omega) (by omega)
  refine yrun_ok (sp := fun pc => Nat.beq pc 33) hY 9 197 _ [] g ?_
  show (∃ (k1 p2 : Int), [(3, 90), (1, (yw (k + 1))), (1, n)] = [(3, 90), (1, k1), (1, p2)] ∧ (yTy zpZ g) ∧ (yFgd g) ∧ ((0 ≤ k1 ∧ k1 ≤ g 90 36) ∧ g 90 36 - k1 ≤ 3) ∧ (p2 = yCw (yFlc g) (g 113) (yDnL (Int.toNat k1)) ∧ 0 ≤ p2 ∧ p2 ≤ 12 * k1) ∧ (0 ≤ g 90 37 ∧ g 90 37 ≤ 99) ∧ (∀ (g3 : yM), (yTy zpZ g3) → (yFk k1 g g3) → (yFrs g g3 (yCo g k1)) → (Y 33 [(3, 90), (1, k), (1, p), (1, c), (1, (yw (i + 1))), (1, v), (1, n), (1, j)] [] g3)))
  refine ⟨_, _, rfl, (hT), (hG), (by omega), (by rw [yk]; exact hn), (by omega), ?_⟩
  intro g3 p40 p41 p42
  rw [yk] at p41 p42
  rw [yi]
  exact hE _ p40 p41 p42
set_option maxRecDepth 8000 in
theorem yj_CF4 {K : List yV → yM → Prop} {Y : yNx} {g : yM} {k p c i v : Int} (hY : yCl zpD146 (zpZ, zpRS, zpP12, zpMT, [yC_LTO, yC_ILT, yC_CF3], (6, 170), 0) K Y) (hG : yFgd g) (hk : 0 ≤ k ∧ k < g 90 36) (hc : c = g 112 (Int.toNat k)) (hv : g 113 (Int.toNat k) = v) (hp : 0 ≤ p ∧ p ≤ 12 * k) (hE : ∀ n : Int, n = p + yDw (yFlc g) (g 113) (Int.toNat k) (yDnL (Int.toNat k)) → Y 197 [(3, 90), (1, k), (1, p), (1, c), (1, i), (1, v), (1, n), (1, k)] [] g) : ∀ (d : Nat) (j : Int), j + d = k → 0 ≤ j → ∀ n : Int, n = p + yDw (yFlc g) (g 113) (Int.toNat k) (yDnL (Int.toNat j)) → Y 121 [(3, 90), (1, k), (1, p), (1, c), (1, i), (1, v), (1, n), (1, j)] [] g := by
  have h36 := hG.1
  have gk := (hG.2 (Int.toNat k) (by omega)).1
  have ek : yAm g (Int.toNat k) = Int.toNat c := by rw [hc]; rfl
  intro d
  induction d with
  | zero =>
    intro j hd h0 n hn
    refine yrun_ok (sp := fun pc => Nat.beq pc 121 || Nat.beq pc 197) hY 39 121 _ [] g ?_
    show ((k ≤ j → (Y 197 [(3, 90), (1, k), (1, p), (1, c), (1, i), (1, v), (1, n), (1, j)] [] g)) ∧ (¬ (k ≤ j) → (((0 : Int) ≤ j ∧ j < ((6 : Nat) : Int)) ∧ (∃ (a2 b3 : Int), [(3, 90), (1, c), (1, (g 112 (Int.toNat j)))] = [(3, 90), (1, a2), (1, b3)] ∧ (0 ≤ a2 ∧ a2 < 40) ∧ (0 ≤ b3 ∧ b3 < 40) ∧ (∀ (r4 : Int), ((r4 = 1 ∧ yLa g (Int.toNat a2) (Int.toNat b3)) ∨ (r4 = 0 ∧ ¬ yLa g (Int.toNat a2) (Int.toNat b3))) → ((r4 = 0 → (((0 : Int) ≤ j ∧ j < ((6 : Nat) : Int)) ∧ (∃ (a7 b8 : Int), [(3, 90), (1, (g 112 (Int.toNat j))), (1, c)] = [(3, 90), (1, a7), (1, b8)] ∧ (0 ≤ a7 ∧ a7 < 40) ∧ (0 ≤ b8 ∧ b8 < 40) ∧ (∀ (r9 : Int), ((r9 = 1 ∧ yLa g (Int.toNat a7) (Int.toNat b8)) ∨ (r9 = 0 ∧ ¬ yLa g (Int.toNat a7) (Int.toNat b8))) → ((r9 = 0 → (Y 121 [(3, 90), (1, k), (1, p), (1, c), (1, i), (1, v), (1, (yw (n + 0))), (1, (yw (j + 1)))] [] g)) ∧ (¬ (r9 = 0) → (((0 : Int) ≤ j ∧ j < ((6 : Nat) : Int)) ∧ ((v ≤ (g 113 (Int.toNat j)) → (Y 121 [(3, 90), (1, k), (1, p), (1, c), (1, i), (1, v), (1, (yw (n + 0))), (1, (yw (j + 1)))] [] g)) ∧ (¬ (v ≤ (g 113 (Int.toNat j))) → (Y 121 [(3, 90), (1, k), (1, p), (1, c), (1, i), (1, v), (1, (yw (n + 1))), (1, (yw (j + 1)))] [] g)))))))))) ∧ (¬ (r4 = 0) → (((0 : Int) ≤ j ∧ j < ((6 : Nat) : Int)) ∧ ((v < (g 113 (Int.toNat j)) → (Y 121 [(3, 90), (1, k), (1, p), (1, c), (1, i), (1, v), (1, (yw (n + 1))), (1, (yw (j + 1)))] [] g)) ∧ (¬ (v < (g 113 (Int.toNat j))) → (((0 : Int) ≤ j ∧ j < ((6 : Nat) : Int)) ∧ (∃ (a14 b15 : Int), [(3, 90), (1, (g 112 (Int.toNat j))), (1, c)] = [(3, 90), (1, a14), (1, b15)] ∧ (0 ≤ a14 ∧ a14 < 40) ∧ (0 ≤ b15 ∧ b15 < 40) ∧ (∀ (r16 : Int), ((r16 = 1 ∧ yLa g (Int.toNat a14) (Int.toNat b15)) ∨ (r16 = 0 ∧ ¬ yLa g (Int.toNat a14) (Int.toNat b15))) → ((r16 = 0 → (Y 121 [(3, 90), (1, k), (1, p), (1, c), (1, i), (1, v), (1, (yw (n + 0))), (1, (yw (j + 1)))] [] g)) ∧ (¬ (r16 = 0) → (((0 : Int) ≤ j ∧ j < ((6 : Nat) : Int)) ∧ ((v ≤ (g 113 (Int.toNat j)) → (Y 121 [(3, 90), (1, k), (1, p), (1, c), (1, i), (1, v), (1, (yw (n + 0))), (1, (yw (j + 1)))] [] g)) ∧ (¬ (v ≤ (g 113 (Int.toNat j))) → (Y 121 [(3, 90), (1, k), (1, p), (1, c), (1, i), (1, v), (1, (yw (n + 1))), (1, (yw (j + 1)))] [] g)))))))))))))))))))
    refine ⟨fun h1 => ?_, fun h1 => ?_⟩
    · obtain rfl : j = k := by omega
      exact hE n hn
    · refine ⟨(by omega), ?_⟩
      refine ⟨_, _, rfl, (by omega), (by omega), ?_⟩
      intro r4 p50
      refine ⟨fun h6 => ?_, fun h6 => ?_⟩
      · refine ⟨(by omega), ?_⟩
        refine ⟨_, _, rfl, (by omega), (by omega), ?_⟩
        intro r9 p100
        refine ⟨fun h11 => ?_, fun h11 => ?_⟩
        · omega
        · refine ⟨(by omega), ?_⟩
          refine ⟨fun h12 => ?_, fun h12 => ?_⟩
          · omega
          · omega
      · refine ⟨(by omega), ?_⟩
        refine ⟨fun h13 => ?_, fun h13 => ?_⟩
        · omega
        · refine ⟨(by omega), ?_⟩
          refine ⟨_, _, rfl, (by omega), (by omega), ?_⟩
          intro r16 p170
          refine ⟨fun h18 => ?_, fun h18 => ?_⟩
          · omega
          · refine ⟨(by omega), ?_⟩
            refine ⟨fun h19 => ?_, fun h19 => ?_⟩
            · omega
            · omega
  | succ d ih =>
    intro j hd h0 n hn
    refine yrun_ok (sp := fun pc => Nat.beq pc 121 || Nat.beq pc 197) hY 39 121 _ [] g ?_
    show ((k ≤ j → (Y 197 [(3, 90), (1, k), (1, p), (1, c), (1, i), (1, v), (1, n), (1, j)] [] g)) ∧ (¬ (k ≤ j) → (((0 : Int) ≤ j ∧ j < ((6 : Nat) : Int)) ∧ (∃ (a2 b3 : Int), [(3, 90), (1, c), (1, (g 112 (Int.toNat j)))] = [(3, 90), (1, a2), (1, b3)] ∧ (0 ≤ a2 ∧ a2 < 40) ∧ (0 ≤ b3 ∧ b3 < 40) ∧ (∀ (r4 : Int), ((r4 = 1 ∧ yLa g (Int.toNat a2) (Int.toNat b3)) ∨ (r4 = 0 ∧ ¬ yLa g (Int.toNat a2) (Int.toNat b3))) → ((r4 = 0 → (((0 : Int) ≤ j ∧ j < ((6 : Nat) : Int)) ∧ (∃ (a7 b8 : Int), [(3, 90), (1, (g 112 (Int.toNat j))), (1, c)] = [(3, 90), (1, a7), (1, b8)] ∧ (0 ≤ a7 ∧ a7 < 40) ∧ (0 ≤ b8 ∧ b8 < 40) ∧ (∀ (r9 : Int), ((r9 = 1 ∧ yLa g (Int.toNat a7) (Int.toNat b8)) ∨ (r9 = 0 ∧ ¬ yLa g (Int.toNat a7) (Int.toNat b8))) → ((r9 = 0 → (Y 121 [(3, 90), (1, k), (1, p), (1, c), (1, i), (1, v), (1, (yw (n + 0))), (1, (yw (j + 1)))] [] g)) ∧ (¬ (r9 = 0) → (((0 : Int) ≤ j ∧ j < ((6 : Nat) : Int)) ∧ ((v ≤ (g 113 (Int.toNat j)) → (Y 121 [(3, 90), (1, k), (1, p), (1, c), (1, i), (1, v), (1, (yw (n + 0))), (1, (yw (j + 1)))] [] g)) ∧ (¬ (v ≤ (g 113 (Int.toNat j))) → (Y 121 [(3, 90), (1, k), (1, p), (1, c), (1, i), (1, v), (1, (yw (n + 1))), (1, (yw (j + 1)))] [] g)))))))))) ∧ (¬ (r4 = 0) → (((0 : Int) ≤ j ∧ j < ((6 : Nat) : Int)) ∧ ((v < (g 113 (Int.toNat j)) → (Y 121 [(3, 90), (1, k), (1, p), (1, c), (1, i), (1, v), (1, (yw (n + 1))), (1, (yw (j + 1)))] [] g)) ∧ (¬ (v < (g 113 (Int.toNat j))) → (((0 : Int) ≤ j ∧ j < ((6 : Nat) : Int)) ∧ (∃ (a14 b15 : Int), [(3, 90), (1, (g 112 (Int.toNat j))), (1, c)] = [(3, 90), (1, a14), (1, b15)] ∧ (0 ≤ a14 ∧ a14 < 40) ∧ (0 ≤ b15 ∧ b15 < 40) ∧ (∀ (r16 : Int), ((r16 = 1 ∧ yLa g (Int.toNat a14) (Int.toNat b15)) ∨ (r16 = 0 ∧ ¬ yLa g (Int.toNat a14) (Int.toNat b15))) → ((r16 = 0 → (Y 121 [(3, 90), (1, k), (1, p), (1, c), (1, i), (1, v), (1, (yw (n + 0))), (1, (yw (j + 1)))] [] g)) ∧ (¬ (r16 = 0) → (((0 : Int) ≤ j ∧ j < ((6 : Nat) : Int)) ∧ ((v ≤ (g 113 (Int.toNat j)) → (Y 121 [(3, 90), (1, k), (1, p), (1, c), (1, i), (1, v), (1, (yw (n + 0))), (1, (yw (j + 1)))] [] g)) ∧ (¬ (v ≤ (g 113 (Int.toNat j))) → (Y 121 [(3, 90), (1, k), (1, p), (1, c), (1, i), (1, v), (1, (yw (n + 1))), (1, (yw (j + 1)))] [] g)))))))))))))))))))
    refine ⟨fun h1 => ?_, fun h1 => ?_⟩
    · omega
    · refine ⟨(by have gj := (hG.2 (Int.toNat j) (by omega)).1; omega), ?_⟩
      refine ⟨_, _, rfl, (by have gj := (hG.2 (Int.toNat j) (by omega)).1; omega), (by have gj := (hG.2 (Int.toNat j) (by omega)).1; omega), ?_⟩
      intro r4 p50
      refine ⟨fun h6 => ?_, fun h6 => ?_⟩
      · refine ⟨(by have gj := (hG.2 (Int.toNat j) (by omega)).1; omega), ?_⟩
        refine ⟨_, _, rfl, (by have gj := (hG.2 (Int.toNat j) (by omega)).1; omega), (by have gj := (hG.2 (Int.toNat j) (by omega)).1; omega), ?_⟩
        intro r9 p100
        refine ⟨fun h11 => ?_, fun h11 => ?_⟩
        · have yj : yw (j + 1) = j + 1 := yw_s (j + 1) (by omega) (by omega)
          have nb := @yDw_nb (yFlc g) (g 113) (Int.toNat k) (Int.toNat j)
          have ej : yAm g (Int.toNat j) = Int.toNat (g 112 (Int.toNat j)) := rfl
          have hs : yDw (yFlc g) (g 113) (Int.toNat k) (yDnL (Int.toNat j + 1)) = 0 + yDw (yFlc g) (g 113) (Int.toNat k) (yDnL (Int.toNat j)) := by
            refine yDs ?_
            rw [ek, ej, hv]
            rcases p50 with ⟨q1, q2⟩ | ⟨q1, q2⟩
            · rcases p100 with ⟨q3, q4⟩ | ⟨q3, q4⟩
              · first
                  | omega
                  | exact Or.inl ⟨rfl, Or.inl ⟨q2, by omega⟩⟩
                  | exact Or.inl ⟨rfl, Or.inr ⟨q4, by omega⟩⟩
                  | exact Or.inr ⟨rfl, (fun y => by have y2 := y.2; omega), (fun y => by have y2 := y.2; omega)⟩
              · first
                  | omega
                  | exact Or.inl ⟨rfl, Or.inl ⟨q2, by omega⟩⟩
                  | exact Or.inr ⟨rfl, (fun y => by have y2 := y.2; omega), (fun y => q4 y.1)⟩
            · rcases p100 with ⟨q3, q4⟩ | ⟨q3, q4⟩
              · first
                  | omega
                  | exact Or.inl ⟨rfl, Or.inr ⟨q4, by omega⟩⟩
                  | exact Or.inr ⟨rfl, (fun y => q2 y.1), (fun y => by have y2 := y.2; omega)⟩
              · first
                  | omega
                  | exact Or.inr ⟨rfl, (fun y => q2 y.1), (fun y => q4 y.1)⟩
          rw [yj]
          refine ih (j + 1) (by omega) (by omega) _ ?_
          rw [show Int.toNat (j + 1) = Int.toNat j + 1 by omega, hs, yw_s (n + 0) (by omega) (by omega), hn]
          omega
        · refine ⟨(by have gj := (hG.2 (Int.toNat j) (by omega)).1; omega), ?_⟩
          refine ⟨fun h12 => ?_, fun h12 => ?_⟩
          · have yj : yw (j + 1) = j + 1 := yw_s (j + 1) (by omega) (by omega)
            have nb := @yDw_nb (yFlc g) (g 113) (Int.toNat k) (Int.toNat j)
            have ej : yAm g (Int.toNat j) = Int.toNat (g 112 (Int.toNat j)) := rfl
            have hs : yDw (yFlc g) (g 113) (Int.toNat k) (yDnL (Int.toNat j + 1)) = 0 + yDw (yFlc g) (g 113) (Int.toNat k) (yDnL (Int.toNat j)) := by
              refine yDs ?_
              rw [ek, ej, hv]
              rcases p50 with ⟨q1, q2⟩ | ⟨q1, q2⟩
              · rcases p100 with ⟨q3, q4⟩ | ⟨q3, q4⟩
                · first
                    | omega
                    | exact Or.inl ⟨rfl, Or.inl ⟨q2, by omega⟩⟩
                    | exact Or.inl ⟨rfl, Or.inr ⟨q4, by omega⟩⟩
                    | exact Or.inr ⟨rfl, (fun y => by have y2 := y.2; omega), (fun y => by have y2 := y.2; omega)⟩
                · first
                    | omega
                    | exact Or.inl ⟨rfl, Or.inl ⟨q2, by omega⟩⟩
                    | exact Or.inr ⟨rfl, (fun y => by have y2 := y.2; omega), (fun y => q4 y.1)⟩
              · rcases p100 with ⟨q3, q4⟩ | ⟨q3, q4⟩
                · first
                    | omega
                    | exact Or.inl ⟨rfl, Or.inr ⟨q4, by omega⟩⟩
                    | exact Or.inr ⟨rfl, (fun y => q2 y.1), (fun y => by have y2 := y.2; omega)⟩
                · first
                    | omega
                    | exact Or.inr ⟨rfl, (fun y => q2 y.1), (fun y => q4 y.1)⟩
            rw [yj]
            refine ih (j + 1) (by omega) (by omega) _ ?_
            rw [show Int.toNat (j + 1) = Int.toNat j + 1 by omega, hs, yw_s (n + 0) (by omega) (by omega), hn]
            omega
          · have yj : yw (j + 1) = j + 1 := yw_s (j + 1) (by omega) (by omega)
            have nb := @yDw_nb (yFlc g) (g 113) (Int.toNat k) (Int.toNat j)
            have ej : yAm g (Int.toNat j) = Int.toNat (g 112 (Int.toNat j)) := rfl
            have hs : yDw (yFlc g) (g 113) (Int.toNat k) (yDnL (Int.toNat j + 1)) = 1 + yDw (yFlc g) (g 113) (Int.toNat k) (yDnL (Int.toNat j)) := by
              refine yDs ?_
              rw [ek, ej, hv]
              rcases p50 with ⟨q1, q2⟩ | ⟨q1, q2⟩
              · rcases p100 with ⟨q3, q4⟩ | ⟨q3, q4⟩
                · first
                    | omega
                    | exact Or.inl ⟨rfl, Or.inl ⟨q2, by omega⟩⟩
                    | exact Or.inl ⟨rfl, Or.inr ⟨q4, by omega⟩⟩
                    | exact Or.inr ⟨rfl, (fun y => by have y2 := y.2; omega), (fun y => by have y2 := y.2; omega)⟩
                · first
                    | omega
                    | exact Or.inl ⟨rfl, Or.inl ⟨q2, by omega⟩⟩
                    | exact Or.inr ⟨rfl, (fun y => by have y2 := y.2; omega), (fun y => q4 y.1)⟩
              · rcases p100 with ⟨q3, q4⟩ | ⟨q3, q4⟩
                · first
                    | omega
                    | exact Or.inl ⟨rfl, Or.inr ⟨q4, by omega⟩⟩
                    | exact Or.inr ⟨rfl, (fun y => q2 y.1), (fun y => by have y2 := y.2; omega)⟩
                · first
                    | omega
                    | exact Or.inr ⟨rfl, (fun y => q2 y.1), (fun y => q4 y.1)⟩
            rw [yj]
            refine ih (j + 1) (by omega) (by omega) _ ?_
            rw [show Int.toNat (j + 1) = Int.toNat j + 1 by omega, hs, yw_s (n + 1) (by omega) (by omega), hn]
            omega
      · refine ⟨(by have gj := (hG.2 (Int.toNat j) (by omega)).1; omega), ?_⟩
        refine ⟨fun h13 => ?_, fun h13 => ?_⟩
        · have yj : yw (j + 1) = j + 1 := yw_s (j + 1) (by omega) (by omega)
          have nb := @yDw_nb (yFlc g) (g 113) (Int.toNat k) (Int.toNat j)
          have ej : yAm g (Int.toNat j) = Int.toNat (g 112 (Int.toNat j)) := rfl
          have hs : yDw (yFlc g) (g 113) (Int.toNat k) (yDnL (Int.toNat j + 1)) = 1 + yDw (yFlc g) (g 113) (Int.toNat k) (yDnL (Int.toNat j)) := by
            refine yDs ?_
            rw [ek, ej, hv]
            rcases p50 with ⟨q1, q2⟩ | ⟨q1, q2⟩
            · first
                | omega
                | exact Or.inl ⟨rfl, Or.inl ⟨q2, by omega⟩⟩
                | exact Or.inr ⟨rfl, (fun y => by have y2 := y.2; omega), (fun y => by have y2 := y.2; omega)⟩
            · first
                | omega
                | exact Or.inr ⟨rfl, (fun y => q2 y.1), (fun y => by have y2 := y.2; omega)⟩
          rw [yj]
          refine ih (j + 1) (by omega) (by omega) _ ?_
          rw [show Int.toNat (j + 1) = Int.toNat j + 1 by omega, hs, yw_s (n + 1) (by omega) (by omega), hn]
          omega
        · refine ⟨(by have gj := (hG.2 (Int.toNat j) (by omega)).1; omega), ?_⟩
          refine ⟨_, _, rfl, (by have gj := (hG.2 (Int.toNat j) (by omega)).1; omega), (by have gj := (hG.2 (Int.toNat j) (by omega)).1; omega), ?_⟩
          intro r16 p170
          refine ⟨fun h18 => ?_, fun h18 => ?_⟩
          · have yj : yw (j + 1) = j + 1 := yw_s (j + 1) (by omega) (by omega)
            have nb := @yDw_nb (yFlc g) (g 113) (Int.toNat k) (Int.toNat j)
            have ej : yAm g (Int.toNat j) = Int.toNat (g 112 (Int.toNat j)) := rfl
            have hs : yDw (yFlc g) (g 113) (Int.toNat k) (yDnL (Int.toNat j + 1)) = 0 + yDw (yFlc g) (g 113) (Int.toNat k) (yDnL (Int.toNat j)) := by
              refine yDs ?_
              rw [ek, ej, hv]
              rcases p50 with ⟨q1, q2⟩ | ⟨q1, q2⟩
              · rcases p170 with ⟨q3, q4⟩ | ⟨q3, q4⟩
                · first
                    | omega
                    | exact Or.inl ⟨rfl, Or.inl ⟨q2, by omega⟩⟩
                    | exact Or.inl ⟨rfl, Or.inr ⟨q4, by omega⟩⟩
                    | exact Or.inr ⟨rfl, (fun y => by have y2 := y.2; omega), (fun y => by have y2 := y.2; omega)⟩
                · first
                    | omega
                    | exact Or.inl ⟨rfl, Or.inl ⟨q2, by omega⟩⟩
                    | exact Or.inr ⟨rfl, (fun y => by have y2 := y.2; omega), (fun y => q4 y.1)⟩
              · rcases p170 with ⟨q3, q4⟩ | ⟨q3, q4⟩
                · first
                    | omega
                    | exact Or.inl ⟨rfl, Or.inr ⟨q4, by omega⟩⟩
                    | exact Or.inr ⟨rfl, (fun y => q2 y.1), (fun y => by have y2 := y.2; omega)⟩
                · first
                    | omega
                    | exact Or.inr ⟨rfl, (fun y => q2 y.1), (fun y => q4 y.1)⟩
            rw [yj]
            refine ih (j + 1) (by omega) (by omega) _ ?_
            rw [show Int.toNat (j + 1) = Int.toNat j + 1 by omega, hs, yw_s (n + 0) (by omega) (by omega), hn]
            omega
          · refine ⟨(by have gj := (hG.2 (Int.toNat j) (by omega)).1; omega), ?_⟩
            refine ⟨fun h19 => ?_, fun h19 => ?_⟩
            · have yj : yw (j + 1) = j + 1 := yw_s (j + 1) (by omega) (by omega)
              have nb := @yDw_nb (yFlc g) (g 113) (Int.toNat k) (Int.toNat j)
              have ej : yAm g (Int.toNat j) = Int.toNat (g 112 (Int.toNat j)) := rfl
              have hs : yDw (yFlc g) (g 113) (Int.toNat k) (yDnL (Int.toNat j + 1)) = 0 + yDw (yFlc g) (g 113) (Int.toNat k) (yDnL (Int.toNat j)) := by
                refine yDs ?_
                rw [ek, ej, hv]
                rcases p50 with ⟨q1, q2⟩ | ⟨q1, q2⟩
                · rcases p170 with ⟨q3, q4⟩ | ⟨q3, q4⟩
                  · first
                      | omega
                      | exact Or.inl ⟨rfl, Or.inl ⟨q2, by omega⟩⟩
                      | exact Or.inl ⟨rfl, Or.inr ⟨q4, by omega⟩⟩
                      | exact Or.inr ⟨rfl, (fun y => by have y2 := y.2; omega), (fun y => by have y2 := y.2; omega)⟩
                  · first
                      | omega
                      | exact Or.inl ⟨rfl, Or.inl ⟨q2, by omega⟩⟩
                      | exact Or.inr ⟨rfl, (fun y => by have y2 := y.2; omega), (fun y => q4 y.1)⟩
                · rcases p170 with ⟨q3, q4⟩ | ⟨q3, q4⟩
                  · first
                      | omega
                      | exact Or.inl ⟨rfl, Or.inr ⟨q4, by omega⟩⟩
                      | exact Or.inr ⟨rfl, (fun y => q2 y.1), (fun y => by have y2 := y.2; omega)⟩
                  · first
                      | omega
                      | exact Or.inr ⟨rfl, (fun y => q2 y.1), (fun y => q4 y.1)⟩
              rw [yj]
              refine ih (j + 1) (by omega) (by omega) _ ?_
              rw [show Int.toNat (j + 1) = Int.toNat j + 1 by omega, hs, yw_s (n + 0) (by omega) (by omega), hn]
              omega
            · have yj : yw (j + 1) = j + 1 := yw_s (j + 1) (by omega) (by omega)
              have nb := @yDw_nb (yFlc g) (g 113) (Int.toNat k) (Int.toNat j)
              have ej : yAm g (Int.toNat j) = Int.toNat (g 112 (Int.toNat j)) := rfl
              have hs : yDw (yFlc g) (g 113) (Int.toNat k) (yDnL (Int.toNat j + 1)) = 1 + yDw (yFlc g) (g 113) (Int.toNat k) (yDnL (Int.toNat j)) := by
                refine yDs ?_
                rw [ek, ej, hv]
                rcases p50 with ⟨q1, q2⟩ | ⟨q1, q2⟩
                · rcases p170 with ⟨q3, q4⟩ | ⟨q3, q4⟩
                  · first
                      | omega
                      | exact Or.inl ⟨rfl, Or.inl ⟨q2, by omega⟩⟩
                      | exact Or.inl ⟨rfl, Or.inr ⟨q4, by omega⟩⟩
                      | exact Or.inr ⟨rfl, (fun y => by have y2 := y.2; omega), (fun y => by have y2 := y.2; omega)⟩
                  · first
                      | omega
                      | exact Or.inl ⟨rfl, Or.inl ⟨q2, by omega⟩⟩
                      | exact Or.inr ⟨rfl, (fun y => by have y2 := y.2; omega), (fun y => q4 y.1)⟩
                · rcases p170 with ⟨q3, q4⟩ | ⟨q3, q4⟩
                  · first
                      | omega
                      | exact Or.inl ⟨rfl, Or.inr ⟨q4, by omega⟩⟩
                      | exact Or.inr ⟨rfl, (fun y => q2 y.1), (fun y => by have y2 := y.2; omega)⟩
                  · first
                      | omega
                      | exact Or.inr ⟨rfl, (fun y => q2 y.1), (fun y => q4 y.1)⟩
              rw [yj]
              refine ih (j + 1) (by omega) (by omega) _ ?_
              rw [show Int.toNat (j + 1) = Int.toNat j + 1 by omega, hs, yw_s (n + 1) (by omega) (by omega), hn]
              omega
set_option maxRecDepth 8000 in
theorem yl_CF4 {K : List yV → yM → Prop} {Y : yNx} {g : yM} {k p c : Int} (hY : yCl zpD146 (zpZ, zpRS, zpP12, zpMT, [yC_LTO, yC_ILT, yC_CF3], (6, 170), 0) K Y) (hG : yFgd g) (hk : (0 ≤ k ∧ k < g 90 36) ∧ g 90 36 - k ≤ 4) (hc : c = g 112 (Int.toNat k)) (hp : p = yCw (yFlc g) (g 113) (yDnL (Int.toNat k)) ∧ 0 ≤ p ∧ p ≤ 12 * k) (hF : 0 ≤ g 90 37 ∧ g 90 37 ≤ 99) (hK : ∀ g' : yM, yTy zpZ g' → yFk k g g' → yFrs g g' (yCo g k) → K [] g') : ∀ (d : Nat) (i : Int), i + d = 2 * g 90 36 → 0 ≤ i → ∀ (m : yM) (y5 y6 y7 : yV), yTy zpZ m → yFk k g m → yFrs g m (yPi g k (Int.toNat i)) → Y 33 [(3, 90), (1, k), (1, p), (1, c), (1, i), y5, y6, y7] [] m := by
  have h36 := hG.1
  have gk := hG.2 (Int.toNat k) (by omega)
  have ek : yAm g (Int.toNat k) = Int.toNat c := by rw [hc]; rfl
  rw [ek] at gk
  intro d
  induction d with
  | zero =>
    intro i hd h0 m y5 y6 y7 hT f hr
    have z := f.z
    have e36 := z.mn
    have e2w : yw (2 * m 90 36) = 2 * m 90 36 := yw_s (2 * m 90 36) (by omega) (by omega)
    have e104 : m 104 (Int.toNat c) = g 104 (Int.toNat c) := z 104 _ (by decide) (by omega)
    have eEk : m 110 (Int.toNat c) = g 110 (Int.toNat c) := z.ea _
    have eLk : yMl m (Int.toNat c) = yMl g (Int.toNat c) := z.ml _
    refine yrun_ok (sp := fun pc => Nat.beq pc 33 || Nat.beq pc 121) hY 42 33 _ [] m ?_
    show (((yw (2 * (m 90 36))) ≤ i → (K [] m)) ∧ (¬ ((yw (2 * (m 90 36))) ≤ i) → ((2 : Int) ≠ 0 ∧ (((yb (fun x y => x - x / y * y) i 2) ≠ 0 → ((2 : Int) ≠ 0 ∧ (((0 : Int) ≤ (yb (fun x y => x / y) i 2) ∧ (yb (fun x y => x / y) i 2) < ((6 : Nat) : Int)) ∧ (∃ (w3 : Int), [(3, 90), (1, (m 112 (Int.toNat (yb (fun x y => x / y) i 2))))] = [(3, 90), (1, w3)] ∧ (0 ≤ w3 ∧ w3 < 40) ∧ (0 ≤ m 104 (Int.toNat w3) ∧ m 104 (Int.toNat w3) ≤ 5) ∧ (∀ (r4 : Int), (r4 = yMl m (Int.toNat w3)) → (((0 : Int) ≤ c ∧ c < ((40 : Nat) : Int)) ∧ ((r4 < (m 110 (Int.toNat c)) → (Y 33 [(3, 90), (1, k), (1, p), (1, c), (1, (yw (i + 1))), (1, r4), y6, y7] [] m)) ∧ (¬ (r4 < (m 110 (Int.toNat c))) → (∃ (w7 : Int), [(3, 90), (1, c)] = [(3, 90), (1, w7)] ∧ (0 ≤ w7 ∧ w7 < 40) ∧ (0 ≤ m 104 (Int.toNat w7) ∧ m 104 (Int.toNat w7) ≤ 5) ∧ (∀ (r8 : Int), (r8 = yMl m (Int.toNat w7)) → ((r4 ≤ r8 → (((0 : Int) ≤ k ∧ k < ((6 : Nat) : Int)) ∧ (Y 121 [(3, 90), (1, k), (1, p), (1, c), (1, i), (1, r4), (1, p), (1, 0)] [] (yset m 113 (Int.toNat k) r4)))) ∧ (¬ (r4 ≤ r8) → (Y 33 [(3, 90), (1, k), (1, p), (1, c), (1, (yw (i + 1))), (1, r4), y6, y7] [] m))))))))))))) ∧ (¬ ((yb (fun x y => x - x / y * y) i 2) ≠ 0) → ((2 : Int) ≠ 0 ∧ (((0 : Int) ≤ (yb (fun x y => x / y) i 2) ∧ (yb (fun x y => x / y) i 2) < ((6 : Nat) : Int)) ∧ (((0 : Int) ≤ (m 112 (Int.toNat (yb (fun x y => x / y) i 2))) ∧ (m 112 (Int.toNat (yb (fun x y => x / y) i 2))) < ((40 : Nat) : Int)) ∧ (((0 : Int) ≤ c ∧ c < ((40 : Nat) : Int)) ∧ (((m 110 (Int.toNat (m 112 (Int.toNat (yb (fun x y => x / y) i 2))))) < (m 110 (Int.toNat c)) → (Y 33 [(3, 90), (1, k), (1, p), (1, c), (1, (yw (i + 1))), (1, (m 110 (Int.toNat (m 112 (Int.toNat (yb (fun x y => x / y) i 2)))))), y6, y7] [] m)) ∧ (¬ ((m 110 (Int.toNat (m 112 (Int.toNat (yb (fun x y => x / y) i 2))))) < (m 110 (Int.toNat c))) → (∃ (w12 : Int), [(3, 90), (1, c)] = [(3, 90), (1, w12)] ∧ (0 ≤ w12 ∧ w12 < 40) ∧ (0 ≤ m 104 (Int.toNat w12) ∧ m 104 (Int.toNat w12) ≤ 5) ∧ (∀ (r13 : Int), (r13 = yMl m (Int.toNat w12)) → (((m 110 (Int.toNat (m 112 (Int.toNat (yb (fun x y => x / y) i 2))))) ≤ r13 → (((0 : Int) ≤ k ∧ k < ((6 : Nat) : Int)) ∧ (Y 121 [(3, 90), (1, k), (1, p), (1, c), (1, i), (1, (m 110 (Int.toNat (m 112 (Int.toNat (yb (fun x y => x / y) i 2)))))), (1, p), (1, 0)] [] (yset m 113 (Int.toNat k) (m 110 (Int.toNat (m 112 (Int.toNat (yb (fun x y => x / y) i 2))))))))) ∧ (¬ ((m 110 (Int.toNat (m 112 (Int.toNat (yb (fun x y => x / y) i 2))))) ≤ r13) → (Y 33 [(3, 90), (1, k), (1, p), (1, c), (1, (yw (i + 1))), (1, (m 110 (Int.toNat (m 112 (Int.toNat (yb (fun x y => x / y) i 2)))))), y6, y7] [] m))))))))))))))))
    refine ⟨fun h1 => ?_, fun h1 => ?_⟩
    · obtain rfl : i = 2 * g 90 36 := by omega
      exact hK m hT f (hr.al hk.1)
    · refine ⟨(by omega), ?_⟩
      refine ⟨fun h2 => ?_, fun h2 => ?_⟩
      · refine ⟨(by omega), ?_⟩
        refine ⟨(by omega), ?_⟩
        refine ⟨_, rfl, (by omega), (by omega), ?_⟩
        intro r4 p50
        refine ⟨(by omega), ?_⟩
        refine ⟨fun h6 => ?_, fun h6 => ?_⟩
        · omega
        · refine ⟨_, rfl, (by omega), (by omega), ?_⟩
          intro r8 p90
          refine ⟨fun h10 => ?_, fun h10 => ?_⟩
          · refine ⟨(by omega), ?_⟩
            omega
          · omega
      · refine ⟨(by omega), ?_⟩
        refine ⟨(by omega), ?_⟩
        refine ⟨(by omega), ?_⟩
        refine ⟨(by omega), ?_⟩
        refine ⟨fun h11 => ?_, fun h11 => ?_⟩
        · omega
        · refine ⟨_, rfl, (by omega), (by omega), ?_⟩
          intro r13 p140
          refine ⟨fun h15 => ?_, fun h15 => ?_⟩
          · refine ⟨(by omega), ?_⟩
            omega
          · omega
  | succ d ih =>
    intro i hd h0 m y5 y6 y7 hT f hr
    have z := f.z
    have e36 := z.mn
    have e2w : yw (2 * m 90 36) = 2 * m 90 36 := yw_s (2 * m 90 36) (by omega) (by omega)
    have e104 : m 104 (Int.toNat c) = g 104 (Int.toNat c) := z 104 _ (by decide) (by omega)
    have eEk : m 110 (Int.toNat c) = g 110 (Int.toNat c) := z.ea _
    have eLk : yMl m (Int.toNat c) = yMl g (Int.toNat c) := z.ml _
    refine yrun_ok (sp := fun pc => Nat.beq pc 33 || Nat.beq pc 121) hY 42 33 _ [] m ?_
    show (((yw (2 * (m 90 36))) ≤ i → (K [] m)) ∧ (¬ ((yw (2 * (m 90 36))) ≤ i) → ((2 : Int) ≠ 0 ∧ (((yb (fun x y => x - x / y * y) i 2) ≠ 0 → ((2 : Int) ≠ 0 ∧ (((0 : Int) ≤ (yb (fun x y => x / y) i 2) ∧ (yb (fun x y => x / y) i 2) < ((6 : Nat) : Int)) ∧ (∃ (w3 : Int), [(3, 90), (1, (m 112 (Int.toNat (yb (fun x y => x / y) i 2))))] = [(3, 90), (1, w3)] ∧ (0 ≤ w3 ∧ w3 < 40) ∧ (0 ≤ m 104 (Int.toNat w3) ∧ m 104 (Int.toNat w3) ≤ 5) ∧ (∀ (r4 : Int), (r4 = yMl m (Int.toNat w3)) → (((0 : Int) ≤ c ∧ c < ((40 : Nat) : Int)) ∧ ((r4 < (m 110 (Int.toNat c)) → (Y 33 [(3, 90), (1, k), (1, p), (1, c), (1, (yw (i + 1))), (1, r4), y6, y7] [] m)) ∧ (¬ (r4 < (m 110 (Int.toNat c))) → (∃ (w7 : Int), [(3, 90), (1, c)] = [(3, 90), (1, w7)] ∧ (0 ≤ w7 ∧ w7 < 40) ∧ (0 ≤ m 104 (Int.toNat w7) ∧ m 104 (Int.toNat w7) ≤ 5) ∧ (∀ (r8 : Int), (r8 = yMl m (Int.toNat w7)) → ((r4 ≤ r8 → (((0 : Int) ≤ k ∧ k < ((6 : Nat) : Int)) ∧ (Y 121 [(3, 90), (1, k), (1, p), (1, c), (1, i), (1, r4), (1, p), (1, 0)] [] (yset m 113 (Int.toNat k) r4)))) ∧ (¬ (r4 ≤ r8) → (Y 33 [(3, 90), (1, k), (1, p), (1, c), (1, (yw (i + 1))), (1, r4), y6, y7] [] m))))))))))))) ∧ (¬ ((yb (fun x y => x - x / y * y) i 2) ≠ 0) → ((2 : Int) ≠ 0 ∧ (((0 : Int) ≤ (yb (fun x y => x / y) i 2) ∧ (yb (fun x y => x / y) i 2) < ((6 : Nat) : Int)) ∧ (((0 : Int) ≤ (m 112 (Int.toNat (yb (fun x y => x / y) i 2))) ∧ (m 112 (Int.toNat (yb (fun x y => x / y) i 2))) < ((40 : Nat) : Int)) ∧ (((0 : Int) ≤ c ∧ c < ((40 : Nat) : Int)) ∧ (((m 110 (Int.toNat (m 112 (Int.toNat (yb (fun x y => x / y) i 2))))) < (m 110 (Int.toNat c)) → (Y 33 [(3, 90), (1, k), (1, p), (1, c), (1, (yw (i + 1))), (1, (m 110 (Int.toNat (m 112 (Int.toNat (yb (fun x y => x / y) i 2)))))), y6, y7] [] m)) ∧ (¬ ((m 110 (Int.toNat (m 112 (Int.toNat (yb (fun x y => x / y) i 2))))) < (m 110 (Int.toNat c))) → (∃ (w12 : Int), [(3, 90), (1, c)] = [(3, 90), (1, w12)] ∧ (0 ≤ w12 ∧ w12 < 40) ∧ (0 ≤ m 104 (Int.toNat w12) ∧ m 104 (Int.toNat w12) ≤ 5) ∧ (∀ (r13 : Int), (r13 = yMl m (Int.toNat w12)) → (((m 110 (Int.toNat (m 112 (Int.toNat (yb (fun x y => x / y) i 2))))) ≤ r13 → (((0 : Int) ≤ k ∧ k < ((6 : Nat) : Int)) ∧ (Y 121 [(3, 90), (1, k), (1, p), (1, c), (1, i), (1, (m 110 (Int.toNat (m 112 (Int.toNat (yb (fun x y => x / y) i 2)))))), (1, p), (1, 0)] [] (yset m 113 (Int.toNat k) (m 110 (Int.toNat (m 112 (Int.toNat (yb (fun x y => x / y) i 2))))))))) ∧ (¬ ((m 110 (Int.toNat (m 112 (Int.toNat (yb (fun x y => x / y) i 2))))) ≤ r13) → (Y 33 [(3, 90), (1, k), (1, p), (1, c), (1, (yw (i + 1))), (1, (m 110 (Int.toNat (m 112 (Int.toNat (yb (fun x y => x / y) i 2)))))), y6, y7] [] m))))))))))))))))
    refine ⟨fun h1 => ?_, fun h1 => ?_⟩
    · omega
    · refine ⟨(by decide), ?_⟩
      refine ⟨fun h2 => ?_, fun h2 => ?_⟩
      · refine ⟨(by decide), ?_⟩
        refine ⟨(by
      obtain ⟨d1, d2⟩ := yH2 (i := i) (by omega)
      have gi := (z.gd hG).2 (Int.toNat i / 2) (by omega)
      first
        | omega
        | (rw [d1]; omega)
        | (rw [d1, Int.toNat_natCast]; exact gi.1)
        | (rw [d1, Int.toNat_natCast]; exact gi.2)), ?_⟩
        refine ⟨_, rfl, (by
      obtain ⟨d1, d2⟩ := yH2 (i := i) (by omega)
      have gi := (z.gd hG).2 (Int.toNat i / 2) (by omega)
      first
        | omega
        | (rw [d1]; omega)
        | (rw [d1, Int.toNat_natCast]; exact gi.1)
        | (rw [d1, Int.toNat_natCast]; exact gi.2)), (by
      obtain ⟨d1, d2⟩ := yH2 (i := i) (by omega)
      have gi := (z.gd hG).2 (Int.toNat i / 2) (by omega)
      first
        | omega
        | (rw [d1]; omega)
        | (rw [d1, Int.toNat_natCast]; exact gi.1)
        | (rw [d1, Int.toNat_natCast]; exact gi.2)), ?_⟩
        intro r4 p50
        refine ⟨(by
      obtain ⟨d1, d2⟩ := yH2 (i := i) (by omega)
      have gi := (z.gd hG).2 (Int.toNat i / 2) (by omega)
      first
        | omega
        | (rw [d1]; omega)
        | (rw [d1, Int.toNat_natCast]; exact gi.1)
        | (rw [d1, Int.toNat_natCast]; exact gi.2)), ?_⟩
        refine ⟨fun h6 => ?_, fun h6 => ?_⟩
        · obtain ⟨d1, d2⟩ := yH2 (i := i) (by omega)
          have gi := (z.gd hG).2 (Int.toNat i / 2) (by omega)
          have yi : yw (i + 1) = i + 1 := yw_s (i + 1) (by omega) (by omega)
          have ti : Int.toNat (i + 1) = Int.toNat i + 1 := by omega
          rw [d2] at h2
          have eA : Int.toNat (m 112 (Int.toNat i / 2)) = yAm g (Int.toNat i / 2) := z.am _
          have hV : r4 = yVi g (Int.toNat i) := by
            have e := p50
            rw [d1, Int.toNat_natCast, eA, z.ml] at e
            rw [e]
            unfold yVi
            rw [if_neg (by omega)]
          rw [yi]
          refine ih (i + 1) (by omega) (by omega) m _ _ _ hT f ?_
          rw [ti]
          exact hr.sk hk.1 (fun y => by rw [ek, ← hV] at y; omega)
        · refine ⟨_, rfl, (by
      obtain ⟨d1, d2⟩ := yH2 (i := i) (by omega)
      have gi := (z.gd hG).2 (Int.toNat i / 2) (by omega)
      first
        | omega
        | (rw [d1]; omega)
        | (rw [d1, Int.toNat_natCast]; exact gi.1)
        | (rw [d1, Int.toNat_natCast]; exact gi.2)), (by
      obtain ⟨d1, d2⟩ := yH2 (i := i) (by omega)
      have gi := (z.gd hG).2 (Int.toNat i / 2) (by omega)
      first
        | omega
        | (rw [d1]; omega)
        | (rw [d1, Int.toNat_natCast]; exact gi.1)
        | (rw [d1, Int.toNat_natCast]; exact gi.2)), ?_⟩
          intro r8 p90
          refine ⟨fun h10 => ?_, fun h10 => ?_⟩
          · refine ⟨(by
      obtain ⟨d1, d2⟩ := yH2 (i := i) (by omega)
      have gi := (z.gd hG).2 (Int.toNat i / 2) (by omega)
      first
        | omega
        | (rw [d1]; omega)
        | (rw [d1, Int.toNat_natCast]; exact gi.1)
        | (rw [d1, Int.toNat_natCast]; exact gi.2)), ?_⟩
            obtain ⟨d1, d2⟩ := yH2 (i := i) (by omega)
            have gi := (z.gd hG).2 (Int.toNat i / 2) (by omega)
            have yi : yw (i + 1) = i + 1 := yw_s (i + 1) (by omega) (by omega)
            have ti : Int.toNat (i + 1) = Int.toNat i + 1 := by omega
            rw [d2] at h2
            have eA : Int.toNat (m 112 (Int.toNat i / 2)) = yAm g (Int.toNat i / 2) := z.am _
            have hV : r4 = yVi g (Int.toNat i) := by
              have e := p50
              rw [d1, Int.toNat_natCast, eA, z.ml] at e
              rw [e]
              unfold yVi
              rw [if_neg (by omega)]
            have hR : g 110 (yAm g (Int.toNat k)) ≤ yVi g (Int.toNat i) ∧ yVi g (Int.toNat i) ≤ yMl g (yAm g (Int.toNat k)) := by
              rw [ek, ← hV]
              omega
            rw [hV]
            have vr : -2147483648 ≤ yVi g (Int.toNat i) ∧ yVi g (Int.toNat i) ≤ 2147483647 := by
              have r1 := hT.fA (j := Int.toNat c) (List.mem_of_getElem? (i := 62) rfl) (by omega)
              have r2 : -2147483648 ≤ yMl g (Int.toNat c) ∧ yMl g (Int.toNat c) ≤ 2147483647 := yw_rng _
              rw [ek] at hR
              omega
            have fp : yFk k g (yset m 113 (Int.toNat k) (yVi g (Int.toNat i))) := f.put hk.1.1
            have e37 : (yset m 113 (Int.toNat k) (yVi g (Int.toNat i))) 90 37 = m 90 37 := yset_nc (by decide)
            have hr1 := hr.1
            refine yj_CF4 hY (fp.z.gd hG) (by rw [fp.z.mn]; exact hk.1) (by rw [fp.z 112 _ (by decide) (by omega)]; exact hc) yset_eq hp.2 (fun n hn => ?_) (Int.toNat k) 0 (by omega) (by decide) p (by show p = p + 0; omega)
            have hn2 := yCw_nx fp.z (fun j hj => fp.lo hj) hk.1.1 hp.1 hn
            have nb := @yDw_nb (yFlc (yset m 113 (Int.toNat k) (yVi g (Int.toNat i)))) ((yset m 113 (Int.toNat k) (yVi g (Int.toNat i))) 113) (Int.toNat k) (Int.toNat k)
            refine yt_CF4 hY (hT.sA (List.mem_of_getElem? (i := 65) rfl) (by decide +kernel) vr) (fp.z.gd hG) (by rw [fp.z.mn]; exact hk) ⟨hn2, by omega, by omega⟩ (by rw [e37]; omega) (by omega) (fun g3 t1 t2 t3 => ?_)
            refine ih (i + 1) (by omega) (by omega) g3 _ _ _ t1 (fp.tr t2 (by omega)) ?_
            rw [ti]
            exact yFrs.tk hk.1 (by omega) f hr hR t3
          · obtain ⟨d1, d2⟩ := yH2 (i := i) (by omega)
            have gi := (z.gd hG).2 (Int.toNat i / 2) (by omega)
            have yi : yw (i + 1) = i + 1 := yw_s (i + 1) (by omega) (by omega)
            have ti : Int.toNat (i + 1) = Int.toNat i + 1 := by omega
            rw [d2] at h2
            have eA : Int.toNat (m 112 (Int.toNat i / 2)) = yAm g (Int.toNat i / 2) := z.am _
            have hV : r4 = yVi g (Int.toNat i) := by
              have e := p50
              rw [d1, Int.toNat_natCast, eA, z.ml] at e
              rw [e]
              unfold yVi
              rw [if_neg (by omega)]
            rw [yi]
            refine ih (i + 1) (by omega) (by omega) m _ _ _ hT f ?_
            rw [ti]
            exact hr.sk hk.1 (fun y => by rw [ek, ← hV] at y; omega)
      · refine ⟨(by decide), ?_⟩
        refine ⟨(by
      obtain ⟨d1, d2⟩ := yH2 (i := i) (by omega)
      have gi := (z.gd hG).2 (Int.toNat i / 2) (by omega)
      first
        | omega
        | (rw [d1]; omega)
        | (rw [d1, Int.toNat_natCast]; exact gi.1)
        | (rw [d1, Int.toNat_natCast]; exact gi.2)), ?_⟩
        refine ⟨(by
      obtain ⟨d1, d2⟩ := yH2 (i := i) (by omega)
      have gi := (z.gd hG).2 (Int.toNat i / 2) (by omega)
      first
        | omega
        | (rw [d1]; omega)
        | (rw [d1, Int.toNat_natCast]; exact gi.1)
        | (rw [d1, Int.toNat_natCast]; exact gi.2)), ?_⟩
        refine ⟨(by
      obtain ⟨d1, d2⟩ := yH2 (i := i) (by omega)
      have gi := (z.gd hG).2 (Int.toNat i / 2) (by omega)
      first
        | omega
        | (rw [d1]; omega)
        | (rw [d1, Int.toNat_natCast]; exact gi.1)
        | (rw [d1, Int.toNat_natCast]; exact gi.2)), ?_⟩
        refine ⟨fun h11 => ?_, fun h11 => ?_⟩
        · obtain ⟨d1, d2⟩ := yH2 (i := i) (by omega)
          have gi := (z.gd hG).2 (Int.toNat i / 2) (by omega)
          have yi : yw (i + 1) = i + 1 := yw_s (i + 1) (by omega) (by omega)
          have ti : Int.toNat (i + 1) = Int.toNat i + 1 := by omega
          rw [d2] at h2
          have eA : Int.toNat (m 112 (Int.toNat i / 2)) = yAm g (Int.toNat i / 2) := z.am _
          have hV : (m 110 (Int.toNat (m 112 (Int.toNat (yb (fun x y => x / y) i 2))))) = yVi g (Int.toNat i) := by
            rw [d1, Int.toNat_natCast, eA, z.ea]
            unfold yVi
            rw [if_pos (by omega)]
          rw [yi]
          refine ih (i + 1) (by omega) (by omega) m _ _ _ hT f ?_
          rw [ti]
          exact hr.sk hk.1 (fun y => by rw [ek, ← hV] at y; omega)
        · refine ⟨_, rfl, (by
      obtain ⟨d1, d2⟩ := yH2 (i := i) (by omega)
      have gi := (z.gd hG).2 (Int.toNat i / 2) (by omega)
      first
        | omega
        | (rw [d1]; omega)
        | (rw [d1, Int.toNat_natCast]; exact gi.1)
        | (rw [d1, Int.toNat_natCast]; exact gi.2)), (by
      obtain ⟨d1, d2⟩ := yH2 (i := i) (by omega)
      have gi := (z.gd hG).2 (Int.toNat i / 2) (by omega)
      first
        | omega
        | (rw [d1]; omega)
        | (rw [d1, Int.toNat_natCast]; exact gi.1)
        | (rw [d1, Int.toNat_natCast]; exact gi.2)), ?_⟩
          intro r13 p140
          refine ⟨fun h15 => ?_, fun h15 => ?_⟩
          · refine ⟨(by
      obtain ⟨d1, d2⟩ := yH2 (i := i) (by omega)
      have gi := (z.gd hG).2 (Int.toNat i / 2) (by omega)
      first
        | omega
        | (rw [d1]; omega)
        | (rw [d1, Int.toNat_natCast]; exact gi.1)
        | (rw [d1, Int.toNat_natCast]; exact gi.2)), ?_⟩
            obtain ⟨d1, d2⟩ := yH2 (i := i) (by omega)
            have gi := (z.gd hG).2 (Int.toNat i / 2) (by omega)
            have yi : yw (i + 1) = i + 1 := yw_s (i + 1) (by omega) (by omega)
            have ti : Int.toNat (i + 1) = Int.toNat i + 1 := by omega
            rw [d2] at h2
            have eA : Int.toNat (m 112 (Int.toNat i / 2)) = yAm g (Int.toNat i / 2) := z.am _
            have hV : (m 110 (Int.toNat (m 112 (Int.toNat (yb (fun x y => x / y) i 2))))) = yVi g (Int.toNat i) := by
              rw [d1, Int.toNat_natCast, eA, z.ea]
              unfold yVi
              rw [if_pos (by omega)]
            have hR : g 110 (yAm g (Int.toNat k)) ≤ yVi g (Int.toNat i) ∧ yVi g (Int.toNat i) ≤ yMl g (yAm g (Int.toNat k)) := by
              rw [ek, ← hV]
              omega
            rw [hV]
            have vr : -2147483648 ≤ yVi g (Int.toNat i) ∧ yVi g (Int.toNat i) ≤ 2147483647 := by
              have r1 := hT.fA (j := Int.toNat c) (List.mem_of_getElem? (i := 62) rfl) (by omega)
              have r2 : -2147483648 ≤ yMl g (Int.toNat c) ∧ yMl g (Int.toNat c) ≤ 2147483647 := yw_rng _
              rw [ek] at hR
              omega
            have fp : yFk k g (yset m 113 (Int.toNat k) (yVi g (Int.toNat i))) := f.put hk.1.1
            have e37 : (yset m 113 (Int.toNat k) (yVi g (Int.toNat i))) 90 37 = m 90 37 := yset_nc (by decide)
            have hr1 := hr.1
            refine yj_CF4 hY (fp.z.gd hG) (by rw [fp.z.mn]; exact hk.1) (by rw [fp.z 112 _ (by decide) (by omega)]; exact hc) yset_eq hp.2 (fun n hn => ?_) (Int.toNat k) 0 (by omega) (by decide) p (by show p = p + 0; omega)
            have hn2 := yCw_nx fp.z (fun j hj => fp.lo hj) hk.1.1 hp.1 hn
            have nb := @yDw_nb (yFlc (yset m 113 (Int.toNat k) (yVi g (Int.toNat i)))) ((yset m 113 (Int.toNat k) (yVi g (Int.toNat i))) 113) (Int.toNat k) (Int.toNat k)
            refine yt_CF4 hY (hT.sA (List.mem_of_getElem? (i := 65) rfl) (by decide +kernel) vr) (fp.z.gd hG) (by rw [fp.z.mn]; exact hk) ⟨hn2, by omega, by omega⟩ (by rw [e37]; omega) (by omega) (fun g3 t1 t2 t3 => ?_)
            refine ih (i + 1) (by omega) (by omega) g3 _ _ _ t1 (fp.tr t2 (by omega)) ?_
            rw [ti]
            exact yFrs.tk hk.1 (by omega) f hr hR t3
          · obtain ⟨d1, d2⟩ := yH2 (i := i) (by omega)
            have gi := (z.gd hG).2 (Int.toNat i / 2) (by omega)
            have yi : yw (i + 1) = i + 1 := yw_s (i + 1) (by omega) (by omega)
            have ti : Int.toNat (i + 1) = Int.toNat i + 1 := by omega
            rw [d2] at h2
            have eA : Int.toNat (m 112 (Int.toNat i / 2)) = yAm g (Int.toNat i / 2) := z.am _
            have hV : (m 110 (Int.toNat (m 112 (Int.toNat (yb (fun x y => x / y) i 2))))) = yVi g (Int.toNat i) := by
              rw [d1, Int.toNat_natCast, eA, z.ea]
              unfold yVi
              rw [if_pos (by omega)]
            rw [yi]
            refine ih (i + 1) (by omega) (by omega) m _ _ _ hT f ?_
            rw [ti]
            exact hr.sk hk.1 (fun y => by rw [ek, ← hV] at y; omega)
set_option maxRecDepth 8000 in
theorem yv_CF4 {K : List yV → yM → Prop} {Y : yNx} {g : yM} {k p : Int} (hY : yCl zpD146 (zpZ, zpRS, zpP12, zpMT, [yC_LTO, yC_ILT, yC_CF3], (6, 170), 0) K Y) (hr_k : -2147483648 ≤ k ∧ k ≤ 2147483647) (hr_p : -2147483648 ≤ p ∧ p ≤ 2147483647) (hp0 : yTy zpZ g) (hp1 : yFgd g) (hp2 : (0 ≤ k ∧ k ≤ g 90 36) ∧ g 90 36 - k ≤ 4) (hp3 : p = yCw (yFlc g) (g 113) (yDnL (Int.toNat k)) ∧ 0 ≤ p ∧ p ≤ 12 * k) (hp4 : 0 ≤ g 90 37 ∧ g 90 37 ≤ 99) (hK : ∀ (g' : yM), (yTy zpZ g') → (yFk k g g') → (yFrs g g' (yCo g k)) → K [] g') : Y 0 [(3, 90), (1, k), (1, p), (0, 0), (0, 0), (0, 0), (0, 0), (0, 0)] [] g := by
  have h36 := hp1.1
  refine yrun_ok (sp := fun pc => Nat.beq pc 33) hY 16 0 _ [] g ?_
  show ((p < (g 90 37) → ((k ≠ (g 90 36) → (((0 : Int) ≤ k ∧ k < ((6 : Nat) : Int)) ∧ (Y 33 [(3, 90), (1, k), (1, p), (1, (g 112 (Int.toNat k))), (1, 0), (0, 0), (0, 0), (0, 0)] [] g))) ∧ (¬ (k ≠ (g 90 36)) → (K [] (yset g 90 37 p))))) ∧ (¬ (p < (g 90 37)) → (K [] g)))
  refine ⟨fun h1 => ?_, fun h1 => ?_⟩
  · refine ⟨fun h2 => ?_, fun h2 => ?_⟩
    · refine ⟨(by omega), ?_⟩
      exact yl_CF4 hY hp1 ⟨⟨hp2.1.1, by omega⟩, hp2.2⟩ rfl hp3 hp4 hK (Int.toNat (2 * g 90 36)) 0 (by omega) (by decide) g _ _ _ hp0 yFk.rf (yFrs.z hp4.1)
    · exact hK _ (hp0.sO (List.mem_of_getElem? (i := 42) rfl) rfl (by decide +kernel) ⟨by omega, by omega⟩) (fun a b c1 c2 => yset_ne (by omega)) (yFrs.on (by omega) hp2.1.1 hp3.1 hp3.2.1 (by omega))
  · exact hK g hp0 yFk.rf (yFrs.no hp2.1 hp3.1 hp4.1 (by omega))
theorem yM_CF4 {l : Launch} {Ts : List Cond} {cl : List vw_C} {RO : zRO} (H : zHyp Ts cl RO) : yMet l Ts cl zpZ RO zpMT yC_CF4 := ymet_of2 H.1 H.2.1 zpDj H.2.2.1 yRb H.p12 (ymets_cons (yM_LTO H) (ymets_cons (yM_ILT H) (ymets_cons (yM_CF3 H) ymets_nil))) (zrc0 rfl) (plainFor_of_name zpy12) zpDk146 (fun as g K Y h hA hY => by
  obtain ⟨k, p, rfl, hp0, hp1, hp2, hp3, hp4, hK⟩ := h
  exact yv_CF4 hY (yAr1 hA (by simp)) (yAr1 hA (by simp)) hp0 hp1 hp2 hp3 hp4 hK)
def yP_CF5 : yPT := fun as g K => ∃ (k p : Int), as = [(3, 90), (1, k), (1, p)] ∧ (yTy zpZ g) ∧ (yFgd g) ∧ ((0 ≤ k ∧ k ≤ g 90 36) ∧ g 90 36 - k ≤ 5) ∧ (p = yCw (yFlc g) (g 113) (yDnL (Int.toNat k)) ∧ 0 ≤ p ∧ p ≤ 12 * k) ∧ (0 ≤ g 90 37 ∧ g 90 37 ≤ 99) ∧ (∀ (g' : yM), (yTy zpZ g') → (yFk k g g') → (yFrs g g' (yCo g k)) → K [] g')
def yC_CF5 : yC := (146, (7, 197), yP_CF5)
set_option maxRecDepth 8000 in
theorem yt_CF5 {K : List yV → yM → Prop} {Y : yNx} {g : yM} {k p c i v n j : Int} (hY : yCl zpD146 (zpZ, zpRS, zpP12, zpMT, [yC_LTO, yC_ILT, yC_CF4], (7, 197), 0) K Y) (hT : yTy zpZ g) (hG : yFgd g) (hk : (0 ≤ k ∧ k < g 90 36) ∧ g 90 36 - k ≤ 5) (hn : n = yCw (yFlc g) (g 113) (yDnL (Int.toNat (k + 1))) ∧ 0 ≤ n ∧ n ≤ 12 * (k + 1)) (hF : 0 ≤ g 90 37 ∧ g 90 37 ≤ 99) (hi : 0 ≤ i ∧ i < 12) (hE : ∀ g3 : yM, yTy zpZ g3 → yFk (k + 1) g g3 → yFrs g g3 (yCo g (k + 1)) → Y 33 [(3, 90), (1, k), (1, p), (1, c), (1, i + 1), (1, v), (1, n), (1, j)] [] g3) : Y 197 [(3, 90), (1, k), (1, p), (1, c), (1, i), (1, v), (1, n), (1, j)] [] g := by
  have h36 := hG.1
  have yk : yw (k + 1) = k + 1 := yw_s (k + 1) (by omega) (by omega)
  have yi : yw (i + 1) = i + 1 := yw_s (i + 1) (by omega) (by omega)
  refine yrun_ok (sp := fun pc => Nat.beq pc 33) hY 9 197 _ [] g ?_
  show (∃ (k1 p2 : Int), [(3, 90), (1, (yw (k + 1))), (1, n)] = [(3, 90), (1, k1), (1, p2)] ∧ (yTy zpZ g) ∧ (yFgd g) ∧ ((0 ≤ k1 ∧ k1 ≤ g 90 36) ∧ g 90 36 - k1 ≤ 4) ∧ (p2 = yCw (yFlc g) (g 113) (yDnL (Int.toNat k1)) ∧ 0 ≤ p2 ∧ p2 ≤ 12 * k1) ∧ (0 ≤ g 90 37 ∧ g 90 37 ≤ 99) ∧ (∀ (g3 : yM), (yTy zpZ g3) → (yFk k1 g g3) → (yFrs g g3 (yCo g k1)) → (Y 33 [(3, 90), (1, k), (1, p), (1, c), (1, (yw (i + 1))), (1, v), (1, n), (1, j)] [] g3)))
  refine ⟨_, _, rfl, (hT), (hG), (by omega), (by rw [yk]; exact hn), (by omega), ?_⟩
  intro g3 p40 p41 p42
  rw [yk] at p41 p42
  rw [yi]
  exact hE _ p40 p41 p42
set_option maxRecDepth 8000 in
theorem yj_CF5 {K : List yV → yM → Prop} {Y : yNx} {g : yM} {k p c i v : Int} (hY : yCl zpD146 (zpZ, zpRS, zpP12, zpMT, [yC_LTO, yC_ILT, yC_CF4], (7, 197), 0) K Y) (hG : yFgd g) (hk : 0 ≤ k ∧ k < g 90 36) (hc : c = g 112 (Int.toNat k)) (hv : g 113 (Int.toNat k) = v) (hp : 0 ≤ p ∧ p ≤ 12 * k) (hE : ∀ n : Int, n = p + yDw (yFlc g) (g 113) (Int.toNat k) (yDnL (Int.toNat k)) → Y 197 [(3, 90), (1, k), (1, p), (1, c), (1, i), (1, v), (1, n), (1, k)] [] g) : ∀ (d : Nat) (j : Int), j + d = k → 0 ≤ j → ∀ n : Int, n = p + yDw (yFlc g) (g 113) (Int.toNat k) (yDnL (Int.toNat j)) → Y 121 [(3, 90), (1, k), (1, p), (1, c), (1, i), (1, v), (1, n), (1, j)] [] g := by
  have h36 := hG.1
  have gk := (hG.2 (Int.toNat k) (by omega)).1
  have ek : yAm g (Int.toNat k) = Int.toNat c := by rw [hc]; rfl
  intro d
  induction d with
  | zero =>
    intro j hd h0 n hn
    refine yrun_ok (sp := fun pc => Nat.beq pc 121 || Nat.beq pc 197) hY 39 121 _ [] g ?_
    show ((k ≤ j → (Y 197 [(3, 90), (1, k), (1, p), (1, c), (1, i), (1, v), (1, n), (1, j)] [] g)) ∧ (¬ (k ≤ j) → (((0 : Int) ≤ j ∧ j < ((6 : Nat) : Int)) ∧ (∃ (a2 b3 : Int), [(3, 90), (1, c), (1, (g 112 (Int.toNat j)))] = [(3, 90), (1, a2), (1, b3)] ∧ (0 ≤ a2 ∧ a2 < 40) ∧ (0 ≤ b3 ∧ b3 < 40) ∧ (∀ (r4 : Int), ((r4 = 1 ∧ yLa g (Int.toNat a2) (Int.toNat b3)) ∨ (r4 = 0 ∧ ¬ yLa g (Int.toNat a2) (Int.toNat b3))) → ((r4 = 0 → (((0 : Int) ≤ j ∧ j < ((6 : Nat) : Int)) ∧ (∃ (a7 b8 : Int), [(3, 90), (1, (g 112 (Int.toNat j))), (1, c)] = [(3, 90), (1, a7), (1, b8)] ∧ (0 ≤ a7 ∧ a7 < 40) ∧ (0 ≤ b8 ∧ b8 < 40) ∧ (∀ (r9 : Int), ((r9 = 1 ∧ yLa g (Int.toNat a7) (Int.toNat b8)) ∨ (r9 = 0 ∧ ¬ yLa g (Int.toNat a7) (Int.toNat b8))) → ((r9 = 0 → (Y 121 [(3, 90), (1, k), (1, p), (1, c), (1, i), (1, v), (1, (yw (n + 0))), (1, (yw (j + 1)))] [] g)) ∧ (¬ (r9 = 0) → (((0 : Int) ≤ j ∧ j < ((6 : Nat) : Int)) ∧ ((v ≤ (g 113 (Int.toNat j)) → (Y 121 [(3, 90), (1, k), (1, p), (1, c), (1, i), (1, v), (1, (yw (n + 0))), (1, (yw (j + 1)))] [] g)) ∧ (¬ (v ≤ (g 113 (Int.toNat j))) → (Y 121 [(3, 90), (1, k), (1, p), (1, c), (1, i), (1, v), (1, (yw (n + 1))), (1, (yw (j + 1)))] [] g)))))))))) ∧ (¬ (r4 = 0) → (((0 : Int) ≤ j ∧ j < ((6 : Nat) : Int)) ∧ ((v < (g 113 (Int.toNat j)) → (Y 121 [(3, 90), (1, k), (1, p), (1, c), (1, i), (1, v), (1, (yw (n + 1))), (1, (yw (j + 1)))] [] g)) ∧ (¬ (v < (g 113 (Int.toNat j))) → (((0 : Int) ≤ j ∧ j < ((6 : Nat) : Int)) ∧ (∃ (a14 b15 : Int), [(3, 90), (1, (g 112 (Int.toNat j))), (1, c)] = [(3, 90), (1, a14), (1, b15)] ∧ (0 ≤ a14 ∧ a14 < 40) ∧ (0 ≤ b15 ∧ b15 < 40) ∧ (∀ (r16 : Int), ((r16 = 1 ∧ yLa g (Int.toNat a14) (Int.toNat b15)) ∨ (r16 = 0 ∧ ¬ yLa g (Int.toNat a14) (Int.toNat b15))) → ((r16 = 0 → (Y 121 [(3, 90), (1, k), (1, p), (1, c), (1, i), (1, v), (1, (yw (n + 0))), (1, (yw (j + 1)))] [] g)) ∧ (¬ (r16 = 0) → (((0 : Int) ≤ j ∧ j < ((6 : Nat) : Int)) ∧ ((v ≤ (g 113 (Int.toNat j)) → (Y 121 [(3, 90), (1, k), (1, p), (1, c), (1, i), (1, v), (1, (yw (n + 0))), (1, (yw (j + 1)))] [] g)) ∧ (¬ (v ≤ (g 113 (Int.toNat j))) → (Y 121 [(3, 90), (1, k), (1, p), (1, c), (1, i), (1, v), (1, (yw (n + 1))), (1, (yw (j + 1)))] [] g)))))))))))))))))))
    refine ⟨fun h1 => ?_, fun h1 => ?_⟩
    · obtain rfl : j = k := by omega
      exact hE n hn
    · refine ⟨(by omega), ?_⟩
      refine ⟨_, _, rfl, (by omega), (by omega), ?_⟩
      intro r4 p50
      refine ⟨fun h6 => ?_, fun h6 => ?_⟩
      · refine ⟨(by omega), ?_⟩
        refine ⟨_, _, rfl, (by omega), (by omega), ?_⟩
        intro r9 p100
        refine ⟨fun h11 => ?_, fun h11 => ?_⟩
        · omega
        · refine ⟨(by omega), ?_⟩
          refine ⟨fun h12 => ?_, fun h12 => ?_⟩
          · omega
          · omega
      · refine ⟨(by omega), ?_⟩
        refine ⟨fun h13 => ?_, fun h13 => ?_⟩
        · omega
        · refine ⟨(by omega), ?_⟩
          refine ⟨_, _, rfl, (by omega), (by omega), ?_⟩
          intro r16 p170
          refine ⟨fun h18 => ?_, fun h18 => ?_⟩
          · omega
          · refine ⟨(by omega), ?_⟩
            refine ⟨fun h19 => ?_, fun h19 => ?_⟩
            · omega
            · omega
  | succ d ih =>
    intro j hd h0 n hn
    refine yrun_ok (sp := fun pc => Nat.beq pc 121 || Nat.beq pc 197) hY 39 121 _ [] g ?_
    show ((k ≤ j → (Y 197 [(3, 90), (1, k), (1, p), (1, c), (1, i), (1, v), (1, n), (1, j)] [] g)) ∧ (¬ (k ≤ j) → (((0 : Int) ≤ j ∧ j < ((6 : Nat) : Int)) ∧ (∃ (a2 b3 : Int), [(3, 90), (1, c), (1, (g 112 (Int.toNat j)))] = [(3, 90), (1, a2), (1, b3)] ∧ (0 ≤ a2 ∧ a2 < 40) ∧ (0 ≤ b3 ∧ b3 < 40) ∧ (∀ (r4 : Int), ((r4 = 1 ∧ yLa g (Int.toNat a2) (Int.toNat b3)) ∨ (r4 = 0 ∧ ¬ yLa g (Int.toNat a2) (Int.toNat b3))) → ((r4 = 0 → (((0 : Int) ≤ j ∧ j < ((6 : Nat) : Int)) ∧ (∃ (a7 b8 : Int), [(3, 90), (1, (g 112 (Int.toNat j))), (1, c)] = [(3, 90), (1, a7), (1, b8)] ∧ (0 ≤ a7 ∧ a7 < 40) ∧ (0 ≤ b8 ∧ b8 < 40) ∧ (∀ (r9 : Int), ((r9 = 1 ∧ yLa g (Int.toNat a7) (Int.toNat b8)) ∨ (r9 = 0 ∧ ¬ yLa g (Int.toNat a7) (Int.toNat b8))) → ((r9 = 0 → (Y 121 [(3, 90), (1, k), (1, p), (1, c), (1, i), (1, v), (1, (yw (n + 0))), (1, (yw (j + 1)))] [] g)) ∧ (¬ (r9 = 0) → (((0 : Int) ≤ j ∧ j < ((6 : Nat) : Int)) ∧ ((v ≤ (g 113 (Int.toNat j)) → (Y 121 [(3, 90), (1, k), (1, p), (1, c), (1, i), (1, v), (1, (yw (n + 0))), (1, (yw (j + 1)))] [] g)) ∧ (¬ (v ≤ (g 113 (Int.toNat j))) → (Y 121 [(3, 90), (1, k), (1, p), (1, c), (1, i), (1, v), (1, (yw (n + 1))), (1, (yw (j + 1)))] [] g)))))))))) ∧ (¬ (r4 = 0) → (((0 : Int) ≤ j ∧ j < ((6 : Nat) : Int)) ∧ ((v < (g 113 (Int.toNat j)) → (Y 121 [(3, 90), (1, k), (1, p), (1, c), (1, i), (1, v), (1, (yw (n + 1))), (1, (yw (j + 1)))] [] g)) ∧ (¬ (v < (g 113 (Int.toNat j))) → (((0 : Int) ≤ j ∧ j < ((6 : Nat) : Int)) ∧ (∃ (a14 b15 : Int), [(3, 90), (1, (g 112 (Int.toNat j))), (1, c)] = [(3, 90), (1, a14), (1, b15)] ∧ (0 ≤ a14 ∧ a14 < 40) ∧ (0 ≤ b15 ∧ b15 < 40) ∧ (∀ (r16 : Int), ((r16 = 1 ∧ yLa g (Int.toNat a14) (Int.toNat b15)) ∨ (r16 = 0 ∧ ¬ yLa g (Int.toNat a14) (Int.toNat b15))) → ((r16 = 0 → (Y 121 [(3, 90), (1, k), (1, p), (1, c), (1, i), (1, v), (1, (yw (n + 0))), (1, (yw (j + 1)))] [] g)) ∧ (¬ (r16 = 0) → (((0 : Int) ≤ j ∧ j < ((6 : Nat) : Int)) ∧ ((v ≤ (g 113 (Int.toNat j)) → (Y 121 [(3, 90), (1, k), (1, p), (1, c), (1, i), (1, v), (1, (yw (n + 0))), (1, (yw (j + 1)))] [] g)) ∧ (¬ (v ≤ (g 113 (Int.toNat j))) → (Y 121 [(3, 90), (1, k), (1, p), (1, c), (1, i), (1, v), (1, (yw (n + 1))), (1, (yw (j + 1)))] [] g)))))))))))))))))))
    refine ⟨fun h1 => ?_, fun h1 => ?_⟩
    · omega
    · refine ⟨(by have gj := (hG.2 (Int.toNat j) (by omega)).1; omega), ?_⟩
      refine ⟨_, _, rfl, (by have gj := (hG.2 (Int.toNat j) (by omega)).1; omega), (by have gj := (hG.2 (Int.toNat j) (by omega)).1; omega), ?_⟩
      intro r4 p50
      refine ⟨fun h6 => ?_, fun h6 => ?_⟩
      · refine ⟨(by have gj := (hG.2 (Int.toNat j) (by omega)).1; omega), ?_⟩
        refine ⟨_, _, rfl, (by have gj := (hG.2 (Int.toNat j) (by omega)).1; omega), (by have gj := (hG.2 (Int.toNat j) (by omega)).1; omega), ?_⟩
        intro r9 p100
        refine ⟨fun h11 => ?_, fun h11 => ?_⟩
        · have yj : yw (j + 1) = j + 1 := yw_s (j + 1) (by omega) (by omega)
          have nb := @yDw_nb (yFlc g) (g 113) (Int.toNat k) (Int.toNat j)
          have ej : yAm g (Int.toNat j) = Int.toNat (g 112 (Int.toNat j)) := rfl
          have hs : yDw (yFlc g) (g 113) (Int.toNat k) (yDnL (Int.toNat j + 1)) = 0 + yDw (yFlc g) (g 113) (Int.toNat k) (yDnL (Int.toNat j)) := by
            refine yDs ?_
            rw [ek, ej, hv]
            rcases p50 with ⟨q1, q2⟩ | ⟨q1, q2⟩
            · rcases p100 with ⟨q3, q4⟩ | ⟨q3, q4⟩
              · first
                  | omega
                  | exact Or.inl ⟨rfl, Or.inl ⟨q2, by omega⟩⟩
                  | exact Or.inl ⟨rfl, Or.inr ⟨q4, by omega⟩⟩
                  | exact Or.inr ⟨rfl, (fun y => by have y2 := y.2; omega), (fun y => by have y2 := y.2; omega)⟩
              · first
                  | omega
                  | exact Or.inl ⟨rfl, Or.inl ⟨q2, by omega⟩⟩
                  | exact Or.inr ⟨rfl, (fun y => by have y2 := y.2; omega), (fun y => q4 y.1)⟩
            · rcases p100 with ⟨q3, q4⟩ | ⟨q3, q4⟩
              · first
                  | omega
                  | exact Or.inl ⟨rfl, Or.inr ⟨q4, by omega⟩⟩
                  | exact Or.inr ⟨rfl, (fun y => q2 y.1), (fun y => by have y2 := y.2; omega)⟩
              · first
                  | omega
                  | exact Or.inr ⟨rfl, (fun y => q2 y.1), (fun y => q4 y.1)⟩
          rw [yj]
          refine ih (j + 1) (by omega) (by omega) _ ?_
          rw [show Int.toNat (j + 1) = Int.toNat j + 1 by omega, hs, yw_s (n + 0) (by omega) (by omega), hn]
          omega
        · refine ⟨(by have gj := (hG.2 (Int.toNat j) (by omega)).1; omega), ?_⟩
          refine ⟨fun h12 => ?_, fun h12 => ?_⟩
          · have yj : yw (j + 1) = j + 1 := yw_s (j + 1) (by omega) (by omega)
            have nb := @yDw_nb (yFlc g) (g 113) (Int.toNat k) (Int.toNat j)
            have ej : yAm g (Int.toNat j) = Int.toNat (g 112 (Int.toNat j)) := rfl
            have hs : yDw (yFlc g) (g 113) (Int.toNat k) (yDnL (Int.toNat j + 1)) = 0 + yDw (yFlc g) (g 113) (Int.toNat k) (yDnL (Int.toNat j)) := by
              refine yDs ?_
              rw [ek, ej, hv]
              rcases p50 with ⟨q1, q2⟩ | ⟨q1, q2⟩
              · rcases p100 with ⟨q3, q4⟩ | ⟨q3, q4⟩
                · first
                    | omega
                    | exact Or.inl ⟨rfl, Or.inl ⟨q2, by omega⟩⟩
                    | exact Or.inl ⟨rfl, Or.inr ⟨q4, by omega⟩⟩
                    | exact Or.inr ⟨rfl, (fun y => by have y2 := y.2; omega), (fun y => by have y2 := y.2; omega)⟩
                · first
                    | omega
                    | exact Or.inl ⟨rfl, Or.inl ⟨q2, by omega⟩⟩
                    | exact Or.inr ⟨rfl, (fun y => by have y2 := y.2; omega), (fun y => q4 y.1)⟩
              · rcases p100 with ⟨q3, q4⟩ | ⟨q3, q4⟩
                · first
                    | omega
                    | exact Or.inl ⟨rfl, Or.inr ⟨q4, by omega⟩⟩
                    | exact Or.inr ⟨rfl, (fun y => q2 y.1), (fun y => by have y2 := y.2; omega)⟩
                · first
                    | omega
                    | exact Or.inr ⟨rfl, (fun y => q2 y.1), (fun y => q4 y.1)⟩
            rw [yj]
            refine ih (j + 1) (by omega) (by omega) _ ?_
            rw [show Int.toNat (j + 1) = Int.toNat j + 1 by omega, hs, yw_s (n + 0) (by omega) (by omega), hn]
            omega
          · have yj : yw (j + 1) = j + 1 := yw_s (j + 1) (by omega) (by omega)
            have nb := @yDw_nb (yFlc g) (g 113) (Int.toNat k) (Int.toNat j)
            have ej : yAm g (Int.toNat j) = Int.toNat (g 112 (Int.toNat j)) := rfl
            have hs : yDw (yFlc g) (g 113) (Int.toNat k) (yDnL (Int.toNat j + 1)) = 1 + yDw (yFlc g) (g 113) (Int.toNat k) (yDnL (Int.toNat j)) := by
              refine yDs ?_
              rw [ek, ej, hv]
              rcases p50 with ⟨q1, q2⟩ | ⟨q1, q2⟩
              · rcases p100 with ⟨q3, q4⟩ | ⟨q3, q4⟩
                · first
                    | omega
                    | exact Or.inl ⟨rfl, Or.inl ⟨q2, by omega⟩⟩
                    | exact Or.inl ⟨rfl, Or.inr ⟨q4, by omega⟩⟩
                    | exact Or.inr ⟨rfl, (fun y => by have y2 := y.2; omega), (fun y => by have y2 := y.2; omega)⟩
                · first
                    | omega
                    | exact Or.inl ⟨rfl, Or.inl ⟨q2, by omega⟩⟩
                    | exact Or.inr ⟨rfl, (fun y => by have y2 := y.2; omega), (fun y => q4 y.1)⟩
              · rcases p100 with ⟨q3, q4⟩ | ⟨q3, q4⟩
                · first
                    | omega
                    | exact Or.inl ⟨rfl, Or.inr ⟨q4, by omega⟩⟩
                    | exact Or.inr ⟨rfl, (fun y => q2 y.1), (fun y => by have y2 := y.2; omega)⟩
                · first
                    | omega
                    | exact Or.inr ⟨rfl, (fun y => q2 y.1), (fun y => q4 y.1)⟩
            rw [yj]
            refine ih (j + 1) (by omega) (by omega) _ ?_
            rw [show Int.toNat (j + 1) = Int.toNat j + 1 by omega, hs, yw_s (n + 1) (by omega) (by omega), hn]
            omega
      · refine ⟨(by have gj := (hG.2 (Int.toNat j) (by omega)).1; omega), ?_⟩
        refine ⟨fun h13 => ?_, fun h13 => ?_⟩
        · have yj : yw (j + 1) = j + 1 := yw_s (j + 1) (by omega) (by omega)
          have nb := @yDw_nb (yFlc g) (g 113) (Int.toNat k) (Int.toNat j)
          have ej : yAm g (Int.toNat j) = Int.toNat (g 112 (Int.toNat j)) := rfl
          have hs : yDw (yFlc g) (g 113) (Int.toNat k) (yDnL (Int.toNat j + 1)) = 1 + yDw (yFlc g) (g 113) (Int.toNat k) (yDnL (Int.toNat j)) := by
            refine yDs ?_
            rw [ek, ej, hv]
            rcases p50 with ⟨q1, q2⟩ | ⟨q1, q2⟩
            · first
                | omega
                | exact Or.inl ⟨rfl, Or.inl ⟨q2, by omega⟩⟩
                | exact Or.inr ⟨rfl, (fun y => by have y2 := y.2; omega), (fun y => by have y2 := y.2; omega)⟩
            · first
                | omega
                | exact Or.inr ⟨rfl, (fun y => q2 y.1), (fun y => by have y2 := y.2; omega)⟩
          rw [yj]
          refine ih (j + 1) (by omega) (by omega) _ ?_
          rw [show Int.toNat (j + 1) = Int.toNat j + 1 by omega, hs, yw_s (n + 1) (by omega) (by omega), hn]
          omega
        · refine ⟨(by have gj := (hG.2 (Int.toNat j) (by omega)).1; omega), ?_⟩
          refine ⟨_, _, rfl, (by have gj := (hG.2 (Int.toNat j) (by omega)).1; omega), (by have gj := (hG.2 (Int.toNat j) (by omega)).1; omega), ?_⟩
          intro r16 p170
          refine ⟨fun h18 => ?_, fun h18 => ?_⟩
          · have yj : yw (j + 1) = j + 1 := yw_s (j + 1) (by omega) (by omega)
            have nb := @yDw_nb (yFlc g) (g 113) (Int.toNat k) (Int.toNat j)
            have ej : yAm g (Int.toNat j) = Int.toNat (g 112 (Int.toNat j)) := rfl
            have hs : yDw (yFlc g) (g 113) (Int.toNat k) (yDnL (Int.toNat j + 1)) = 0 + yDw (yFlc g) (g 113) (Int.toNat k) (yDnL (Int.toNat j)) := by
              refine yDs ?_
              rw [ek, ej, hv]
              rcases p50 with ⟨q1, q2⟩ | ⟨q1, q2⟩
              · rcases p170 with ⟨q3, q4⟩ | ⟨q3, q4⟩
                · first
                    | omega
                    | exact Or.inl ⟨rfl, Or.inl ⟨q2, by omega⟩⟩
                    | exact Or.inl ⟨rfl, Or.inr ⟨q4, by omega⟩⟩
                    | exact Or.inr ⟨rfl, (fun y => by have y2 := y.2; omega), (fun y => by have y2 := y.2; omega)⟩
                · first
                    | omega
                    | exact Or.inl ⟨rfl, Or.inl ⟨q2, by omega⟩⟩
                    | exact Or.inr ⟨rfl, (fun y => by have y2 := y.2; omega), (fun y => q4 y.1)⟩
              · rcases p170 with ⟨q3, q4⟩ | ⟨q3, q4⟩
                · first
                    | omega
                    | exact Or.inl ⟨rfl, Or.inr ⟨q4, by omega⟩⟩
                    | exact Or.inr ⟨rfl, (fun y => q2 y.1), (fun y => by have y2 := y.2; omega)⟩
                · first
                    | omega
                    | exact Or.inr ⟨rfl, (fun y => q2 y.1), (fun y => q4 y.1)⟩
            rw [yj]
            refine ih (j + 1) (by omega) (by omega) _ ?_
            rw [show Int.toNat (j + 1) = Int.toNat j + 1 by omega, hs, yw_s (n + 0) (by omega) (by omega), hn]
            omega
          · refine ⟨(by have gj := (hG.2 (Int.toNat j) (by omega)).1; omega), ?_⟩
            refine ⟨fun h19 => ?_, fun h19 => ?_⟩
            · have yj : yw (j + 1) = j + 1 := yw_s (j + 1) (by omega) (by omega)
              have nb := @yDw_nb (yFlc g) (g 113) (Int.toNat k) (Int.toNat j)
              have ej : yAm g (Int.toNat j) = Int.toNat (g 112 (Int.toNat j)) := rfl
              have hs : yDw (yFlc g) (g 113) (Int.toNat k) (yDnL (Int.toNat j + 1)) = 0 + yDw (yFlc g) (g 113) (Int.toNat k) (yDnL (Int.toNat j)) := by
                refine yDs ?_
                rw [ek, ej, hv]
                rcases p50 with ⟨q1, q2⟩ | ⟨q1, q2⟩
                · rcases p170 with ⟨q3, q4⟩ | ⟨q3, q4⟩
                  · first
                      | omega
                      | exact Or.inl ⟨rfl, Or.inl ⟨q2, by omega⟩⟩
                      | exact Or.inl ⟨rfl, Or.inr ⟨q4, by omega⟩⟩
                      | exact Or.inr ⟨rfl, (fun y => by have y2 := y.2; omega), (fun y => by have y2 := y.2; omega)⟩
                  · first
                      | omega
                      | exact Or.inl ⟨rfl, Or.inl ⟨q2, by omega⟩⟩
                      | exact Or.inr ⟨rfl, (fun y => by have y2 := y.2; omega), (fun y => q4 y.1)⟩
                · rcases p170 with ⟨q3, q4⟩ | ⟨q3, q4⟩
                  · first
                      | omega
                      | exact Or.inl ⟨rfl, Or.inr ⟨q4, by omega⟩⟩
                      | exact Or.inr ⟨rfl, (fun y => q2 y.1), (fun y => by have y2 := y.2; omega)⟩
                  · first
                      | omega
                      | exact Or.inr ⟨rfl, (fun y => q2 y.1), (fun y => q4 y.1)⟩
              rw [yj]
              refine ih (j + 1) (by omega) (by omega) _ ?_
              rw [show Int.toNat (j + 1) = Int.toNat j + 1 by omega, hs, yw_s (n + 0) (by omega) (by omega), hn]
              omega
            · have yj : yw (j + 1) = j + 1 := yw_s (j + 1) (by omega) (by omega)
              have nb := @yDw_nb (yFlc g) (g 113) (Int.toNat k) (Int.toNat j)
              have ej : yAm g (Int.toNat j) = Int.toNat (g 112 (Int.toNat j)) := rfl
              have hs : yDw (yFlc g) (g 113) (Int.toNat k) (yDnL (Int.toNat j + 1)) = 1 + yDw (yFlc g) (g 113) (Int.toNat k) (yDnL (Int.toNat j)) := by
                refine yDs ?_
                rw [ek, ej, hv]
                rcases p50 with ⟨q1, q2⟩ | ⟨q1, q2⟩
                · rcases p170 with ⟨q3, q4⟩ | ⟨q3, q4⟩
                  · first
                      | omega
                      | exact Or.inl ⟨rfl, Or.inl ⟨q2, by omega⟩⟩
                      | exact Or.inl ⟨rfl, Or.inr ⟨q4, by omega⟩⟩
                      | exact Or.inr ⟨rfl, (fun y => by have y2 := y.2; omega), (fun y => by have y2 := y.2; omega)⟩
                  · first
                      | omega
                      | exact Or.inl ⟨rfl, Or.inl ⟨q2, by omega⟩⟩
                      | exact Or.inr ⟨rfl, (fun y => by have y2 := y.2; omega), (fun y => q4 y.1)⟩
                · rcases p170 with ⟨q3, q4⟩ | ⟨q3, q4⟩
                  · first
                      | omega
                      | exact Or.inl ⟨rfl, Or.inr ⟨q4, by omega⟩⟩
                      | exact Or.inr ⟨rfl, (fun y => q2 y.1), (fun y => by have y2 := y.2; omega)⟩
                  · first
                      | omega
                      | exact Or.inr ⟨rfl, (fun y => q2 y.1), (fun y => q4 y.1)⟩
              rw [yj]
              refine ih (j + 1) (by omega) (by omega) _ ?_
              rw [show Int.toNat (j + 1) = Int.toNat j + 1 by omega, hs, yw_s (n + 1) (by omega) (by omega), hn]
              omega
set_option maxRecDepth 8000 in
theorem yl_CF5 {K : List yV → yM → Prop} {Y : yNx} {g : yM} {k p c : Int} (hY : yCl zpD146 (zpZ, zpRS, zpP12, zpMT, [yC_LTO, yC_ILT, yC_CF4], (7, 197), 0) K Y) (hG : yFgd g) (hk : (0 ≤ k ∧ k < g 90 36) ∧ g 90 36 - k ≤ 5) (hc : c = g 112 (Int.toNat k)) (hp : p = yCw (yFlc g) (g 113) (yDnL (Int.toNat k)) ∧ 0 ≤ p ∧ p ≤ 12 * k) (hF : 0 ≤ g 90 37 ∧ g 90 37 ≤ 99) (hK : ∀ g' : yM, yTy zpZ g' → yFk k g g' → yFrs g g' (yCo g k) → K [] g') : ∀ (d : Nat) (i : Int), i + d = 2 * g 90 36 → 0 ≤ i → ∀ (m : yM) (y5 y6 y7 : yV), yTy zpZ m → yFk k g m → yFrs g m (yPi g k (Int.toNat i)) → Y 33 [(3, 90), (1, k), (1, p), (1, c), (1, i), y5, y6, y7] [] m := by
  have h36 := hG.1
  have gk := hG.2 (Int.toNat k) (by omega)
  have ek : yAm g (Int.toNat k) = Int.toNat c := by rw [hc]; rfl
  rw [ek] at gk
  intro d
  induction d with
  | zero =>
    intro i hd h0 m y5 y6 y7 hT f hr
    have z := f.z
    have e36 := z.mn
    have e2w : yw (2 * m 90 36) = 2 * m 90 36 := yw_s (2 * m 90 36) (by omega) (by omega)
    have e104 : m 104 (Int.toNat c) = g 104 (Int.toNat c) := z 104 _ (by decide) (by omega)
    have eEk : m 110 (Int.toNat c) = g 110 (Int.toNat c) := z.ea _
    have eLk : yMl m (Int.toNat c) = yMl g (Int.toNat c) := z.ml _
    refine yrun_ok (sp := fun pc => Nat.beq pc 33 || Nat.beq pc 121) hY 42 33 _ [] m ?_
    show (((yw (2 * (m 90 36))) ≤ i → (K [] m)) ∧ (¬ ((yw (2 * (m 90 36))) ≤ i) → ((2 : Int) ≠ 0 ∧ (((yb (fun x y => x - x / y * y) i 2) ≠ 0 → ((2 : Int) ≠ 0 ∧ (((0 : Int) ≤ (yb (fun x y => x / y) i 2) ∧ (yb (fun x y => x / y) i 2) < ((6 : Nat) : Int)) ∧ (∃ (w3 : Int), [(3, 90), (1, (m 112 (Int.toNat (yb (fun x y => x / y) i 2))))] = [(3, 90), (1, w3)] ∧ (0 ≤ w3 ∧ w3 < 40) ∧ (0 ≤ m 104 (Int.toNat w3) ∧ m 104 (Int.toNat w3) ≤ 5) ∧ (∀ (r4 : Int), (r4 = yMl m (Int.toNat w3)) → (((0 : Int) ≤ c ∧ c < ((40 : Nat) : Int)) ∧ ((r4 < (m 110 (Int.toNat c)) → (Y 33 [(3, 90), (1, k), (1, p), (1, c), (1, (yw (i + 1))), (1, r4), y6, y7] [] m)) ∧ (¬ (r4 < (m 110 (Int.toNat c))) → (∃ (w7 : Int), [(3, 90), (1, c)] = [(3, 90), (1, w7)] ∧ (0 ≤ w7 ∧ w7 < 40) ∧ (0 ≤ m 104 (Int.toNat w7) ∧ m 104 (Int.toNat w7) ≤ 5) ∧ (∀ (r8 : Int), (r8 = yMl m (Int.toNat w7)) → ((r4 ≤ r8 → (((0 : Int) ≤ k ∧ k < ((6 : Nat) : Int)) ∧ (Y 121 [(3, 90), (1, k), (1, p), (1, c), (1, i), (1, r4), (1, p), (1, 0)] [] (yset m 113 (Int.toNat k) r4)))) ∧ (¬ (r4 ≤ r8) → (Y 33 [(3, 90), (1, k), (1, p), (1, c), (1, (yw (i + 1))), (1, r4), y6, y7] [] m))))))))))))) ∧ (¬ ((yb (fun x y => x - x / y * y) i 2) ≠ 0) → ((2 : Int) ≠ 0 ∧ (((0 : Int) ≤ (yb (fun x y => x / y) i 2) ∧ (yb (fun x y => x / y) i 2) < ((6 : Nat) : Int)) ∧ (((0 : Int) ≤ (m 112 (Int.toNat (yb (fun x y => x / y) i 2))) ∧ (m 112 (Int.toNat (yb (fun x y => x / y) i 2))) < ((40 : Nat) : Int)) ∧ (((0 : Int) ≤ c ∧ c < ((40 : Nat) : Int)) ∧ (((m 110 (Int.toNat (m 112 (Int.toNat (yb (fun x y => x / y) i 2))))) < (m 110 (Int.toNat c)) → (Y 33 [(3, 90), (1, k), (1, p), (1, c), (1, (yw (i + 1))), (1, (m 110 (Int.toNat (m 112 (Int.toNat (yb (fun x y => x / y) i 2)))))), y6, y7] [] m)) ∧ (¬ ((m 110 (Int.toNat (m 112 (Int.toNat (yb (fun x y => x / y) i 2))))) < (m 110 (Int.toNat c))) → (∃ (w12 : Int), [(3, 90), (1, c)] = [(3, 90), (1, w12)] ∧ (0 ≤ w12 ∧ w12 < 40) ∧ (0 ≤ m 104 (Int.toNat w12) ∧ m 104 (Int.toNat w12) ≤ 5) ∧ (∀ (r13 : Int), (r13 = yMl m (Int.toNat w12)) → (((m 110 (Int.toNat (m 112 (Int.toNat (yb (fun x y => x / y) i 2))))) ≤ r13 → (((0 : Int) ≤ k ∧ k < ((6 : Nat) : Int)) ∧ (Y 121 [(3, 90), (1, k), (1, p), (1, c), (1, i), (1, (m 110 (Int.toNat (m 112 (Int.toNat (yb (fun x y => x / y) i 2)))))), (1, p), (1, 0)] [] (yset m 113 (Int.toNat k) (m 110 (Int.toNat (m 112 (Int.toNat (yb (fun x y => x / y) i 2))))))))) ∧ (¬ ((m 110 (Int.toNat (m 112 (Int.toNat (yb (fun x y => x / y) i 2))))) ≤ r13) → (Y 33 [(3, 90), (1, k), (1, p), (1, c), (1, (yw (i + 1))), (1, (m 110 (Int.toNat (m 112 (Int.toNat (yb (fun x y => x / y) i 2)))))), y6, y7] [] m))))))))))))))))
    refine ⟨fun h1 => ?_, fun h1 => ?_⟩
    · obtain rfl : i = 2 * g 90 36 := by omega
      exact hK m hT f (hr.al hk.1)
    · refine ⟨(by omega), ?_⟩
      refine ⟨fun h2 => ?_, fun h2 => ?_⟩
      · refine ⟨(by omega), ?_⟩
        refine ⟨(by omega), ?_⟩
        refine ⟨_, rfl, (by omega), (by omega), ?_⟩
        intro r4 p50
        refine ⟨(by omega), ?_⟩
        refine ⟨fun h6 => ?_, fun h6 => ?_⟩
        · omega
        · refine ⟨_, rfl, (by omega), (by omega), ?_⟩
          intro r8 p90
          refine ⟨fun h10 => ?_, fun h10 => ?_⟩
          · refine ⟨(by omega), ?_⟩
            omega
          · omega
      · refine ⟨(by omega), ?_⟩
        refine ⟨(by omega), ?_⟩
        refine ⟨(by omega), ?_⟩
        refine ⟨(by omega), ?_⟩
        refine ⟨fun h11 => ?_, fun h11 => ?_⟩
        · omega
        · refine ⟨_, rfl, (by omega), (by omega), ?_⟩
          intro r13 p140
          refine ⟨fun h15 => ?_, fun h15 => ?_⟩
          · refine ⟨(by omega), ?_⟩
            omega
          · omega
  | succ d ih =>
    intro i hd h0 m y5 y6 y7 hT f hr
    have z := f.z
    have e36 := z.mn
    have e2w : yw (2 * m 90 36) = 2 * m 90 36 := yw_s (2 * m 90 36) (by omega) (by omega)
    have e104 : m 104 (Int.toNat c) = g 104 (Int.toNat c) := z 104 _ (by decide) (by omega)
    have eEk : m 110 (Int.toNat c) = g 110 (Int.toNat c) := z.ea _
    have eLk : yMl m (Int.toNat c) = yMl g (Int.toNat c) := z.ml _
    refine yrun_ok (sp := fun pc => Nat.beq pc 33 || Nat.beq pc 121) hY 42 33 _ [] m ?_
    show (((yw (2 * (m 90 36))) ≤ i → (K [] m)) ∧ (¬ ((yw (2 * (m 90 36))) ≤ i) → ((2 : Int) ≠ 0 ∧ (((yb (fun x y => x - x / y * y) i 2) ≠ 0 → ((2 : Int) ≠ 0 ∧ (((0 : Int) ≤ (yb (fun x y => x / y) i 2) ∧ (yb (fun x y => x / y) i 2) < ((6 : Nat) : Int)) ∧ (∃ (w3 : Int), [(3, 90), (1, (m 112 (Int.toNat (yb (fun x y => x / y) i 2))))] = [(3, 90), (1, w3)] ∧ (0 ≤ w3 ∧ w3 < 40) ∧ (0 ≤ m 104 (Int.toNat w3) ∧ m 104 (Int.toNat w3) ≤ 5) ∧ (∀ (r4 : Int), (r4 = yMl m (Int.toNat w3)) → (((0 : Int) ≤ c ∧ c < ((40 : Nat) : Int)) ∧ ((r4 < (m 110 (Int.toNat c)) → (Y 33 [(3, 90), (1, k), (1, p), (1, c), (1, (yw (i + 1))), (1, r4), y6, y7] [] m)) ∧ (¬ (r4 < (m 110 (Int.toNat c))) → (∃ (w7 : Int), [(3, 90), (1, c)] = [(3, 90), (1, w7)] ∧ (0 ≤ w7 ∧ w7 < 40) ∧ (0 ≤ m 104 (Int.toNat w7) ∧ m 104 (Int.toNat w7) ≤ 5) ∧ (∀ (r8 : Int), (r8 = yMl m (Int.toNat w7)) → ((r4 ≤ r8 → (((0 : Int) ≤ k ∧ k < ((6 : Nat) : Int)) ∧ (Y 121 [(3, 90), (1, k), (1, p), (1, c), (1, i), (1, r4), (1, p), (1, 0)] [] (yset m 113 (Int.toNat k) r4)))) ∧ (¬ (r4 ≤ r8) → (Y 33 [(3, 90), (1, k), (1, p), (1, c), (1, (yw (i + 1))), (1, r4), y6, y7] [] m))))))))))))) ∧ (¬ ((yb (fun x y => x - x / y * y) i 2) ≠ 0) → ((2 : Int) ≠ 0 ∧ (((0 : Int) ≤ (yb (fun x y => x / y) i 2) ∧ (yb (fun x y => x / y) i 2) < ((6 : Nat) : Int)) ∧ (((0 : Int) ≤ (m 112 (Int.toNat (yb (fun x y => x / y) i 2))) ∧ (m 112 (Int.toNat (yb (fun x y => x / y) i 2))) < ((40 : Nat) : Int)) ∧ (((0 : Int) ≤ c ∧ c < ((40 : Nat) : Int)) ∧ (((m 110 (Int.toNat (m 112 (Int.toNat (yb (fun x y => x / y) i 2))))) < (m 110 (Int.toNat c)) → (Y 33 [(3, 90), (1, k), (1, p), (1, c), (1, (yw (i + 1))), (1, (m 110 (Int.toNat (m 112 (Int.toNat (yb (fun x y => x / y) i 2)))))), y6, y7] [] m)) ∧ (¬ ((m 110 (Int.toNat (m 112 (Int.toNat (yb (fun x y => x / y) i 2))))) < (m 110 (Int.toNat c))) → (∃ (w12 : Int), [(3, 90), (1, c)] = [(3, 90), (1, w12)] ∧ (0 ≤ w12 ∧ w12 < 40) ∧ (0 ≤ m 104 (Int.toNat w12) ∧ m 104 (Int.toNat w12) ≤ 5) ∧ (∀ (r13 : Int), (r13 = yMl m (Int.toNat w12)) → (((m 110 (Int.toNat (m 112 (Int.toNat (yb (fun x y => x / y) i 2))))) ≤ r13 → (((0 : Int) ≤ k ∧ k < ((6 : Nat) : Int)) ∧ (Y 121 [(3, 90), (1, k), (1, p), (1, c), (1, i), (1, (m 110 (Int.toNat (m 112 (Int.toNat (yb (fun x y => x / y) i 2)))))), (1, p), (1, 0)] [] (yset m 113 (Int.toNat k) (m 110 (Int.toNat (m 112 (Int.toNat (yb (fun x y => x / y) i 2))))))))) ∧ (¬ ((m 110 (Int.toNat (m 112 (Int.toNat (yb (fun x y => x / y) i 2))))) ≤ r13) → (Y 33 [(3, 90), (1, k), (1, p), (1, c), (1, (yw (i + 1))), (1, (m 110 (Int.toNat (m 112 (Int.toNat (yb (fun x y => x / y) i 2)))))), y6, y7] [] m))))))))))))))))
    refine ⟨fun h1 => ?_, fun h1 => ?_⟩
    · omega
    · refine ⟨(by decide), ?_⟩
      refine ⟨fun h2 => ?_, fun h2 => ?_⟩
      · refine ⟨(by decide), ?_⟩
        refine ⟨(by
      obtain ⟨d1, d2⟩ := yH2 (i := i) (by omega)
      have gi := (z.gd hG).2 (Int.toNat i / 2) (by omega)
      first
        | omega
        | (rw [d1]; omega)
        | (rw [d1, Int.toNat_natCast]; exact gi.1)
        | (rw [d1, Int.toNat_natCast]; exact gi.2)), ?_⟩
        refine ⟨_, rfl, (by
      obtain ⟨d1, d2⟩ := yH2 (i := i) (by omega)
      have gi := (z.gd hG).2 (Int.toNat i / 2) (by omega)
      first
        | omega
        | (rw [d1]; omega)
        | (rw [d1, Int.toNat_natCast]; exact gi.1)
        | (rw [d1, Int.toNat_natCast]; exact gi.2)), (by
      obtain ⟨d1, d2⟩ := yH2 (i := i) (by omega)
      have gi := (z.gd hG).2 (Int.toNat i / 2) (by omega)
      first
        | omega
        | (rw [d1]; omega)
        | (rw [d1, Int.toNat_natCast]; exact gi.1)
        | (rw [d1, Int.toNat_natCast]; exact gi.2)), ?_⟩
        intro r4 p50
        refine ⟨(by
      obtain ⟨d1, d2⟩ := yH2 (i := i) (by omega)
      have gi := (z.gd hG).2 (Int.toNat i / 2) (by omega)
      first
        | omega
        | (rw [d1]; omega)
        | (rw [d1, Int.toNat_natCast]; exact gi.1)
        | (rw [d1, Int.toNat_natCast]; exact gi.2)), ?_⟩
        refine ⟨fun h6 => ?_, fun h6 => ?_⟩
        · obtain ⟨d1, d2⟩ := yH2 (i := i) (by omega)
          have gi := (z.gd hG).2 (Int.toNat i / 2) (by omega)
          have yi : yw (i + 1) = i + 1 := yw_s (i + 1) (by omega) (by omega)
          have ti : Int.toNat (i + 1) = Int.toNat i + 1 := by omega
          rw [d2] at h2
          have eA : Int.toNat (m 112 (Int.toNat i / 2)) = yAm g (Int.toNat i / 2) := z.am _
          have hV : r4 = yVi g (Int.toNat i) := by
            have e := p50
            rw [d1, Int.toNat_natCast, eA, z.ml] at e
            rw [e]
            unfold yVi
            rw [if_neg (by omega)]
          rw [yi]
          refine ih (i + 1) (by omega) (by omega) m _ _ _ hT f ?_
          rw [ti]
          exact hr.sk hk.1 (fun y => by rw [ek, ← hV] at y; omega)
        · refine ⟨_, rfl, (by
      obtain ⟨d1, d2⟩ := yH2 (i := i) (by omega)
      have gi := (z.gd hG).2 (Int.toNat i / 2) (by omega)
      first
        | omega
        | (rw [d1]; omega)
        | (rw [d1, Int.toNat_natCast]; exact gi.1)
        | (rw [d1, Int.toNat_natCast]; exact gi.2)), (by
      obtain ⟨d1, d2⟩ := yH2 (i := i) (by omega)
      have gi := (z.gd hG).2 (Int.toNat i / 2) (by omega)
      first
        | omega
        | (rw [d1]; omega)
        | (rw [d1, Int.toNat_natCast]; exact gi.1)
        | (rw [d1, Int.toNat_natCast]; exact gi.2)), ?_⟩
          intro r8 p90
          refine ⟨fun h10 => ?_, fun h10 => ?_⟩
          · refine ⟨(by
      obtain ⟨d1, d2⟩ := yH2 (i := i) (by omega)
      have gi := (z.gd hG).2 (Int.toNat i / 2) (by omega)
      first
        | omega
        | (rw [d1]; omega)
        | (rw [d1, Int.toNat_natCast]; exact gi.1)
        | (rw [d1, Int.toNat_natCast]; exact gi.2)), ?_⟩
            obtain ⟨d1, d2⟩ := yH2 (i := i) (by omega)
            have gi := (z.gd hG).2 (Int.toNat i / 2) (by omega)
            have yi : yw (i + 1) = i + 1 := yw_s (i + 1) (by omega) (by omega)
            have ti : Int.toNat (i + 1) = Int.toNat i + 1 := by omega
            rw [d2] at h2
            have eA : Int.toNat (m 112 (Int.toNat i / 2)) = yAm g (Int.toNat i / 2) := z.am _
            have hV : r4 = yVi g (Int.toNat i) := by
              have e := p50
              rw [d1, Int.toNat_natCast, eA, z.ml] at e
              rw [e]
              unfold yVi
              rw [if_neg (by omega)]
            have hR : g 110 (yAm g (Int.toNat k)) ≤ yVi g (Int.toNat i) ∧ yVi g (Int.toNat i) ≤ yMl g (yAm g (Int.toNat k)) := by
              rw [ek, ← hV]
              omega
            rw [hV]
            have vr : -2147483648 ≤ yVi g (Int.toNat i) ∧ yVi g (Int.toNat i) ≤ 2147483647 := by
              have r1 := hT.fA (j := Int.toNat c) (List.mem_of_getElem? (i := 62) rfl) (by omega)
              have r2 : -2147483648 ≤ yMl g (Int.toNat c) ∧ yMl g (Int.toNat c) ≤ 2147483647 := yw_rng _
              rw [ek] at hR
              omega
            have fp : yFk k g (yset m 113 (Int.toNat k) (yVi g (Int.toNat i))) := f.put hk.1.1
            have e37 : (yset m 113 (Int.toNat k) (yVi g (Int.toNat i))) 90 37 = m 90 37 := yset_nc (by decide)
            have hr1 := hr.1
            refine yj_CF5 hY (fp.z.gd hG) (by rw [fp.z.mn]; exact hk.1) (by rw [fp.z 112 _ (by decide) (by omega)]; exact hc) yset_eq hp.2 (fun n hn => ?_) (Int.toNat k) 0 (by omega) (by decide) p (by show p = p + 0; omega)
            have hn2 := yCw_nx fp.z (fun j hj => fp.lo hj) hk.1.1 hp.1 hn
            have nb := @yDw_nb (yFlc (yset m 113 (Int.toNat k) (yVi g (Int.toNat i)))) ((yset m 113 (Int.toNat k) (yVi g (Int.toNat i))) 113) (Int.toNat k) (Int.toNat k)
            refine yt_CF5 hY (hT.sA (List.mem_of_getElem? (i := 65) rfl) (by decide +kernel) vr) (fp.z.gd hG) (by rw [fp.z.mn]; exact hk) ⟨hn2, by omega, by omega⟩ (by rw [e37]; omega) (by omega) (fun g3 t1 t2 t3 => ?_)
            refine ih (i + 1) (by omega) (by omega) g3 _ _ _ t1 (fp.tr t2 (by omega)) ?_
            rw [ti]
            exact yFrs.tk hk.1 (by omega) f hr hR t3
          · obtain ⟨d1, d2⟩ := yH2 (i := i) (by omega)
            have gi := (z.gd hG).2 (Int.toNat i / 2) (by omega)
            have yi : yw (i + 1) = i + 1 := yw_s (i + 1) (by omega) (by omega)
            have ti : Int.toNat (i + 1) = Int.toNat i + 1 := by omega
            rw [d2] at h2
            have eA : Int.toNat (m 112 (Int.toNat i / 2)) = yAm g (Int.toNat i / 2) := z.am _
            have hV : r4 = yVi g (Int.toNat i) := by
              have e := p50
              rw [d1, Int.toNat_natCast, eA, z.ml] at e
              rw [e]
              unfold yVi
              rw [if_neg (by omega)]
            rw [yi]
            refine ih (i + 1) (by omega) (by omega) m _ _ _ hT f ?_
            rw [ti]
            exact hr.sk hk.1 (fun y => by rw [ek, ← hV] at y; omega)
      · refine ⟨(by decide), ?_⟩
        refine ⟨(by
      obtain ⟨d1, d2⟩ := yH2 (i := i) (by omega)
      have gi := (z.gd hG).2 (Int.toNat i / 2) (by omega)
      first
        | omega
        | (rw [d1]; omega)
        | (rw [d1, Int.toNat_natCast]; exact gi.1)
        | (rw [d1, Int.toNat_natCast]; exact gi.2)), ?_⟩
        refine ⟨(by
      obtain ⟨d1, d2⟩ := yH2 (i := i) (by omega)
      have gi := (z.gd hG).2 (Int.toNat i / 2) (by omega)
      first
        | omega
        | (rw [d1]; omega)
        | (rw [d1, Int.toNat_natCast]; exact gi.1)
        | (rw [d1, Int.toNat_natCast]; exact gi.2)), ?_⟩
        refine ⟨(by
      obtain ⟨d1, d2⟩ := yH2 (i := i) (by omega)
      have gi := (z.gd hG).2 (Int.toNat i / 2) (by omega)
      first
        | omega
        | (rw [d1]; omega)
        | (rw [d1, Int.toNat_natCast]; exact gi.1)
        | (rw [d1, Int.toNat_natCast]; exact gi.2)), ?_⟩
        refine ⟨fun h11 => ?_, fun h11 => ?_⟩
        · obtain ⟨d1, d2⟩ := yH2 (i := i) (by omega)
          have gi := (z.gd hG).2 (Int.toNat i / 2) (by omega)
          have yi : yw (i + 1) = i + 1 := yw_s (i + 1) (by omega) (by omega)
          have ti : Int.toNat (i + 1) = Int.toNat i + 1 := by omega
          rw [d2] at h2
          have eA : Int.toNat (m 112 (Int.toNat i / 2)) = yAm g (Int.toNat i / 2) := z.am _
          have hV : (m 110 (Int.toNat (m 112 (Int.toNat (yb (fun x y => x / y) i 2))))) = yVi g (Int.toNat i) := by
            rw [d1, Int.toNat_natCast, eA, z.ea]
            unfold yVi
            rw [if_pos (by omega)]
          rw [yi]
          refine ih (i + 1) (by omega) (by omega) m _ _ _ hT f ?_
          rw [ti]
          exact hr.sk hk.1 (fun y => by rw [ek, ← hV] at y; omega)
        · refine ⟨_, rfl, (by
      obtain ⟨d1, d2⟩ := yH2 (i := i) (by omega)
      have gi := (z.gd hG).2 (Int.toNat i / 2) (by omega)
      first
        | omega
        | (rw [d1]; omega)
        | (rw [d1, Int.toNat_natCast]; exact gi.1)
        | (rw [d1, Int.toNat_natCast]; exact gi.2)), (by
      obtain ⟨d1, d2⟩ := yH2 (i := i) (by omega)
      have gi := (z.gd hG).2 (Int.toNat i / 2) (by omega)
      first
        | omega
        | (rw [d1]; omega)
        | (rw [d1, Int.toNat_natCast]; exact gi.1)
        | (rw [d1, Int.toNat_natCast]; exact gi.2)), ?_⟩
          intro r13 p140
          refine ⟨fun h15 => ?_, fun h15 => ?_⟩
          · refine ⟨(by
      obtain ⟨d1, d2⟩ := yH2 (i := i) (by omega)
      have gi := (z.gd hG).2 (Int.toNat i / 2) (by omega)
      first
        | omega
        | (rw [d1]; omega)
        | (rw [d1, Int.toNat_natCast]; exact gi.1)
        | (rw [d1, Int.toNat_natCast]; exact gi.2)), ?_⟩
            obtain ⟨d1, d2⟩ := yH2 (i := i) (by omega)
            have gi := (z.gd hG).2 (Int.toNat i / 2) (by omega)
            have yi : yw (i + 1) = i + 1 := yw_s (i + 1) (by omega) (by omega)
            have ti : Int.toNat (i + 1) = Int.toNat i + 1 := by omega
            rw [d2] at h2
            have eA : Int.toNat (m 112 (Int.toNat i / 2)) = yAm g (Int.toNat i / 2) := z.am _
            have hV : (m 110 (Int.toNat (m 112 (Int.toNat (yb (fun x y => x / y) i 2))))) = yVi g (Int.toNat i) := by
              rw [d1, Int.toNat_natCast, eA, z.ea]
              unfold yVi
              rw [if_pos (by omega)]
            have hR : g 110 (yAm g (Int.toNat k)) ≤ yVi g (Int.toNat i) ∧ yVi g (Int.toNat i) ≤ yMl g (yAm g (Int.toNat k)) := by
              rw [ek, ← hV]
              omega
            rw [hV]
            have vr : -2147483648 ≤ yVi g (Int.toNat i) ∧ yVi g (Int.toNat i) ≤ 2147483647 := by
              have r1 := hT.fA (j := Int.toNat c) (List.mem_of_getElem? (i := 62) rfl) (by omega)
              have r2 : -2147483648 ≤ yMl g (Int.toNat c) ∧ yMl g (Int.toNat c) ≤ 2147483647 := yw_rng _
              rw [ek] at hR
              omega
            have fp : yFk k g (yset m 113 (Int.toNat k) (yVi g (Int.toNat i))) := f.put hk.1.1
            have e37 : (yset m 113 (Int.toNat k) (yVi g (Int.toNat i))) 90 37 = m 90 37 := yset_nc (by decide)
            have hr1 := hr.1
            refine yj_CF5 hY (fp.z.gd hG) (by rw [fp.z.mn]; exact hk.1) (by rw [fp.z 112 _ (by decide) (by omega)]; exact hc) yset_eq hp.2 (fun n hn => ?_) (Int.toNat k) 0 (by omega) (by decide) p (by show p = p + 0; omega)
            have hn2 := yCw_nx fp.z (fun j hj => fp.lo hj) hk.1.1 hp.1 hn
            have nb := @yDw_nb (yFlc (yset m 113 (Int.toNat k) (yVi g (Int.toNat i)))) ((yset m 113 (Int.toNat k) (yVi g (Int.toNat i))) 113) (Int.toNat k) (Int.toNat k)
            refine yt_CF5 hY (hT.sA (List.mem_of_getElem? (i := 65) rfl) (by decide +kernel) vr) (fp.z.gd hG) (by rw [fp.z.mn]; exact hk) ⟨hn2, by omega, by omega⟩ (by rw [e37]; omega) (by omega) (fun g3 t1 t2 t3 => ?_)
            refine ih (i + 1) (by omega) (by omega) g3 _ _ _ t1 (fp.tr t2 (by omega)) ?_
            rw [ti]
            exact yFrs.tk hk.1 (by omega) f hr hR t3
          · obtain ⟨d1, d2⟩ := yH2 (i := i) (by omega)
            have gi := (z.gd hG).2 (Int.toNat i / 2) (by omega)
            have yi : yw (i + 1) = i + 1 := yw_s (i + 1) (by omega) (by omega)
            have ti : Int.toNat (i + 1) = Int.toNat i + 1 := by omega
            rw [d2] at h2
            have eA : Int.toNat (m 112 (Int.toNat i / 2)) = yAm g (Int.toNat i / 2) := z.am _
            have hV : (m 110 (Int.toNat (m 112 (Int.toNat (yb (fun x y => x / y) i 2))))) = yVi g (Int.toNat i) := by
              rw [d1, Int.toNat_natCast, eA, z.ea]
              unfold yVi
              rw [if_pos (by omega)]
            rw [yi]
            refine ih (i + 1) (by omega) (by omega) m _ _ _ hT f ?_
            rw [ti]
            exact hr.sk hk.1 (fun y => by rw [ek, ← hV] at y; omega)
set_option maxRecDepth 8000 in
theorem yv_CF5 {K : List yV → yM → Prop} {Y : yNx} {g : yM} {k p : Int} (hY : yCl zpD146 (zpZ, zpRS, zpP12, zpMT, [yC_LTO, yC_ILT, yC_CF4], (7, 197), 0) K Y) (hr_k : -2147483648 ≤ k ∧ k ≤ 2147483647) (hr_p : -2147483648 ≤ p ∧ p ≤ 2147483647) (hp0 : yTy zpZ g) (hp1 : yFgd g) (hp2 : (0 ≤ k ∧ k ≤ g 90 36) ∧ g 90 36 - k ≤ 5) (hp3 : p = yCw (yFlc g) (g 113) (yDnL (Int.toNat k)) ∧ 0 ≤ p ∧ p ≤ 12 * k) (hp4 : 0 ≤ g 90 37 ∧ g 90 37 ≤ 99) (hK : ∀ (g' : yM), (yTy zpZ g') → (yFk k g g') → (yFrs g g' (yCo g k)) → K [] g') : Y 0 [(3, 90), (1, k), (1, p), (0, 0), (0, 0), (0, 0), (0, 0), (0, 0)] [] g := by
  have h36 := hp1.1
  refine yrun_ok (sp := fun pc => Nat.beq pc 33) hY 16 0 _ [] g ?_
  show ((p < (g 90 37) → ((k ≠ (g 90 36) → (((0 : Int) ≤ k ∧ k < ((6 : Nat) : Int)) ∧ (Y 33 [(3, 90), (1, k), (1, p), (1, (g 112 (Int.toNat k))), (1, 0), (0, 0), (0, 0), (0, 0)] [] g))) ∧ (¬ (k ≠ (g 90 36)) → (K [] (yset g 90 37 p))))) ∧ (¬ (p < (g 90 37)) → (K [] g)))
  refine ⟨fun h1 => ?_, fun h1 => ?_⟩
  · refine ⟨fun h2 => ?_, fun h2 => ?_⟩
    · refine ⟨(by omega), ?_⟩
      exact yl_CF5 hY hp1 ⟨⟨hp2.1.1, by omega⟩, hp2.2⟩ rfl hp3 hp4 hK (Int.toNat (2 * g 90 36)) 0 (by omega) (by decide) g _ _ _ hp0 yFk.rf (yFrs.z hp4.1)
    · exact hK _ (hp0.sO (List.mem_of_getElem? (i := 42) rfl) rfl (by decide +kernel) ⟨by omega, by omega⟩) (fun a b c1 c2 => yset_ne (by omega)) (yFrs.on (by omega) hp2.1.1 hp3.1 hp3.2.1 (by omega))
  · exact hK g hp0 yFk.rf (yFrs.no hp2.1 hp3.1 hp4.1 (by omega))
theorem yM_CF5 {l : Launch} {Ts : List Cond} {cl : List vw_C} {RO : zRO} (H : zHyp Ts cl RO) : yMet l Ts cl zpZ RO zpMT yC_CF5 := ymet_of2 H.1 H.2.1 zpDj H.2.2.1 yRb H.p12 (ymets_cons (yM_LTO H) (ymets_cons (yM_ILT H) (ymets_cons (yM_CF4 H) ymets_nil))) (zrc0 rfl) (plainFor_of_name zpy12) zpDk146 (fun as g K Y h hA hY => by
  obtain ⟨k, p, rfl, hp0, hp1, hp2, hp3, hp4, hK⟩ := h
  exact yv_CF5 hY (yAr1 hA (by simp)) (yAr1 hA (by simp)) hp0 hp1 hp2 hp3 hp4 hK)
def yP_CF6 : yPT := fun as g K => ∃ (k p : Int), as = [(3, 90), (1, k), (1, p)] ∧ (yTy zpZ g) ∧ (yFgd g) ∧ ((0 ≤ k ∧ k ≤ g 90 36) ∧ g 90 36 - k ≤ 6) ∧ (p = yCw (yFlc g) (g 113) (yDnL (Int.toNat k)) ∧ 0 ≤ p ∧ p ≤ 12 * k) ∧ (0 ≤ g 90 37 ∧ g 90 37 ≤ 99) ∧ (∀ (g' : yM), (yTy zpZ g') → (yFk k g g') → (yFrs g g' (yCo g k)) → K [] g')
def yC_CF6 : yC := (146, (8, 224), yP_CF6)
set_option maxRecDepth 8000 in
theorem yt_CF6 {K : List yV → yM → Prop} {Y : yNx} {g : yM} {k p c i v n j : Int} (hY : yCl zpD146 (zpZ, zpRS, zpP12, zpMT, [yC_LTO, yC_ILT, yC_CF5], (8, 224), 0) K Y) (hT : yTy zpZ g) (hG : yFgd g) (hk : (0 ≤ k ∧ k < g 90 36) ∧ g 90 36 - k ≤ 6) (hn : n = yCw (yFlc g) (g 113) (yDnL (Int.toNat (k + 1))) ∧ 0 ≤ n ∧ n ≤ 12 * (k + 1)) (hF : 0 ≤ g 90 37 ∧ g 90 37 ≤ 99) (hi : 0 ≤ i ∧ i < 12) (hE : ∀ g3 : yM, yTy zpZ g3 → yFk (k + 1) g g3 → yFrs g g3 (yCo g (k + 1)) → Y 33 [(3, 90), (1, k), (1, p), (1, c), (1, i + 1), (1, v), (1, n), (1, j)] [] g3) : Y 197 [(3, 90), (1, k), (1, p), (1, c), (1, i), (1, v), (1, n), (1, j)] [] g := by
  have h36 := hG.1
  have yk : yw (k + 1) = k + 1 := yw_s (k + 1) (by omega) (by omega)
  have yi : yw (i + 1) = i + 1 := yw_s (i + 1) (by omega) (by omega)
  refine yrun_ok (sp := fun pc => Nat.beq pc 33) hY 9 197 _ [] g ?_
  show (∃ (k1 p2 : Int), [(3, 90), (1, (yw (k + 1))), (1, n)] = [(3, 90), (1, k1), (1, p2)] ∧ (yTy zpZ g) ∧ (yFgd g) ∧ ((0 ≤ k1 ∧ k1 ≤ g 90 36) ∧ g 90 36 - k1 ≤ 5) ∧ (p2 = yCw (yFlc g) (g 113) (yDnL (Int.toNat k1)) ∧ 0 ≤ p2 ∧ p2 ≤ 12 * k1) ∧ (0 ≤ g 90 37 ∧ g 90 37 ≤ 99) ∧ (∀ (g3 : yM), (yTy zpZ g3) → (yFk k1 g g3) → (yFrs g g3 (yCo g k1)) → (Y 33 [(3, 90), (1, k), (1, p), (1, c), (1, (yw (i + 1))), (1, v), (1, n), (1, j)] [] g3)))
  refine ⟨_, _, rfl, (hT), (hG), (by omega), (by rw [yk]; exact hn), (by omega), ?_⟩
  intro g3 p40 p41 p42
  rw [yk] at p41 p42
  rw [yi]
  exact hE _ p40 p41 p42
set_option maxRecDepth 8000 in
theorem yj_CF6 {K : List yV → yM → Prop} {Y : yNx} {g : yM} {k p c i v : Int} (hY : yCl zpD146 (zpZ, zpRS, zpP12, zpMT, [yC_LTO, yC_ILT, yC_CF5], (8, 224), 0) K Y) (hG : yFgd g) (hk : 0 ≤ k ∧ k < g 90 36) (hc : c = g 112 (Int.toNat k)) (hv : g 113 (Int.toNat k) = v) (hp : 0 ≤ p ∧ p ≤ 12 * k) (hE : ∀ n : Int, n = p + yDw (yFlc g) (g 113) (Int.toNat k) (yDnL (Int.toNat k)) → Y 197 [(3, 90), (1, k), (1, p), (1, c), (1, i), (1, v), (1, n), (1, k)] [] g) : ∀ (d : Nat) (j : Int), j + d = k → 0 ≤ j → ∀ n : Int, n = p + yDw (yFlc g) (g 113) (Int.toNat k) (yDnL (Int.toNat j)) → Y 121 [(3, 90), (1, k), (1, p), (1, c), (1, i), (1, v), (1, n), (1, j)] [] g := by
  have h36 := hG.1
  have gk := (hG.2 (Int.toNat k) (by omega)).1
  have ek : yAm g (Int.toNat k) = Int.toNat c := by rw [hc]; rfl
  intro d
  induction d with
  | zero =>
    intro j hd h0 n hn
    refine yrun_ok (sp := fun pc => Nat.beq pc 121 || Nat.beq pc 197) hY 39 121 _ [] g ?_
    show ((k ≤ j → (Y 197 [(3, 90), (1, k), (1, p), (1, c), (1, i), (1, v), (1, n), (1, j)] [] g)) ∧ (¬ (k ≤ j) → (((0 : Int) ≤ j ∧ j < ((6 : Nat) : Int)) ∧ (∃ (a2 b3 : Int), [(3, 90), (1, c), (1, (g 112 (Int.toNat j)))] = [(3, 90), (1, a2), (1, b3)] ∧ (0 ≤ a2 ∧ a2 < 40) ∧ (0 ≤ b3 ∧ b3 < 40) ∧ (∀ (r4 : Int), ((r4 = 1 ∧ yLa g (Int.toNat a2) (Int.toNat b3)) ∨ (r4 = 0 ∧ ¬ yLa g (Int.toNat a2) (Int.toNat b3))) → ((r4 = 0 → (((0 : Int) ≤ j ∧ j < ((6 : Nat) : Int)) ∧ (∃ (a7 b8 : Int), [(3, 90), (1, (g 112 (Int.toNat j))), (1, c)] = [(3, 90), (1, a7), (1, b8)] ∧ (0 ≤ a7 ∧ a7 < 40) ∧ (0 ≤ b8 ∧ b8 < 40) ∧ (∀ (r9 : Int), ((r9 = 1 ∧ yLa g (Int.toNat a7) (Int.toNat b8)) ∨ (r9 = 0 ∧ ¬ yLa g (Int.toNat a7) (Int.toNat b8))) → ((r9 = 0 → (Y 121 [(3, 90), (1, k), (1, p), (1, c), (1, i), (1, v), (1, (yw (n + 0))), (1, (yw (j + 1)))] [] g)) ∧ (¬ (r9 = 0) → (((0 : Int) ≤ j ∧ j < ((6 : Nat) : Int)) ∧ ((v ≤ (g 113 (Int.toNat j)) → (Y 121 [(3, 90), (1, k), (1, p), (1, c), (1, i), (1, v), (1, (yw (n + 0))), (1, (yw (j + 1)))] [] g)) ∧ (¬ (v ≤ (g 113 (Int.toNat j))) → (Y 121 [(3, 90), (1, k), (1, p), (1, c), (1, i), (1, v), (1, (yw (n + 1))), (1, (yw (j + 1)))] [] g)))))))))) ∧ (¬ (r4 = 0) → (((0 : Int) ≤ j ∧ j < ((6 : Nat) : Int)) ∧ ((v < (g 113 (Int.toNat j)) → (Y 121 [(3, 90), (1, k), (1, p), (1, c), (1, i), (1, v), (1, (yw (n + 1))), (1, (yw (j + 1)))] [] g)) ∧ (¬ (v < (g 113 (Int.toNat j))) → (((0 : Int) ≤ j ∧ j < ((6 : Nat) : Int)) ∧ (∃ (a14 b15 : Int), [(3, 90), (1, (g 112 (Int.toNat j))), (1, c)] = [(3, 90), (1, a14), (1, b15)] ∧ (0 ≤ a14 ∧ a14 < 40) ∧ (0 ≤ b15 ∧ b15 < 40) ∧ (∀ (r16 : Int), ((r16 = 1 ∧ yLa g (Int.toNat a14) (Int.toNat b15)) ∨ (r16 = 0 ∧ ¬ yLa g (Int.toNat a14) (Int.toNat b15))) → ((r16 = 0 → (Y 121 [(3, 90), (1, k), (1, p), (1, c), (1, i), (1, v), (1, (yw (n + 0))), (1, (yw (j + 1)))] [] g)) ∧ (¬ (r16 = 0) → (((0 : Int) ≤ j ∧ j < ((6 : Nat) : Int)) ∧ ((v ≤ (g 113 (Int.toNat j)) → (Y 121 [(3, 90), (1, k), (1, p), (1, c), (1, i), (1, v), (1, (yw (n + 0))), (1, (yw (j + 1)))] [] g)) ∧ (¬ (v ≤ (g 113 (Int.toNat j))) → (Y 121 [(3, 90), (1, k), (1, p), (1, c), (1, i), (1, v), (1, (yw (n + 1))), (1, (yw (j + 1)))] [] g)))))))))))))))))))
    refine ⟨fun h1 => ?_, fun h1 => ?_⟩
    · obtain rfl : j = k := by omega
      exact hE n hn
    · refine ⟨(by omega), ?_⟩
      refine ⟨_, _, rfl, (by omega), (by omega), ?_⟩
      intro r4 p50
      refine ⟨fun h6 => ?_, fun h6 => ?_⟩
      · refine ⟨(by omega), ?_⟩
        refine ⟨_, _, rfl, (by omega), (by omega), ?_⟩
        intro r9 p100
        refine ⟨fun h11 => ?_, fun h11 => ?_⟩
        · omega
        · refine ⟨(by omega), ?_⟩
          refine ⟨fun h12 => ?_, fun h12 => ?_⟩
          · omega
          · omega
      · refine ⟨(by omega), ?_⟩
        refine ⟨fun h13 => ?_, fun h13 => ?_⟩
        · omega
        · refine ⟨(by omega), ?_⟩
          refine ⟨_, _, rfl, (by omega), (by omega), ?_⟩
          intro r16 p170
          refine ⟨fun h18 => ?_, fun h18 => ?_⟩
          · omega
          · refine ⟨(by omega), ?_⟩
            refine ⟨fun h19 => ?_, fun h19 => ?_⟩
            · omega
            · omega
  | succ d ih =>
    intro j hd h0 n hn
    refine yrun_ok (sp := fun pc => Nat.beq pc 121 || Nat.beq pc 197) hY 39 121 _ [] g ?_
    show ((k ≤ j → (Y 197 [(3, 90), (1, k), (1, p), (1, c), (1, i), (1, v), (1, n), (1, j)] [] g)) ∧ (¬ (k ≤ j) → (((0 : Int) ≤ j ∧ j < ((6 : Nat) : Int)) ∧ (∃ (a2 b3 : Int), [(3, 90), (1, c), (1, (g 112 (Int.toNat j)))] = [(3, 90), (1, a2), (1, b3)] ∧ (0 ≤ a2 ∧ a2 < 40) ∧ (0 ≤ b3 ∧ b3 < 40) ∧ (∀ (r4 : Int), ((r4 = 1 ∧ yLa g (Int.toNat a2) (Int.toNat b3)) ∨ (r4 = 0 ∧ ¬ yLa g (Int.toNat a2) (Int.toNat b3))) → ((r4 = 0 → (((0 : Int) ≤ j ∧ j < ((6 : Nat) : Int)) ∧ (∃ (a7 b8 : Int), [(3, 90), (1, (g 112 (Int.toNat j))), (1, c)] = [(3, 90), (1, a7), (1, b8)] ∧ (0 ≤ a7 ∧ a7 < 40) ∧ (0 ≤ b8 ∧ b8 < 40) ∧ (∀ (r9 : Int), ((r9 = 1 ∧ yLa g (Int.toNat a7) (Int.toNat b8)) ∨ (r9 = 0 ∧ ¬ yLa g (Int.toNat a7) (Int.toNat b8))) → ((r9 = 0 → (Y 121 [(3, 90), (1, k), (1, p), (1, c), (1, i), (1, v), (1, (yw (n + 0))), (1, (yw (j + 1)))] [] g)) ∧ (¬ (r9 = 0) → (((0 : Int) ≤ j ∧ j < ((6 : Nat) : Int)) ∧ ((v ≤ (g 113 (Int.toNat j)) → (Y 121 [(3, 90), (1, k), (1, p), (1, c), (1, i), (1, v), (1, (yw (n + 0))), (1, (yw (j + 1)))] [] g)) ∧ (¬ (v ≤ (g 113 (Int.toNat j))) → (Y 121 [(3, 90), (1, k), (1, p), (1, c), (1, i), (1, v), (1, (yw (n + 1))), (1, (yw (j + 1)))] [] g)))))))))) ∧ (¬ (r4 = 0) → (((0 : Int) ≤ j ∧ j < ((6 : Nat) : Int)) ∧ ((v < (g 113 (Int.toNat j)) → (Y 121 [(3, 90), (1, k), (1, p), (1, c), (1, i), (1, v), (1, (yw (n + 1))), (1, (yw (j + 1)))] [] g)) ∧ (¬ (v < (g 113 (Int.toNat j))) → (((0 : Int) ≤ j ∧ j < ((6 : Nat) : Int)) ∧ (∃ (a14 b15 : Int), [(3, 90), (1, (g 112 (Int.toNat j))), (1, c)] = [(3, 90), (1, a14), (1, b15)] ∧ (0 ≤ a14 ∧ a14 < 40) ∧ (0 ≤ b15 ∧ b15 < 40) ∧ (∀ (r16 : Int), ((r16 = 1 ∧ yLa g (Int.toNat a14) (Int.toNat b15)) ∨ (r16 = 0 ∧ ¬ yLa g (Int.toNat a14) (Int.toNat b15))) → ((r16 = 0 → (Y 121 [(3, 90), (1, k), (1, p), (1, c), (1, i), (1, v), (1, (yw (n + 0))), (1, (yw (j + 1)))] [] g)) ∧ (¬ (r16 = 0) → (((0 : Int) ≤ j ∧ j < ((6 : Nat) : Int)) ∧ ((v ≤ (g 113 (Int.toNat j)) → (Y 121 [(3, 90), (1, k), (1, p), (1, c), (1, i), (1, v), (1, (yw (n + 0))), (1, (yw (j + 1)))] [] g)) ∧ (¬ (v ≤ (g 113 (Int.toNat j))) → (Y 121 [(3, 90), (1, k), (1, p), (1, c), (1, i), (1, v), (1, (yw (n + 1))), (1, (yw (j + 1)))] [] g)))))))))))))))))))
    refine ⟨fun h1 => ?_, fun h1 => ?_⟩
    · omega
    · refine ⟨(by have gj := (hG.2 (Int.toNat j) (by omega)).1; omega), ?_⟩
      refine ⟨_, _, rfl, (by have gj := (hG.2 (Int.toNat j) (by omega)).1; omega), (by have gj := (hG.2 (Int.toNat j) (by omega)).1; omega), ?_⟩
      intro r4 p50
      refine ⟨fun h6 => ?_, fun h6 => ?_⟩
      · refine ⟨(by have gj := (hG.2 (Int.toNat j) (by omega)).1; omega), ?_⟩
        refine ⟨_, _, rfl, (by have gj := (hG.2 (Int.toNat j) (by omega)).1; omega), (by have gj := (hG.2 (Int.toNat j) (by omega)).1; omega), ?_⟩
        intro r9 p100
        refine ⟨fun h11 => ?_, fun h11 => ?_⟩
        · have yj : yw (j + 1) = j + 1 := yw_s (j + 1) (by omega) (by omega)
          have nb := @yDw_nb (yFlc g) (g 113) (Int.toNat k) (Int.toNat j)
          have ej : yAm g (Int.toNat j) = Int.toNat (g 112 (Int.toNat j)) := rfl
          have hs : yDw (yFlc g) (g 113) (Int.toNat k) (yDnL (Int.toNat j + 1)) = 0 + yDw (yFlc g) (g 113) (Int.toNat k) (yDnL (Int.toNat j)) := by
            refine yDs ?_
            rw [ek, ej, hv]
            rcases p50 with ⟨q1, q2⟩ | ⟨q1, q2⟩
            · rcases p100 with ⟨q3, q4⟩ | ⟨q3, q4⟩
              · first
                  | omega
                  | exact Or.inl ⟨rfl, Or.inl ⟨q2, by omega⟩⟩
                  | exact Or.inl ⟨rfl, Or.inr ⟨q4, by omega⟩⟩
                  | exact Or.inr ⟨rfl, (fun y => by have y2 := y.2; omega), (fun y => by have y2 := y.2; omega)⟩
              · first
                  | omega
                  | exact Or.inl ⟨rfl, Or.inl ⟨q2, by omega⟩⟩
                  | exact Or.inr ⟨rfl, (fun y => by have y2 := y.2; omega), (fun y => q4 y.1)⟩
            · rcases p100 with ⟨q3, q4⟩ | ⟨q3, q4⟩
              · first
                  | omega
                  | exact Or.inl ⟨rfl, Or.inr ⟨q4, by omega⟩⟩
                  | exact Or.inr ⟨rfl, (fun y => q2 y.1), (fun y => by have y2 := y.2; omega)⟩
              · first
                  | omega
                  | exact Or.inr ⟨rfl, (fun y => q2 y.1), (fun y => q4 y.1)⟩
          rw [yj]
          refine ih (j + 1) (by omega) (by omega) _ ?_
          rw [show Int.toNat (j + 1) = Int.toNat j + 1 by omega, hs, yw_s (n + 0) (by omega) (by omega), hn]
          omega
        · refine ⟨(by have gj := (hG.2 (Int.toNat j) (by omega)).1; omega), ?_⟩
          refine ⟨fun h12 => ?_, fun h12 => ?_⟩
          · have yj : yw (j + 1) = j + 1 := yw_s (j + 1) (by omega) (by omega)
            have nb := @yDw_nb (yFlc g) (g 113) (Int.toNat k) (Int.toNat j)
            have ej : yAm g (Int.toNat j) = Int.toNat (g 112 (Int.toNat j)) := rfl
            have hs : yDw (yFlc g) (g 113) (Int.toNat k) (yDnL (Int.toNat j + 1)) = 0 + yDw (yFlc g) (g 113) (Int.toNat k) (yDnL (Int.toNat j)) := by
              refine yDs ?_
              rw [ek, ej, hv]
              rcases p50 with ⟨q1, q2⟩ | ⟨q1, q2⟩
              · rcases p100 with ⟨q3, q4⟩ | ⟨q3, q4⟩
                · first
                    | omega
                    | exact Or.inl ⟨rfl, Or.inl ⟨q2, by omega⟩⟩
                    | exact Or.inl ⟨rfl, Or.inr ⟨q4, by omega⟩⟩
                    | exact Or.inr ⟨rfl, (fun y => by have y2 := y.2; omega), (fun y => by have y2 := y.2; omega)⟩
                · first
                    | omega
                    | exact Or.inl ⟨rfl, Or.inl ⟨q2, by omega⟩⟩
                    | exact Or.inr ⟨rfl, (fun y => by have y2 := y.2; omega), (fun y => q4 y.1)⟩
              · rcases p100 with ⟨q3, q4⟩ | ⟨q3, q4⟩
                · first
                    | omega
                    | exact Or.inl ⟨rfl, Or.inr ⟨q4, by omega⟩⟩
                    | exact Or.inr ⟨rfl, (fun y => q2 y.1), (fun y => by have y2 := y.2; omega)⟩
                · first
                    | omega
                    | exact Or.inr ⟨rfl, (fun y => q2 y.1), (fun y => q4 y.1)⟩
            rw [yj]
            refine ih (j + 1) (by omega) (by omega) _ ?_
            rw [show Int.toNat (j + 1) = Int.toNat j + 1 by omega, hs, yw_s (n + 0) (by omega) (by omega), hn]
            omega
          · have yj : yw (j + 1) = j + 1 := yw_s (j + 1) (by omega) (by omega)
            have nb := @yDw_nb (yFlc g) (g 113) (Int.toNat k) (Int.toNat j)
            have ej : yAm g (Int.toNat j) = Int.toNat (g 112 (Int.toNat j)) := rfl
            have hs : yDw (yFlc g) (g 113) (Int.toNat k) (yDnL (Int.toNat j + 1)) = 1 + yDw (yFlc g) (g 113) (Int.toNat k) (yDnL (Int.toNat j)) := by
              refine yDs ?_
              rw [ek, ej, hv]
              rcases p50 with ⟨q1, q2⟩ | ⟨q1, q2⟩
              · rcases p100 with ⟨q3, q4⟩ | ⟨q3, q4⟩
                · first
                    | omega
                    | exact Or.inl ⟨rfl, Or.inl ⟨q2, by omega⟩⟩
                    | exact Or.inl ⟨rfl, Or.inr ⟨q4, by omega⟩⟩
                    | exact Or.inr ⟨rfl, (fun y => by have y2 := y.2; omega), (fun y => by have y2 := y.2; omega)⟩
                · first
                    | omega
                    | exact Or.inl ⟨rfl, Or.inl ⟨q2, by omega⟩⟩
                    | exact Or.inr ⟨rfl, (fun y => by have y2 := y.2; omega), (fun y => q4 y.1)⟩
              · rcases p100 with ⟨q3, q4⟩ | ⟨q3, q4⟩
                · first
                    | omega
                    | exact Or.inl ⟨rfl, Or.inr ⟨q4, by omega⟩⟩
                    | exact Or.inr ⟨rfl, (fun y => q2 y.1), (fun y => by have y2 := y.2; omega)⟩
                · first
                    | omega
                    | exact Or.inr ⟨rfl, (fun y => q2 y.1), (fun y => q4 y.1)⟩
            rw [yj]
            refine ih (j + 1) (by omega) (by omega) _ ?_
            rw [show Int.toNat (j + 1) = Int.toNat j + 1 by omega, hs, yw_s (n + 1) (by omega) (by omega), hn]
            omega
      · refine ⟨(by have gj := (hG.2 (Int.toNat j) (by omega)).1; omega), ?_⟩
        refine ⟨fun h13 => ?_, fun h13 => ?_⟩
        · have yj : yw (j + 1) = j + 1 := yw_s (j + 1) (by omega) (by omega)
          have nb := @yDw_nb (yFlc g) (g 113) (Int.toNat k) (Int.toNat j)
          have ej : yAm g (Int.toNat j) = Int.toNat (g 112 (Int.toNat j)) := rfl
          have hs : yDw (yFlc g) (g 113) (Int.toNat k) (yDnL (Int.toNat j + 1)) = 1 + yDw (yFlc g) (g 113) (Int.toNat k) (yDnL (Int.toNat j)) := by
            refine yDs ?_
            rw [ek, ej, hv]
            rcases p50 with ⟨q1, q2⟩ | ⟨q1, q2⟩
            · first
                | omega
                | exact Or.inl ⟨rfl, Or.inl ⟨q2, by omega⟩⟩
                | exact Or.inr ⟨rfl, (fun y => by have y2 := y.2; omega), (fun y => by have y2 := y.2; omega)⟩
            · first
                | omega
                | exact Or.inr ⟨rfl, (fun y => q2 y.1), (fun y => by have y2 := y.2; omega)⟩
          rw [yj]
          refine ih (j + 1) (by omega) (by omega) _ ?_
          rw [show Int.toNat (j + 1) = Int.toNat j + 1 by omega, hs, yw_s (n + 1) (by omega) (by omega), hn]
          omega
        · refine ⟨(by have gj := (hG.2 (Int.toNat j) (by omega)).1; omega), ?_⟩
          refine ⟨_, _, rfl, (by have gj := (hG.2 (Int.toNat j) (by omega)).1; omega), (by have gj := (hG.2 (Int.toNat j) (by omega)).1; omega), ?_⟩
          intro r16 p170
          refine ⟨fun h18 => ?_, fun h18 => ?_⟩
          · have yj : yw (j + 1) = j + 1 := yw_s (j + 1) (by omega) (by omega)
            have nb := @yDw_nb (yFlc g) (g 113) (Int.toNat k) (Int.toNat j)
            have ej : yAm g (Int.toNat j) = Int.toNat (g 112 (Int.toNat j)) := rfl
            have hs : yDw (yFlc g) (g 113) (Int.toNat k) (yDnL (Int.toNat j + 1)) = 0 + yDw (yFlc g) (g 113) (Int.toNat k) (yDnL (Int.toNat j)) := by
              refine yDs ?_
              rw [ek, ej, hv]
              rcases p50 with ⟨q1, q2⟩ | ⟨q1, q2⟩
              · rcases p170 with ⟨q3, q4⟩ | ⟨q3, q4⟩
                · first
                    | omega
                    | exact Or.inl ⟨rfl, Or.inl ⟨q2, by omega⟩⟩
                    | exact Or.inl ⟨rfl, Or.inr ⟨q4, by omega⟩⟩
                    | exact Or.inr ⟨rfl, (fun y => by have y2 := y.2; omega), (fun y => by have y2 := y.2; omega)⟩
                · first
                    | omega
                    | exact Or.inl ⟨rfl, Or.inl ⟨q2, by omega⟩⟩
                    | exact Or.inr ⟨rfl, (fun y => by have y2 := y.2; omega), (fun y => q4 y.1)⟩
              · rcases p170 with ⟨q3, q4⟩ | ⟨q3, q4⟩
                · first
                    | omega
                    | exact Or.inl ⟨rfl, Or.inr ⟨q4, by omega⟩⟩
                    | exact Or.inr ⟨rfl, (fun y => q2 y.1), (fun y => by have y2 := y.2; omega)⟩
                · first
                    | omega
                    | exact Or.inr ⟨rfl, (fun y => q2 y.1), (fun y => q4 y.1)⟩
            rw [yj]
            refine ih (j + 1) (by omega) (by omega) _ ?_
            rw [show Int.toNat (j + 1) = Int.toNat j + 1 by omega, hs, yw_s (n + 0) (by omega) (by omega), hn]
            omega
          · refine ⟨(by have gj := (hG.2 (Int.toNat j) (by omega)).1; omega), ?_⟩
            refine ⟨fun h19 => ?_, fun h19 => ?_⟩
            · have yj : yw (j + 1) = j + 1 := yw_s (j + 1) (by omega) (by omega)
              have nb := @yDw_nb (yFlc g) (g 113) (Int.toNat k) (Int.toNat j)
              have ej : yAm g (Int.toNat j) = Int.toNat (g 112 (Int.toNat j)) := rfl
              have hs : yDw (yFlc g) (g 113) (Int.toNat k) (yDnL (Int.toNat j + 1)) = 0 + yDw (yFlc g) (g 113) (Int.toNat k) (yDnL (Int.toNat j)) := by
                refine yDs ?_
                rw [ek, ej, hv]
                rcases p50 with ⟨q1, q2⟩ | ⟨q1, q2⟩
                · rcases p170 with ⟨q3, q4⟩ | ⟨q3, q4⟩
                  · first
                      | omega
                      | exact Or.inl ⟨rfl, Or.inl ⟨q2, by omega⟩⟩
                      | exact Or.inl ⟨rfl, Or.inr ⟨q4, by omega⟩⟩
                      | exact Or.inr ⟨rfl, (fun y => by have y2 := y.2; omega), (fun y => by have y2 := y.2; omega)⟩
                  · first
                      | omega
                      | exact Or.inl ⟨rfl, Or.inl ⟨q2, by omega⟩⟩
                      | exact Or.inr ⟨rfl, (fun y => by have y2 := y.2; omega), (fun y => q4 y.1)⟩
                · rcases p170 with ⟨q3, q4⟩ | ⟨q3, q4⟩
                  · first
                      | omega
                      | exact Or.inl ⟨rfl, Or.inr ⟨q4, by omega⟩⟩
                      | exact Or.inr ⟨rfl, (fun y => q2 y.1), (fun y => by have y2 := y.2; omega)⟩
                  · first
                      | omega
                      | exact Or.inr ⟨rfl, (fun y => q2 y.1), (fun y => q4 y.1)⟩
              rw [yj]
              refine ih (j + 1) (by omega) (by omega) _ ?_
              rw [show Int.toNat (j + 1) = Int.toNat j + 1 by omega, hs, yw_s (n + 0) (by omega) (by omega), hn]
              omega
            · have yj : yw (j + 1) = j + 1 := yw_s (j + 1) (by omega) (by omega)
              have nb := @yDw_nb (yFlc g) (g 113) (Int.toNat k) (Int.toNat j)
              have ej : yAm g (Int.toNat j) = Int.toNat (g 112 (Int.toNat j)) := rfl
              have hs : yDw (yFlc g) (g 113) (Int.toNat k) (yDnL (Int.toNat j + 1)) = 1 + yDw (yFlc g) (g 113) (Int.toNat k) (yDnL (Int.toNat j)) := by
                refine yDs ?_
                rw [ek, ej, hv]
                rcases p50 with ⟨q1, q2⟩ | ⟨q1, q2⟩
                · rcases p170 with ⟨q3, q4⟩ | ⟨q3, q4⟩
                  · first
                      | omega
                      | exact Or.inl ⟨rfl, Or.inl ⟨q2, by omega⟩⟩
                      | exact Or.inl ⟨rfl, Or.inr ⟨q4, by omega⟩⟩
                      | exact Or.inr ⟨rfl, (fun y => by have y2 := y.2; omega), (fun y => by have y2 := y.2; omega)⟩
                  · first
                      | omega
                      | exact Or.inl ⟨rfl, Or.inl ⟨q2, by omega⟩⟩
                      | exact Or.inr ⟨rfl, (fun y => by have y2 := y.2; omega), (fun y => q4 y.1)⟩
                · rcases p170 with ⟨q3, q4⟩ | ⟨q3, q4⟩
                  · first
                      | omega
                      | exact Or.inl ⟨rfl, Or.inr ⟨q4, by omega⟩⟩
                      | exact Or.inr ⟨rfl, (fun y => q2 y.1), (fun y => by have y2 := y.2; omega)⟩
                  · first
                      | omega
                      | exact Or.inr ⟨rfl, (fun y => q2 y.1), (fun y => q4 y.1)⟩
              rw [yj]
              refine ih (j + 1) (by omega) (by omega) _ ?_
              rw [show Int.toNat (j + 1) = Int.toNat j + 1 by omega, hs, yw_s (n + 1) (by omega) (by omega), hn]
              omega
set_option maxRecDepth 8000 in
theorem yl_CF6 {K : List yV → yM → Prop} {Y : yNx} {g : yM} {k p c : Int} (hY : yCl zpD146 (zpZ, zpRS, zpP12, zpMT, [yC_LTO, yC_ILT, yC_CF5], (8, 224), 0) K Y) (hG : yFgd g) (hk : (0 ≤ k ∧ k < g 90 36) ∧ g 90 36 - k ≤ 6) (hc : c = g 112 (Int.toNat k)) (hp : p = yCw (yFlc g) (g 113) (yDnL (Int.toNat k)) ∧ 0 ≤ p ∧ p ≤ 12 * k) (hF : 0 ≤ g 90 37 ∧ g 90 37 ≤ 99) (hK : ∀ g' : yM, yTy zpZ g' → yFk k g g' → yFrs g g' (yCo g k) → K [] g') : ∀ (d : Nat) (i : Int), i + d = 2 * g 90 36 → 0 ≤ i → ∀ (m : yM) (y5 y6 y7 : yV), yTy zpZ m → yFk k g m → yFrs g m (yPi g k (Int.toNat i)) → Y 33 [(3, 90), (1, k), (1, p), (1, c), (1, i), y5, y6, y7] [] m := by
  have h36 := hG.1
  have gk := hG.2 (Int.toNat k) (by omega)
  have ek : yAm g (Int.toNat k) = Int.toNat c := by rw [hc]; rfl
  rw [ek] at gk
  intro d
  induction d with
  | zero =>
    intro i hd h0 m y5 y6 y7 hT f hr
    have z := f.z
    have e36 := z.mn
    have e2w : yw (2 * m 90 36) = 2 * m 90 36 := yw_s (2 * m 90 36) (by omega) (by omega)
    have e104 : m 104 (Int.toNat c) = g 104 (Int.toNat c) := z 104 _ (by decide) (by omega)
    have eEk : m 110 (Int.toNat c) = g 110 (Int.toNat c) := z.ea _
    have eLk : yMl m (Int.toNat c) = yMl g (Int.toNat c) := z.ml _
    refine yrun_ok (sp := fun pc => Nat.beq pc 33 || Nat.beq pc 121) hY 42 33 _ [] m ?_
    show (((yw (2 * (m 90 36))) ≤ i → (K [] m)) ∧ (¬ ((yw (2 * (m 90 36))) ≤ i) → ((2 : Int) ≠ 0 ∧ (((yb (fun x y => x - x / y * y) i 2) ≠ 0 → ((2 : Int) ≠ 0 ∧ (((0 : Int) ≤ (yb (fun x y => x / y) i 2) ∧ (yb (fun x y => x / y) i 2) < ((6 : Nat) : Int)) ∧ (∃ (w3 : Int), [(3, 90), (1, (m 112 (Int.toNat (yb (fun x y => x / y) i 2))))] = [(3, 90), (1, w3)] ∧ (0 ≤ w3 ∧ w3 < 40) ∧ (0 ≤ m 104 (Int.toNat w3) ∧ m 104 (Int.toNat w3) ≤ 5) ∧ (∀ (r4 : Int), (r4 = yMl m (Int.toNat w3)) → (((0 : Int) ≤ c ∧ c < ((40 : Nat) : Int)) ∧ ((r4 < (m 110 (Int.toNat c)) → (Y 33 [(3, 90), (1, k), (1, p), (1, c), (1, (yw (i + 1))), (1, r4), y6, y7] [] m)) ∧ (¬ (r4 < (m 110 (Int.toNat c))) → (∃ (w7 : Int), [(3, 90), (1, c)] = [(3, 90), (1, w7)] ∧ (0 ≤ w7 ∧ w7 < 40) ∧ (0 ≤ m 104 (Int.toNat w7) ∧ m 104 (Int.toNat w7) ≤ 5) ∧ (∀ (r8 : Int), (r8 = yMl m (Int.toNat w7)) → ((r4 ≤ r8 → (((0 : Int) ≤ k ∧ k < ((6 : Nat) : Int)) ∧ (Y 121 [(3, 90), (1, k), (1, p), (1, c), (1, i), (1, r4), (1, p), (1, 0)] [] (yset m 113 (Int.toNat k) r4)))) ∧ (¬ (r4 ≤ r8) → (Y 33 [(3, 90), (1, k), (1, p), (1, c), (1, (yw (i + 1))), (1, r4), y6, y7] [] m))))))))))))) ∧ (¬ ((yb (fun x y => x - x / y * y) i 2) ≠ 0) → ((2 : Int) ≠ 0 ∧ (((0 : Int) ≤ (yb (fun x y => x / y) i 2) ∧ (yb (fun x y => x / y) i 2) < ((6 : Nat) : Int)) ∧ (((0 : Int) ≤ (m 112 (Int.toNat (yb (fun x y => x / y) i 2))) ∧ (m 112 (Int.toNat (yb (fun x y => x / y) i 2))) < ((40 : Nat) : Int)) ∧ (((0 : Int) ≤ c ∧ c < ((40 : Nat) : Int)) ∧ (((m 110 (Int.toNat (m 112 (Int.toNat (yb (fun x y => x / y) i 2))))) < (m 110 (Int.toNat c)) → (Y 33 [(3, 90), (1, k), (1, p), (1, c), (1, (yw (i + 1))), (1, (m 110 (Int.toNat (m 112 (Int.toNat (yb (fun x y => x / y) i 2)))))), y6, y7] [] m)) ∧ (¬ ((m 110 (Int.toNat (m 112 (Int.toNat (yb (fun x y => x / y) i 2))))) < (m 110 (Int.toNat c))) → (∃ (w12 : Int), [(3, 90), (1, c)] = [(3, 90), (1, w12)] ∧ (0 ≤ w12 ∧ w12 < 40) ∧ (0 ≤ m 104 (Int.toNat w12) ∧ m 104 (Int.toNat w12) ≤ 5) ∧ (∀ (r13 : Int), (r13 = yMl m (Int.toNat w12)) → (((m 110 (Int.toNat (m 112 (Int.toNat (yb (fun x y => x / y) i 2))))) ≤ r13 → (((0 : Int) ≤ k ∧ k < ((6 : Nat) : Int)) ∧ (Y 121 [(3, 90), (1, k), (1, p), (1, c), (1, i), (1, (m 110 (Int.toNat (m 112 (Int.toNat (yb (fun x y => x / y) i 2)))))), (1, p), (1, 0)] [] (yset m 113 (Int.toNat k) (m 110 (Int.toNat (m 112 (Int.toNat (yb (fun x y => x / y) i 2))))))))) ∧ (¬ ((m 110 (Int.toNat (m 112 (Int.toNat (yb (fun x y => x / y) i 2))))) ≤ r13) → (Y 33 [(3, 90), (1, k), (1, p), (1, c), (1, (yw (i + 1))), (1, (m 110 (Int.toNat (m 112 (Int.toNat (yb (fun x y => x / y) i 2)))))), y6, y7] [] m))))))))))))))))
    refine ⟨fun h1 => ?_, fun h1 => ?_⟩
    · obtain rfl : i = 2 * g 90 36 := by omega
      exact hK m hT f (hr.al hk.1)
    · refine ⟨(by omega), ?_⟩
      refine ⟨fun h2 => ?_, fun h2 => ?_⟩
      · refine ⟨(by omega), ?_⟩
        refine ⟨(by omega), ?_⟩
        refine ⟨_, rfl, (by omega), (by omega), ?_⟩
        intro r4 p50
        refine ⟨(by omega), ?_⟩
        refine ⟨fun h6 => ?_, fun h6 => ?_⟩
        · omega
        · refine ⟨_, rfl, (by omega), (by omega), ?_⟩
          intro r8 p90
          refine ⟨fun h10 => ?_, fun h10 => ?_⟩
          · refine ⟨(by omega), ?_⟩
            omega
          · omega
      · refine ⟨(by omega), ?_⟩
        refine ⟨(by omega), ?_⟩
        refine ⟨(by omega), ?_⟩
        refine ⟨(by omega), ?_⟩
        refine ⟨fun h11 => ?_, fun h11 => ?_⟩
        · omega
        · refine ⟨_, rfl, (by omega), (by omega), ?_⟩
          intro r13 p140
          refine ⟨fun h15 => ?_, fun h15 => ?_⟩
          · refine ⟨(by omega), ?_⟩
            omega
          · omega
  | succ d ih =>
    intro i hd h0 m y5 y6 y7 hT f hr
    have z := f.z
    have e36 := z.mn
    have e2w : yw (2 * m 90 36) = 2 * m 90 36 := yw_s (2 * m 90 36) (by omega) (by omega)
    have e104 : m 104 (Int.toNat c) = g 104 (Int.toNat c) := z 104 _ (by decide) (by omega)
    have eEk : m 110 (Int.toNat c) = g 110 (Int.toNat c) := z.ea _
    have eLk : yMl m (Int.toNat c) = yMl g (Int.toNat c) := z.ml _
    refine yrun_ok (sp := fun pc => Nat.beq pc 33 || Nat.beq pc 121) hY 42 33 _ [] m ?_
    show (((yw (2 * (m 90 36))) ≤ i → (K [] m)) ∧ (¬ ((yw (2 * (m 90 36))) ≤ i) → ((2 : Int) ≠ 0 ∧ (((yb (fun x y => x - x / y * y) i 2) ≠ 0 → ((2 : Int) ≠ 0 ∧ (((0 : Int) ≤ (yb (fun x y => x / y) i 2) ∧ (yb (fun x y => x / y) i 2) < ((6 : Nat) : Int)) ∧ (∃ (w3 : Int), [(3, 90), (1, (m 112 (Int.toNat (yb (fun x y => x / y) i 2))))] = [(3, 90), (1, w3)] ∧ (0 ≤ w3 ∧ w3 < 40) ∧ (0 ≤ m 104 (Int.toNat w3) ∧ m 104 (Int.toNat w3) ≤ 5) ∧ (∀ (r4 : Int), (r4 = yMl m (Int.toNat w3)) → (((0 : Int) ≤ c ∧ c < ((40 : Nat) : Int)) ∧ ((r4 < (m 110 (Int.toNat c)) → (Y 33 [(3, 90), (1, k), (1, p), (1, c), (1, (yw (i + 1))), (1, r4), y6, y7] [] m)) ∧ (¬ (r4 < (m 110 (Int.toNat c))) → (∃ (w7 : Int), [(3, 90), (1, c)] = [(3, 90), (1, w7)] ∧ (0 ≤ w7 ∧ w7 < 40) ∧ (0 ≤ m 104 (Int.toNat w7) ∧ m 104 (Int.toNat w7) ≤ 5) ∧ (∀ (r8 : Int), (r8 = yMl m (Int.toNat w7)) → ((r4 ≤ r8 → (((0 : Int) ≤ k ∧ k < ((6 : Nat) : Int)) ∧ (Y 121 [(3, 90), (1, k), (1, p), (1, c), (1, i), (1, r4), (1, p), (1, 0)] [] (yset m 113 (Int.toNat k) r4)))) ∧ (¬ (r4 ≤ r8) → (Y 33 [(3, 90), (1, k), (1, p), (1, c), (1, (yw (i + 1))), (1, r4), y6, y7] [] m))))))))))))) ∧ (¬ ((yb (fun x y => x - x / y * y) i 2) ≠ 0) → ((2 : Int) ≠ 0 ∧ (((0 : Int) ≤ (yb (fun x y => x / y) i 2) ∧ (yb (fun x y => x / y) i 2) < ((6 : Nat) : Int)) ∧ (((0 : Int) ≤ (m 112 (Int.toNat (yb (fun x y => x / y) i 2))) ∧ (m 112 (Int.toNat (yb (fun x y => x / y) i 2))) < ((40 : Nat) : Int)) ∧ (((0 : Int) ≤ c ∧ c < ((40 : Nat) : Int)) ∧ (((m 110 (Int.toNat (m 112 (Int.toNat (yb (fun x y => x / y) i 2))))) < (m 110 (Int.toNat c)) → (Y 33 [(3, 90), (1, k), (1, p), (1, c), (1, (yw (i + 1))), (1, (m 110 (Int.toNat (m 112 (Int.toNat (yb (fun x y => x / y) i 2)))))), y6, y7] [] m)) ∧ (¬ ((m 110 (Int.toNat (m 112 (Int.toNat (yb (fun x y => x / y) i 2))))) < (m 110 (Int.toNat c))) → (∃ (w12 : Int), [(3, 90), (1, c)] = [(3, 90), (1, w12)] ∧ (0 ≤ w12 ∧ w12 < 40) ∧ (0 ≤ m 104 (Int.toNat w12) ∧ m 104 (Int.toNat w12) ≤ 5) ∧ (∀ (r13 : Int), (r13 = yMl m (Int.toNat w12)) → (((m 110 (Int.toNat (m 112 (Int.toNat (yb (fun x y => x / y) i 2))))) ≤ r13 → (((0 : Int) ≤ k ∧ k < ((6 : Nat) : Int)) ∧ (Y 121 [(3, 90), (1, k), (1, p), (1, c), (1, i), (1, (m 110 (Int.toNat (m 112 (Int.toNat (yb (fun x y => x / y) i 2)))))), (1, p), (1, 0)] [] (yset m 113 (Int.toNat k) (m 110 (Int.toNat (m 112 (Int.toNat (yb (fun x y => x / y) i 2))))))))) ∧ (¬ ((m 110 (Int.toNat (m 112 (Int.toNat (yb (fun x y => x / y) i 2))))) ≤ r13) → (Y 33 [(3, 90), (1, k), (1, p), (1, c), (1, (yw (i + 1))), (1, (m 110 (Int.toNat (m 112 (Int.toNat (yb (fun x y => x / y) i 2)))))), y6, y7] [] m))))))))))))))))
    refine ⟨fun h1 => ?_, fun h1 => ?_⟩
    · omega
    · refine ⟨(by decide), ?_⟩
      refine ⟨fun h2 => ?_, fun h2 => ?_⟩
      · refine ⟨(by decide), ?_⟩
        refine ⟨(by
      obtain ⟨d1, d2⟩ := yH2 (i := i) (by omega)
      have gi := (z.gd hG).2 (Int.toNat i / 2) (by omega)
      first
        | omega
        | (rw [d1]; omega)
        | (rw [d1, Int.toNat_natCast]; exact gi.1)
        | (rw [d1, Int.toNat_natCast]; exact gi.2)), ?_⟩
        refine ⟨_, rfl, (by
      obtain ⟨d1, d2⟩ := yH2 (i := i) (by omega)
      have gi := (z.gd hG).2 (Int.toNat i / 2) (by omega)
      first
        | omega
        | (rw [d1]; omega)
        | (rw [d1, Int.toNat_natCast]; exact gi.1)
        | (rw [d1, Int.toNat_natCast]; exact gi.2)), (by
      obtain ⟨d1, d2⟩ := yH2 (i := i) (by omega)
      have gi := (z.gd hG).2 (Int.toNat i / 2) (by omega)
      first
        | omega
        | (rw [d1]; omega)
        | (rw [d1, Int.toNat_natCast]; exact gi.1)
        | (rw [d1, Int.toNat_natCast]; exact gi.2)), ?_⟩
        intro r4 p50
        refine ⟨(by
      obtain ⟨d1, d2⟩ := yH2 (i := i) (by omega)
      have gi := (z.gd hG).2 (Int.toNat i / 2) (by omega)
      first
        | omega
        | (rw [d1]; omega)
        | (rw [d1, Int.toNat_natCast]; exact gi.1)
        | (rw [d1, Int.toNat_natCast]; exact gi.2)), ?_⟩
        refine ⟨fun h6 => ?_, fun h6 => ?_⟩
        · obtain ⟨d1, d2⟩ := yH2 (i := i) (by omega)
          have gi := (z.gd hG).2 (Int.toNat i / 2) (by omega)
          have yi : yw (i + 1) = i + 1 := yw_s (i + 1) (by omega) (by omega)
          have ti : Int.toNat (i + 1) = Int.toNat i + 1 := by omega
          rw [d2] at h2
          have eA : Int.toNat (m 112 (Int.toNat i / 2)) = yAm g (Int.toNat i / 2) := z.am _
          have hV : r4 = yVi g (Int.toNat i) := by
            have e := p50
            rw [d1, Int.toNat_natCast, eA, z.ml] at e
            rw [e]
            unfold yVi
            rw [if_neg (by omega)]
          rw [yi]
          refine ih (i + 1) (by omega) (by omega) m _ _ _ hT f ?_
          rw [ti]
          exact hr.sk hk.1 (fun y => by rw [ek, ← hV] at y; omega)
        · refine ⟨_, rfl, (by
      obtain ⟨d1, d2⟩ := yH2 (i := i) (by omega)
      have gi := (z.gd hG).2 (Int.toNat i / 2) (by omega)
      first
        | omega
        | (rw [d1]; omega)
        | (rw [d1, Int.toNat_natCast]; exact gi.1)
        | (rw [d1, Int.toNat_natCast]; exact gi.2)), (by
      obtain ⟨d1, d2⟩ := yH2 (i := i) (by omega)
      have gi := (z.gd hG).2 (Int.toNat i / 2) (by omega)
      first
        | omega
        | (rw [d1]; omega)
        | (rw [d1, Int.toNat_natCast]; exact gi.1)
        | (rw [d1, Int.toNat_natCast]; exact gi.2)), ?_⟩
          intro r8 p90
          refine ⟨fun h10 => ?_, fun h10 => ?_⟩
          · refine ⟨(by
      obtain ⟨d1, d2⟩ := yH2 (i := i) (by omega)
      have gi := (z.gd hG).2 (Int.toNat i / 2) (by omega)
      first
        | omega
        | (rw [d1]; omega)
        | (rw [d1, Int.toNat_natCast]; exact gi.1)
        | (rw [d1, Int.toNat_natCast]; exact gi.2)), ?_⟩
            obtain ⟨d1, d2⟩ := yH2 (i := i) (by omega)
            have gi := (z.gd hG).2 (Int.toNat i / 2) (by omega)
            have yi : yw (i + 1) = i + 1 := yw_s (i + 1) (by omega) (by omega)
            have ti : Int.toNat (i + 1) = Int.toNat i + 1 := by omega
            rw [d2] at h2
            have eA : Int.toNat (m 112 (Int.toNat i / 2)) = yAm g (Int.toNat i / 2) := z.am _
            have hV : r4 = yVi g (Int.toNat i) := by
              have e := p50
              rw [d1, Int.toNat_natCast, eA, z.ml] at e
              rw [e]
              unfold yVi
              rw [if_neg (by omega)]
            have hR : g 110 (yAm g (Int.toNat k)) ≤ yVi g (Int.toNat i) ∧ yVi g (Int.toNat i) ≤ yMl g (yAm g (Int.toNat k)) := by
              rw [ek, ← hV]
              omega
            rw [hV]
            have vr : -2147483648 ≤ yVi g (Int.toNat i) ∧ yVi g (Int.toNat i) ≤ 2147483647 := by
              have r1 := hT.fA (j := Int.toNat c) (List.mem_of_getElem? (i := 62) rfl) (by omega)
              have r2 : -2147483648 ≤ yMl g (Int.toNat c) ∧ yMl g (Int.toNat c) ≤ 2147483647 := yw_rng _
              rw [ek] at hR
              omega
            have fp : yFk k g (yset m 113 (Int.toNat k) (yVi g (Int.toNat i))) := f.put hk.1.1
            have e37 : (yset m 113 (Int.toNat k) (yVi g (Int.toNat i))) 90 37 = m 90 37 := yset_nc (by decide)
            have hr1 := hr.1
            refine yj_CF6 hY (fp.z.gd hG) (by rw [fp.z.mn]; exact hk.1) (by rw [fp.z 112 _ (by decide) (by omega)]; exact hc) yset_eq hp.2 (fun n hn => ?_) (Int.toNat k) 0 (by omega) (by decide) p (by show p = p + 0; omega)
            have hn2 := yCw_nx fp.z (fun j hj => fp.lo hj) hk.1.1 hp.1 hn
            have nb := @yDw_nb (yFlc (yset m 113 (Int.toNat k) (yVi g (Int.toNat i)))) ((yset m 113 (Int.toNat k) (yVi g (Int.toNat i))) 113) (Int.toNat k) (Int.toNat k)
            refine yt_CF6 hY (hT.sA (List.mem_of_getElem? (i := 65) rfl) (by decide +kernel) vr) (fp.z.gd hG) (by rw [fp.z.mn]; exact hk) ⟨hn2, by omega, by omega⟩ (by rw [e37]; omega) (by omega) (fun g3 t1 t2 t3 => ?_)
            refine ih (i + 1) (by omega) (by omega) g3 _ _ _ t1 (fp.tr t2 (by omega)) ?_
            rw [ti]
            exact yFrs.tk hk.1 (by omega) f hr hR t3
          · obtain ⟨d1, d2⟩ := yH2 (i := i) (by omega)
            have gi := (z.gd hG).2 (Int.toNat i / 2) (by omega)
            have yi : yw (i + 1) = i + 1 := yw_s (i + 1) (by omega) (by omega)
            have ti : Int.toNat (i + 1) = Int.toNat i + 1 := by omega
            rw [d2] at h2
            have eA : Int.toNat (m 112 (Int.toNat i / 2)) = yAm g (Int.toNat i / 2) := z.am _
            have hV : r4 = yVi g (Int.toNat i) := by
              have e := p50
              rw [d1, Int.toNat_natCast, eA, z.ml] at e
              rw [e]
              unfold yVi
              rw [if_neg (by omega)]
            rw [yi]
            refine ih (i + 1) (by omega) (by omega) m _ _ _ hT f ?_
            rw [ti]
            exact hr.sk hk.1 (fun y => by rw [ek, ← hV] at y; omega)
      · refine ⟨(by decide), ?_⟩
        refine ⟨(by
      obtain ⟨d1, d2⟩ := yH2 (i := i) (by omega)
      have gi := (z.gd hG).2 (Int.toNat i / 2) (by omega)
      first
        | omega
        | (rw [d1]; omega)
        | (rw [d1, Int.toNat_natCast]; exact gi.1)
        | (rw [d1, Int.toNat_natCast]; exact gi.2)), ?_⟩
        refine ⟨(by
      obtain ⟨d1, d2⟩ := yH2 (i := i) (by omega)
      have gi := (z.gd hG).2 (Int.toNat i / 2) (by omega)
      first
        | omega
        | (rw [d1]; omega)
        | (rw [d1, Int.toNat_natCast]; exact gi.1)
        | (rw [d1, Int.toNat_natCast]; exact gi.2)), ?_⟩
        refine ⟨(by
      obtain ⟨d1, d2⟩ := yH2 (i := i) (by omega)
      have gi := (z.gd hG).2 (Int.toNat i / 2) (by omega)
      first
        | omega
        | (rw [d1]; omega)
        | (rw [d1, Int.toNat_natCast]; exact gi.1)
        | (rw [d1, Int.toNat_natCast]; exact gi.2)), ?_⟩
        refine ⟨fun h11 => ?_, fun h11 => ?_⟩
        · obtain ⟨d1, d2⟩ := yH2 (i := i) (by omega)
          have gi := (z.gd hG).2 (Int.toNat i / 2) (by omega)
          have yi : yw (i + 1) = i + 1 := yw_s (i + 1) (by omega) (by omega)
          have ti : Int.toNat (i + 1) = Int.toNat i + 1 := by omega
          rw [d2] at h2
          have eA : Int.toNat (m 112 (Int.toNat i / 2)) = yAm g (Int.toNat i / 2) := z.am _
          have hV : (m 110 (Int.toNat (m 112 (Int.toNat (yb (fun x y => x / y) i 2))))) = yVi g (Int.toNat i) := by
            rw [d1, Int.toNat_natCast, eA, z.ea]
            unfold yVi
            rw [if_pos (by omega)]
          rw [yi]
          refine ih (i + 1) (by omega) (by omega) m _ _ _ hT f ?_
          rw [ti]
          exact hr.sk hk.1 (fun y => by rw [ek, ← hV] at y; omega)
        · refine ⟨_, rfl, (by
      obtain ⟨d1, d2⟩ := yH2 (i := i) (by omega)
      have gi := (z.gd hG).2 (Int.toNat i / 2) (by omega)
      first
        | omega
        | (rw [d1]; omega)
        | (rw [d1, Int.toNat_natCast]; exact gi.1)
        | (rw [d1, Int.toNat_natCast]; exact gi.2)), (by
      obtain ⟨d1, d2⟩ := yH2 (i := i) (by omega)
      have gi := (z.gd hG).2 (Int.toNat i / 2) (by omega)
      first
        | omega
        | (rw [d1]; omega)
        | (rw [d1, Int.toNat_natCast]; exact gi.1)
        | (rw [d1, Int.toNat_natCast]; exact gi.2)), ?_⟩
          intro r13 p140
          refine ⟨fun h15 => ?_, fun h15 => ?_⟩
          · refine ⟨(by
      obtain ⟨d1, d2⟩ := yH2 (i := i) (by omega)
      have gi := (z.gd hG).2 (Int.toNat i / 2) (by omega)
      first
        | omega
        | (rw [d1]; omega)
        | (rw [d1, Int.toNat_natCast]; exact gi.1)
        | (rw [d1, Int.toNat_natCast]; exact gi.2)), ?_⟩
            obtain ⟨d1, d2⟩ := yH2 (i := i) (by omega)
            have gi := (z.gd hG).2 (Int.toNat i / 2) (by omega)
            have yi : yw (i + 1) = i + 1 := yw_s (i + 1) (by omega) (by omega)
            have ti : Int.toNat (i + 1) = Int.toNat i + 1 := by omega
            rw [d2] at h2
            have eA : Int.toNat (m 112 (Int.toNat i / 2)) = yAm g (Int.toNat i / 2) := z.am _
            have hV : (m 110 (Int.toNat (m 112 (Int.toNat (yb (fun x y => x / y) i 2))))) = yVi g (Int.toNat i) := by
              rw [d1, Int.toNat_natCast, eA, z.ea]
              unfold yVi
              rw [if_pos (by omega)]
            have hR : g 110 (yAm g (Int.toNat k)) ≤ yVi g (Int.toNat i) ∧ yVi g (Int.toNat i) ≤ yMl g (yAm g (Int.toNat k)) := by
              rw [ek, ← hV]
              omega
            rw [hV]
            have vr : -2147483648 ≤ yVi g (Int.toNat i) ∧ yVi g (Int.toNat i) ≤ 2147483647 := by
              have r1 := hT.fA (j := Int.toNat c) (List.mem_of_getElem? (i := 62) rfl) (by omega)
              have r2 : -2147483648 ≤ yMl g (Int.toNat c) ∧ yMl g (Int.toNat c) ≤ 2147483647 := yw_rng _
              rw [ek] at hR
              omega
            have fp : yFk k g (yset m 113 (Int.toNat k) (yVi g (Int.toNat i))) := f.put hk.1.1
            have e37 : (yset m 113 (Int.toNat k) (yVi g (Int.toNat i))) 90 37 = m 90 37 := yset_nc (by decide)
            have hr1 := hr.1
            refine yj_CF6 hY (fp.z.gd hG) (by rw [fp.z.mn]; exact hk.1) (by rw [fp.z 112 _ (by decide) (by omega)]; exact hc) yset_eq hp.2 (fun n hn => ?_) (Int.toNat k) 0 (by omega) (by decide) p (by show p = p + 0; omega)
            have hn2 := yCw_nx fp.z (fun j hj => fp.lo hj) hk.1.1 hp.1 hn
            have nb := @yDw_nb (yFlc (yset m 113 (Int.toNat k) (yVi g (Int.toNat i)))) ((yset m 113 (Int.toNat k) (yVi g (Int.toNat i))) 113) (Int.toNat k) (Int.toNat k)
            refine yt_CF6 hY (hT.sA (List.mem_of_getElem? (i := 65) rfl) (by decide +kernel) vr) (fp.z.gd hG) (by rw [fp.z.mn]; exact hk) ⟨hn2, by omega, by omega⟩ (by rw [e37]; omega) (by omega) (fun g3 t1 t2 t3 => ?_)
            refine ih (i + 1) (by omega) (by omega) g3 _ _ _ t1 (fp.tr t2 (by omega)) ?_
            rw [ti]
            exact yFrs.tk hk.1 (by omega) f hr hR t3
          · obtain ⟨d1, d2⟩ := yH2 (i := i) (by omega)
            have gi := (z.gd hG).2 (Int.toNat i / 2) (by omega)
            have yi : yw (i + 1) = i + 1 := yw_s (i + 1) (by omega) (by omega)
            have ti : Int.toNat (i + 1) = Int.toNat i + 1 := by omega
            rw [d2] at h2
            have eA : Int.toNat (m 112 (Int.toNat i / 2)) = yAm g (Int.toNat i / 2) := z.am _
            have hV : (m 110 (Int.toNat (m 112 (Int.toNat (yb (fun x y => x / y) i 2))))) = yVi g (Int.toNat i) := by
              rw [d1, Int.toNat_natCast, eA, z.ea]
              unfold yVi
              rw [if_pos (by omega)]
            rw [yi]
            refine ih (i + 1) (by omega) (by omega) m _ _ _ hT f ?_
            rw [ti]
            exact hr.sk hk.1 (fun y => by rw [ek, ← hV] at y; omega)
set_option maxRecDepth 8000 in
theorem yv_CF6 {K : List yV → yM → Prop} {Y : yNx} {g : yM} {k p : Int} (hY : yCl zpD146 (zpZ, zpRS, zpP12, zpMT, [yC_LTO, yC_ILT, yC_CF5], (8, 224), 0) K Y) (hr_k : -2147483648 ≤ k ∧ k ≤ 2147483647) (hr_p : -2147483648 ≤ p ∧ p ≤ 2147483647) (hp0 : yTy zpZ g) (hp1 : yFgd g) (hp2 : (0 ≤ k ∧ k ≤ g 90 36) ∧ g 90 36 - k ≤ 6) (hp3 : p = yCw (yFlc g) (g 113) (yDnL (Int.toNat k)) ∧ 0 ≤ p ∧ p ≤ 12 * k) (hp4 : 0 ≤ g 90 37 ∧ g 90 37 ≤ 99) (hK : ∀ (g' : yM), (yTy zpZ g') → (yFk k g g') → (yFrs g g' (yCo g k)) → K [] g') : Y 0 [(3, 90), (1, k), (1, p), (0, 0), (0, 0), (0, 0), (0, 0), (0, 0)] [] g := by
  have h36 := hp1.1
  refine yrun_ok (sp := fun pc => Nat.beq pc 33) hY 16 0 _ [] g ?_
  show ((p < (g 90 37) → ((k ≠ (g 90 36) → (((0 : Int) ≤ k ∧ k < ((6 : Nat) : Int)) ∧ (Y 33 [(3, 90), (1, k), (1, p), (1, (g 112 (Int.toNat k))), (1, 0), (0, 0), (0, 0), (0, 0)] [] g))) ∧ (¬ (k ≠ (g 90 36)) → (K [] (yset g 90 37 p))))) ∧ (¬ (p < (g 90 37)) → (K [] g)))
  refine ⟨fun h1 => ?_, fun h1 => ?_⟩
  · refine ⟨fun h2 => ?_, fun h2 => ?_⟩
    · refine ⟨(by omega), ?_⟩
      exact yl_CF6 hY hp1 ⟨⟨hp2.1.1, by omega⟩, hp2.2⟩ rfl hp3 hp4 hK (Int.toNat (2 * g 90 36)) 0 (by omega) (by decide) g _ _ _ hp0 yFk.rf (yFrs.z hp4.1)
    · exact hK _ (hp0.sO (List.mem_of_getElem? (i := 42) rfl) rfl (by decide +kernel) ⟨by omega, by omega⟩) (fun a b c1 c2 => yset_ne (by omega)) (yFrs.on (by omega) hp2.1.1 hp3.1 hp3.2.1 (by omega))
  · exact hK g hp0 yFk.rf (yFrs.no hp2.1 hp3.1 hp4.1 (by omega))
theorem yM_CF6 {l : Launch} {Ts : List Cond} {cl : List vw_C} {RO : zRO} (H : zHyp Ts cl RO) : yMet l Ts cl zpZ RO zpMT yC_CF6 := ymet_of2 H.1 H.2.1 zpDj H.2.2.1 yRb H.p12 (ymets_cons (yM_LTO H) (ymets_cons (yM_ILT H) (ymets_cons (yM_CF5 H) ymets_nil))) (zrc0 rfl) (plainFor_of_name zpy12) zpDk146 (fun as g K Y h hA hY => by
  obtain ⟨k, p, rfl, hp0, hp1, hp2, hp3, hp4, hK⟩ := h
  exact yv_CF6 hY (yAr1 hA (by simp)) (yAr1 hA (by simp)) hp0 hp1 hp2 hp3 hp4 hK)
theorem yFlc_i {g : yM} {p q : Nat} : yFlc g p q = true ↔ yLa g (yAm g p) (yAm g q) := yLb_i
def yBc2 (v i : Int) : Prop := (ycmp (ybl (fun x y => x &&& y) (yShs v i) 1) 0) ≠ 0
def yCl2 (g : yM) (v : Int) : (Nat → Int) → Nat → Nat → Prop := ySl (fun j => yBc2 v j) (fun j => yMf g j ≠ -2) (fun j => g 101 j)
def yOk2 (g : yM) (v : Int) : Prop := 1 ≤ v ∧ yShs v (g 90 22) = 0 ∧ ∃ (k : Nat) (A : Nat → Int), yCl2 g v A (Int.toNat (g 90 22)) k
def yFoR (g : yM) (v r : Int) : Prop := ∃ (n : Nat) (A : Nat → Int) (c : Nat → Nat → Bool), 0 < n ∧ yCl2 g v A (Int.toNat (g 90 22)) n ∧ (∀ p q : Nat, c p q = true ↔ yLa g (Int.toNat (A p)) (Int.toNat (A q))) ∧ (∀ s : Nat → Int, yEnd n (fun j => yMf g (Int.toNat (A j))) (fun j => yMl g (Int.toNat (A j))) s → r ≤ yCw c s (yDnL n)) ∧ (r = 99 ∨ ∃ s : Nat → Int, yEnd n (fun j => yMf g (Int.toNat (A j))) (fun j => yMl g (Int.toNat (A j))) s ∧ r = yCw c s (yDnL n))
def yFo (g m : yM) : Prop := ∀ a b : Nat, a ≠ 110 → a ≠ 111 → a ≠ 112 → a ≠ 113 → ¬ (a = 90 ∧ (b = 36 ∨ b = 37)) → m a b = g a b
theorem yFo.rf {g : yM} : yFo g g := fun _ _ _ _ _ _ _ => rfl
theorem yFo.fd {g m : yM} (h : yFd g m) : yFo g m := fun a b c1 c2 _ _ _ => h.2.1 a b c1 c2
theorem yFo.w {g m : yM} (h : yFo g m) {q j : Nat} {v : Int} (hq : q = 112 ∨ q = 113 ∨ (q = 90 ∧ (j = 36 ∨ j = 37))) : yFo g (yset m q j v) := fun a b c1 c2 c3 c4 c5 => (yset_ne (by omega)).trans (h a b c1 c2 c3 c4 c5)
theorem yFo.la {g m : yM} (h : yFo g m) (p q : Nat) : yLa m p q ↔ yLa g p q := by
  have e1 : ∀ x, m 101 x = g 101 x := fun x => h 101 x (by decide) (by decide) (by decide) (by decide) (by omega)
  have e2 : m 90 11 = g 90 11 := h 90 11 (by decide) (by decide) (by decide) (by decide) (by decide)
  have e3 : ∀ x, m 107 x = g 107 x := fun x => h 107 x (by decide) (by decide) (by decide) (by decide) (by omega)
  have e4 : ∀ x, m 91 x = g 91 x := fun x => h 91 x (by decide) (by decide) (by decide) (by decide) (by omega)
  unfold yLa
  rw [e1, e1, e2, e3, e3, e4, e4, e4]
theorem yFo.ml {g m : yM} (h : yFo g m) (c : Nat) : yMl m c = yMl g c := by
  have e1 : ∀ x, m 91 x = g 91 x := fun x => h 91 x (by decide) (by decide) (by decide) (by decide) (by omega)
  unfold yMl
  rw [h 102 c (by decide) (by decide) (by decide) (by decide) (by omega), h 104 c (by decide) (by decide) (by decide) (by decide) (by omega), e1]
theorem ySl_p {B : Nat → Prop} {st : Nat → Prop} {dy : Nat → Int} {A : Nat → Int} : ∀ (N k : Nat), ySl B st dy A N k → ∀ i : Nat, i < N → B i → 0 < k
  | 0, _, _, i, hi, _ => absurd hi (Nat.not_lt_zero i)
  | N + 1, k, h, i, hi, hB => by
    obtain ⟨k0, a1, a2⟩ := h
    by_cases c : i = N
    · rw [c] at hB
      rcases a2 with ⟨p1, p2, p3, p4, p5, p6⟩ | ⟨p1, p2⟩
      · omega
      · exact absurd hB p1
    · have ih := ySl_p N k0 a1 i (by omega) hB
      rcases a2 with ⟨p1, p2, p3, p4, p5, p6⟩ | ⟨p1, p2⟩ <;> omega
theorem yBc2_v {v : Int} {i : Nat} (hv : 0 ≤ v ∧ v ≤ 9223372036854775807) (hi : i < 64) : yBc2 v i ↔ (Int.toNat v / 2 ^ i) % 2 = 1 := by
  have e := yShs_p (v := v) (i := (i : Int)) hv ⟨by omega, by omega⟩
  rw [Int.toNat_natCast] at e
  have le : Int.toNat v / 2 ^ i ≤ Int.toNat v := Nat.div_le_self _ _
  have e2 := yBn_v (w := Int.toNat v / 2 ^ i) (by omega)
  have e3 := ycmp_s ((Int.toNat v / 2 ^ i % 2 : Nat) : Int) 0
  unfold yBc2
  rw [e, e2]
  omega
/-- one at least is told -/
theorem yCl2_p {g : yM} {v : Int} {A : Nat → Int} {k : Nat} (hv : 1 ≤ v ∧ v ≤ 9223372036854775807) (hn : 0 ≤ g 90 22 ∧ g 90 22 ≤ 40) (hz : yShs v (g 90 22) = 0) (h : yCl2 g v A (Int.toNat (g 90 22)) k) : 0 < k := by
  have e := yShs_p (v := v) (i := g 90 22) ⟨by omega, hv.2⟩ ⟨hn.1, by omega⟩
  rw [hz] at e
  have pp : 0 < 2 ^ Int.toNat (g 90 22) := Nat.pow_pos (by decide)
  have lt : Int.toNat v < 2 ^ Int.toNat (g 90 22) := by
    rcases Nat.div_eq_zero_iff.mp (show Int.toNat v / 2 ^ Int.toNat (g 90 22) = 0 by omega) with z | z
    · omega
    · exact z
  obtain ⟨i, i1, i2⟩ := yDv _ lt (by omega)
  exact ySl_p _ _ h i i1 ((yBc2_v ⟨by omega, hv.2⟩ (by omega)).mpr i2)
theorem yFw_m {g m n : yM} {v : Int} {k : Nat} (f : yFo g m) (hf : ∀ c : Nat, (c : Int) < g 90 22 → m 110 c = yMf g c) (hn : 0 ≤ g 90 22) (hk : m 90 36 = k) (k0 : 0 < k) (hu : yCl2 g v (m 112) (Int.toNat (g 90 22)) k) (t3 : yFrs (yset m 90 37 99) n (yCo (yset m 90 37 99) 0)) : yFoR g v (n 90 37) := by
  have fw : yFo g (yset m 90 37 99) := f.w (by omega)
  have hb := ySl_b _ _ hu
  have e36 : (yset m 90 37 99) 90 36 = k := (yset_nj (by decide)).trans hk
  have e37 : (yset m 90 37 99) 90 37 = 99 := yset_eq
  have e12 : ∀ j : Nat, yAm (yset m 90 37 99) j = Int.toNat (m 112 j) := fun j => by
    unfold yAm
    rw [yset_nc (by decide)]
  have eE : ∀ j : Nat, j < k → (yset m 90 37 99) 110 (yAm (yset m 90 37 99) j) = yMf g (Int.toNat (m 112 j)) := fun j hj => by
    have z := (hb.2.2 j hj).1
    rw [e12, yset_nc (by decide)]
    exact hf _ (by omega)
  have eL : ∀ j : Nat, yMl (yset m 90 37 99) (yAm (yset m 90 37 99) j) = yMl g (Int.toNat (m 112 j)) := fun j => by
    rw [e12]
    exact fw.ml _
  have eC : ∀ s : Nat → Int, yFcs (yset m 90 37 99) s = yCw (yFlc (yset m 90 37 99)) s (yDnL k) := fun s => by
    unfold yFcs
    rw [e36, Int.toNat_natCast]
  have eP : ∀ s : Nat → Int, yEnd k (fun j => yMf g (Int.toNat (m 112 j))) (fun j => yMl g (Int.toNat (m 112 j))) s ↔ yCo (yset m 90 37 99) 0 s := fun s => by
    constructor
    · intro h
      refine ⟨fun j hj => absurd hj (by omega), fun j _ h2 => ?_⟩
      rw [e36] at h2
      obtain ⟨⟨a1, a2⟩, i, a3, a4⟩ := h j (by omega)
      have a1 : yMf g (Int.toNat (m 112 j)) ≤ s j := a1
      have a2 : s j ≤ yMl g (Int.toNat (m 112 j)) := a2
      have a4 : s j = yMf g (Int.toNat (m 112 i)) ∨ s j = yMl g (Int.toNat (m 112 i)) := a4
      refine ⟨⟨by rw [eE j (by omega)]; exact a1, by rw [eL]; exact a2⟩, i, by rw [e36]; omega, ?_⟩
      rw [eE i a3, eL]
      exact a4
    · intro h j hj
      obtain ⟨⟨a1, a2⟩, i, a3, a4⟩ := h.2 j (by omega) (by rw [e36]; omega)
      rw [e36] at a3
      rw [eE j hj] at a1
      rw [eL] at a2
      rw [eE i (by omega), eL] at a4
      exact ⟨⟨a1, a2⟩, i, by omega, a4⟩
  obtain ⟨u1, u2, u3⟩ := t3
  refine ⟨k, m 112, yFlc (yset m 90 37 99), k0, hu, fun p q => ?_, fun s hs => ?_, ?_⟩
  · rw [yFlc_i, e12, e12]
    exact fw.la _ _
  · rw [← eC]
    exact u2 s ((eP s).mp hs)
  · rcases u3 with u3 | ⟨s, s1, s2⟩
    · exact Or.inl (u3.trans e37)
    · exact Or.inr ⟨s, (eP s).mpr s1, s2.trans (eC s)⟩
def yP_MFW : yPT := fun as g K => ∃ (v : Int), as = [(3, 90), (2, v)] ∧ (yTy zpZ g) ∧ (0 ≤ g 90 22 ∧ g 90 22 ≤ 40) ∧ (0 ≤ g 90 6 ∧ g 90 6 ≤ 12) ∧ (∀ n : Nat, (n : Int) < g 90 22 → (0 ≤ g 104 n ∧ g 104 n ≤ 5) ∧ g 102 n ≤ 719) ∧ (∀ (r : Int) (g' : yM), (yTy zpZ g') → (yFo g g') → (¬ yOk2 g v → r = -1) → (yOk2 g v → yFoR g v r) → K [(1, r)] g')
def yC_MFW : yC := (157, (9, 251), yP_MFW)
set_option maxRecDepth 8000 in
theorem yl_MFW {K : List yV → yM → Prop} {Y : yNx} {g : yM} {v : Int} (hY : yCl zpD157 (zpZ, zpRS, zpP12, zpMT, [yC_FS, yC_CF6], (9, 251), 1) K Y) (hn : 0 ≤ g 90 22 ∧ g 90 22 ≤ 40) (hc : ∀ n : Nat, (n : Int) < g 90 22 → (0 ≤ g 104 n ∧ g 104 n ≤ 5) ∧ g 102 n ≤ 719) (hv : 1 ≤ v ∧ v ≤ 9223372036854775807) (hz : yShs v (g 90 22) = 0) (hK : ∀ (r : Int) (g' : yM), (yTy zpZ g') → (yFo g g') → (¬ yOk2 g v → r = -1) → (yOk2 g v → yFoR g v r) → K [(1, r)] g') : ∀ (d : Nat) (i : Int), i + d = g 90 22 → 0 ≤ i → ∀ (k : Nat) (m : yM), m 90 36 = k → yCl2 g v (m 112) (Int.toNat i) k → yTy zpZ m → yFo g m → (∀ c : Nat, (c : Int) < g 90 22 → m 110 c = yMf g c) → Y 30 [(3, 90), (2, v), (0, 0), (1, i)] [] m := by
  intro d
  induction d with
  | zero =>
    intro i hd h0 k m hk hu hT f hf
    have hb := ySl_b _ _ hu
    have e22 : m 90 22 = g 90 22 := f 90 22 (by decide) (by decide) (by decide) (by decide) (by decide)
    refine yrun_ok (sp := fun pc => Nat.beq pc 30) hY 51 30 _ [] m ?_
    show (((m 90 22) ≤ i → (∃ (k2 p3 : Int), [(3, 90), (1, 0), (1, 0)] = [(3, 90), (1, k2), (1, p3)] ∧ (yTy zpZ (yset m 90 37 99)) ∧ (yFgd (yset m 90 37 99)) ∧ ((0 ≤ k2 ∧ k2 ≤ (yset m 90 37 99) 90 36) ∧ (yset m 90 37 99) 90 36 - k2 ≤ 6) ∧ (p3 = yCw (yFlc (yset m 90 37 99)) ((yset m 90 37 99) 113) (yDnL (Int.toNat k2)) ∧ 0 ≤ p3 ∧ p3 ≤ 12 * k2) ∧ (0 ≤ (yset m 90 37 99) 90 37 ∧ (yset m 90 37 99) 90 37 ≤ 99) ∧ (∀ (g4 : yM), (yTy zpZ g4) → (yFk k2 (yset m 90 37 99) g4) → (yFrs (yset m 90 37 99) g4 (yCo (yset m 90 37 99) k2)) → (K [(1, (g4 90 37))] g4)))) ∧ (¬ ((m 90 22) ≤ i) → (((ycmp (ybl (fun x y => x &&& y) (ysh (fun x y => x >>> (y.toInt64 &&& 63)) v i) 1) 0) ≠ 0 → (((m 90 36) = 6 → (K [(1, (-1))] m)) ∧ (¬ ((m 90 36) = 6) → (((0 : Int) ≤ i ∧ i < ((40 : Nat) : Int)) ∧ (((m 110 (Int.toNat i)) < 0 → (K [(1, (-1))] m)) ∧ (¬ ((m 110 (Int.toNat i)) < 0) → (((m 90 36) ≤ 0 → (((0 : Int) ≤ (m 90 36) ∧ (m 90 36) < ((6 : Nat) : Int)) ∧ (Y 30 [(3, 90), (2, v), (0, 0), (1, (yw (i + 1)))] [] (yset (yset m 112 (Int.toNat (m 90 36)) i) 90 36 (yw ((m 90 36) + 1)))))) ∧ (¬ ((m 90 36) ≤ 0) → (((0 : Int) ≤ 0 ∧ 0 < ((6 : Nat) : Int)) ∧ (((0 : Int) ≤ (m 112 0) ∧ (m 112 0) < ((40 : Nat) : Int)) ∧ (((0 : Int) ≤ i ∧ i < ((40 : Nat) : Int)) ∧ (((m 101 (Int.toNat (m 112 0))) = (m 101 (Int.toNat i)) → (((0 : Int) ≤ (m 90 36) ∧ (m 90 36) < ((6 : Nat) : Int)) ∧ (Y 30 [(3, 90), (2, v), (0, 0), (1, (yw (i + 1)))] [] (yset (yset m 112 (Int.toNat (m 90 36)) i) 90 36 (yw ((m 90 36) + 1)))))) ∧ (¬ ((m 101 (Int.toNat (m 112 0))) = (m 101 (Int.toNat i))) → (K [(1, (-1))] m)))))))))))))) ∧ (¬ ((ycmp (ybl (fun x y => x &&& y) (ysh (fun x y => x >>> (y.toInt64 &&& 63)) v i) 1) 0) ≠ 0) → (Y 30 [(3, 90), (2, v), (0, 0), (1, (yw (i + 1)))] [] m)))))
    refine ⟨fun h1 => ?_, fun h1 => ?_⟩
    · refine ⟨_, _, rfl, (hT.sO (List.mem_of_getElem? (i := 42) rfl) rfl (by decide +kernel) ⟨by decide, by decide⟩), (by
      obtain rfl : i = g 90 22 := by omega
      have k0 := yCl2_p hv hn hz hu
      have e36 : (yset m 90 37 99) 90 36 = k := (yset_nj (by decide)).trans hk
      refine ⟨by rw [e36]; omega, fun j hj => ?_⟩
      rw [e36] at hj
      have z := (hb.2.2 j (by omega)).1
      have z2 := (hc (Int.toNat (m 112 j)) (by omega)).1
      have e1 : (yset m 90 37 99) 112 j = m 112 j := yset_nc (by decide)
      have e4 : (yset m 90 37 99) 104 (Int.toNat (m 112 j)) = g 104 (Int.toNat (m 112 j)) := (yset_nc (by decide)).trans (f 104 _ (by decide) (by decide) (by decide) (by decide) (by omega))
      unfold yAm
      rw [e1, e4]
      omega), (by
      first
        | omega
        | (rw [yset_eq]; decide)
        | (rw [yset_eq]; omega)
        | (obtain rfl : i = g 90 22 := by omega; have k0 := yCl2_p hv hn hz hu; rw [yset_nj (by decide)]; omega)), (⟨rfl, by decide, by decide⟩), (by
      first
        | omega
        | (rw [yset_eq]; decide)
        | (rw [yset_eq]; omega)
        | (obtain rfl : i = g 90 22 := by omega; have k0 := yCl2_p hv hn hz hu; rw [yset_nj (by decide)]; omega)), ?_⟩
      intro g4 p50 p51 p52
      obtain rfl : i = g 90 22 := by omega
      have k0 := yCl2_p hv hn hz hu
      have ok : yOk2 g v := ⟨hv.1, hz, k, _, hu⟩
      refine hK _ _ p50 (fun a b c1 c2 c3 c4 c5 => ?_) (fun h => absurd ok h) (fun _ => yFw_m f hf hn.1 hk k0 hu p52)
      rw [p51 a b (by omega) (by omega)]
      exact (f.w (q := 90) (j := 37) (v := 99) (by omega)) a b c1 c2 c3 c4 c5
    · refine ⟨fun h6 => ?_, fun h6 => ?_⟩
      · refine ⟨fun h7 => ?_, fun h7 => ?_⟩
        · omega
        · refine ⟨(by
      first
        | omega
        | (rw [yset_eq]; decide)
        | (rw [yset_eq]; omega)
        | (obtain rfl : i = g 90 22 := by omega; have k0 := yCl2_p hv hn hz hu; rw [yset_nj (by decide)]; omega)), ?_⟩
          refine ⟨fun h8 => ?_, fun h8 => ?_⟩
          · omega
          · refine ⟨fun h9 => ?_, fun h9 => ?_⟩
            · refine ⟨(by
      first
        | omega
        | (rw [yset_eq]; decide)
        | (rw [yset_eq]; omega)
        | (obtain rfl : i = g 90 22 := by omega; have k0 := yCl2_p hv hn hz hu; rw [yset_nj (by decide)]; omega)), ?_⟩
              omega
            · refine ⟨(by
      first
        | omega
        | (rw [yset_eq]; decide)
        | (rw [yset_eq]; omega)
        | (obtain rfl : i = g 90 22 := by omega; have k0 := yCl2_p hv hn hz hu; rw [yset_nj (by decide)]; omega)), ?_⟩
              refine ⟨(by
      first
        | omega
        | (rw [yset_eq]; decide)
        | (rw [yset_eq]; omega)
        | (obtain rfl : i = g 90 22 := by omega; have k0 := yCl2_p hv hn hz hu; rw [yset_nj (by decide)]; omega)), ?_⟩
              refine ⟨(by
      first
        | omega
        | (rw [yset_eq]; decide)
        | (rw [yset_eq]; omega)
        | (obtain rfl : i = g 90 22 := by omega; have k0 := yCl2_p hv hn hz hu; rw [yset_nj (by decide)]; omega)), ?_⟩
              refine ⟨fun h10 => ?_, fun h10 => ?_⟩
              · refine ⟨(by
      first
        | omega
        | (rw [yset_eq]; decide)
        | (rw [yset_eq]; omega)
        | (obtain rfl : i = g 90 22 := by omega; have k0 := yCl2_p hv hn hz hu; rw [yset_nj (by decide)]; omega)), ?_⟩
                omega
              · omega
      · omega
  | succ d ih =>
    intro i hd h0 k m hk hu hT f hf
    have hb := ySl_b _ _ hu
    have e22 : m 90 22 = g 90 22 := f 90 22 (by decide) (by decide) (by decide) (by decide) (by decide)
    refine yrun_ok (sp := fun pc => Nat.beq pc 30) hY 51 30 _ [] m ?_
    show (((m 90 22) ≤ i → (∃ (k2 p3 : Int), [(3, 90), (1, 0), (1, 0)] = [(3, 90), (1, k2), (1, p3)] ∧ (yTy zpZ (yset m 90 37 99)) ∧ (yFgd (yset m 90 37 99)) ∧ ((0 ≤ k2 ∧ k2 ≤ (yset m 90 37 99) 90 36) ∧ (yset m 90 37 99) 90 36 - k2 ≤ 6) ∧ (p3 = yCw (yFlc (yset m 90 37 99)) ((yset m 90 37 99) 113) (yDnL (Int.toNat k2)) ∧ 0 ≤ p3 ∧ p3 ≤ 12 * k2) ∧ (0 ≤ (yset m 90 37 99) 90 37 ∧ (yset m 90 37 99) 90 37 ≤ 99) ∧ (∀ (g4 : yM), (yTy zpZ g4) → (yFk k2 (yset m 90 37 99) g4) → (yFrs (yset m 90 37 99) g4 (yCo (yset m 90 37 99) k2)) → (K [(1, (g4 90 37))] g4)))) ∧ (¬ ((m 90 22) ≤ i) → (((ycmp (ybl (fun x y => x &&& y) (ysh (fun x y => x >>> (y.toInt64 &&& 63)) v i) 1) 0) ≠ 0 → (((m 90 36) = 6 → (K [(1, (-1))] m)) ∧ (¬ ((m 90 36) = 6) → (((0 : Int) ≤ i ∧ i < ((40 : Nat) : Int)) ∧ (((m 110 (Int.toNat i)) < 0 → (K [(1, (-1))] m)) ∧ (¬ ((m 110 (Int.toNat i)) < 0) → (((m 90 36) ≤ 0 → (((0 : Int) ≤ (m 90 36) ∧ (m 90 36) < ((6 : Nat) : Int)) ∧ (Y 30 [(3, 90), (2, v), (0, 0), (1, (yw (i + 1)))] [] (yset (yset m 112 (Int.toNat (m 90 36)) i) 90 36 (yw ((m 90 36) + 1)))))) ∧ (¬ ((m 90 36) ≤ 0) → (((0 : Int) ≤ 0 ∧ 0 < ((6 : Nat) : Int)) ∧ (((0 : Int) ≤ (m 112 0) ∧ (m 112 0) < ((40 : Nat) : Int)) ∧ (((0 : Int) ≤ i ∧ i < ((40 : Nat) : Int)) ∧ (((m 101 (Int.toNat (m 112 0))) = (m 101 (Int.toNat i)) → (((0 : Int) ≤ (m 90 36) ∧ (m 90 36) < ((6 : Nat) : Int)) ∧ (Y 30 [(3, 90), (2, v), (0, 0), (1, (yw (i + 1)))] [] (yset (yset m 112 (Int.toNat (m 90 36)) i) 90 36 (yw ((m 90 36) + 1)))))) ∧ (¬ ((m 101 (Int.toNat (m 112 0))) = (m 101 (Int.toNat i))) → (K [(1, (-1))] m)))))))))))))) ∧ (¬ ((ycmp (ybl (fun x y => x &&& y) (ysh (fun x y => x >>> (y.toInt64 &&& 63)) v i) 1) 0) ≠ 0) → (Y 30 [(3, 90), (2, v), (0, 0), (1, (yw (i + 1)))] [] m)))))
    refine ⟨fun h1 => ?_, fun h1 => ?_⟩
    · refine ⟨_, _, rfl, (by omega), (by omega), (by first | omega | (have z := (hb.2.2 0 (by omega)).1; omega)), (by omega), (by first | omega | (have z := (hb.2.2 0 (by omega)).1; omega)), ?_⟩
      intro g4 p50 p51 p52
      omega
    · refine ⟨fun h6 => ?_, fun h6 => ?_⟩
      · refine ⟨fun h7 => ?_, fun h7 => ?_⟩
        · have en : ((Int.toNat i : Nat) : Int) = i := by omega
          have f101 : ∀ x : Nat, m 101 x = g 101 x := fun x => f 101 x (by decide) (by decide) (by decide) (by decide) (by omega)
          have f110 := hf (Int.toNat i) (by omega)
          have mb := yMf_b g (Int.toNat i)
          have hB : yBc2 v ((Int.toNat i : Nat) : Int) := by
            rw [en]
            exact h6
          refine hK _ _ hT f (fun _ => rfl) (fun y => ?_)
          obtain ⟨-, -, k2, A, z2⟩ := y
          refine absurd ⟨k2, A, z2⟩ (ySl_no hu (N := Int.toNat (g 90 22)) (by omega) hB (fun y => ?_))
          obtain ⟨y1, y2, y3⟩ := y
          have y2 : yMf g (Int.toNat i) ≠ -2 := y2
          have y3 : k = 0 ∨ g 101 (Int.toNat i) = g 101 (Int.toNat (m 112 0)) := y3
          omega
        · refine ⟨(by first | omega | (have z := (hb.2.2 0 (by omega)).1; omega)), ?_⟩
          refine ⟨fun h8 => ?_, fun h8 => ?_⟩
          · have en : ((Int.toNat i : Nat) : Int) = i := by omega
            have f101 : ∀ x : Nat, m 101 x = g 101 x := fun x => f 101 x (by decide) (by decide) (by decide) (by decide) (by omega)
            have f110 := hf (Int.toNat i) (by omega)
            have mb := yMf_b g (Int.toNat i)
            have hB : yBc2 v ((Int.toNat i : Nat) : Int) := by
              rw [en]
              exact h6
            refine hK _ _ hT f (fun _ => rfl) (fun y => ?_)
            obtain ⟨-, -, k2, A, z2⟩ := y
            refine absurd ⟨k2, A, z2⟩ (ySl_no hu (N := Int.toNat (g 90 22)) (by omega) hB (fun y => ?_))
            obtain ⟨y1, y2, y3⟩ := y
            have y2 : yMf g (Int.toNat i) ≠ -2 := y2
            have y3 : k = 0 ∨ g 101 (Int.toNat i) = g 101 (Int.toNat (m 112 0)) := y3
            omega
          · refine ⟨fun h9 => ?_, fun h9 => ?_⟩
            · refine ⟨(by first | omega | (have z := (hb.2.2 0 (by omega)).1; omega)), ?_⟩
              have yi : yw (i + 1) = i + 1 := yw_s (i + 1) (by omega) (by omega)
              have ti : Int.toNat (i + 1) = Int.toNat i + 1 := by omega
              rw [yi]
              have en : ((Int.toNat i : Nat) : Int) = i := by omega
              have f101 : ∀ x : Nat, m 101 x = g 101 x := fun x => f 101 x (by decide) (by decide) (by decide) (by decide) (by omega)
              have f110 := hf (Int.toNat i) (by omega)
              have mb := yMf_b g (Int.toNat i)
              have hB : yBc2 v ((Int.toNat i : Nat) : Int) := by
                rw [en]
                exact h6
              have y5 : yw (m 90 36 + 1) = ((k + 1 : Nat) : Int) := by have := yw_s (m 90 36 + 1) (by omega) (by omega); omega
              rw [y5]
              refine ih (i + 1) (by omega) (by omega) (k + 1) _ yset_eq ?_ ((hT.sA (List.mem_of_getElem? (i := 64) rfl) (by decide +kernel) ⟨by omega, by omega⟩).sO (List.mem_of_getElem? (i := 42) rfl) rfl (by decide +kernel) ⟨by omega, by omega⟩) ((f.w (by omega)).w (by omega)) (fun c hc2 => ?_)
              · rw [ti]
                have e12 : ∀ j : Nat, (yset (yset m 112 (Int.toNat (m 90 36)) i) 90 36 ((k + 1 : Nat) : Int)) 112 j = (yset m 112 (Int.toNat (m 90 36)) i) 112 j := fun j => yset_nc (by decide)
                refine ySl_1 hu hB (by omega) ?_ ?_ (fun j hj => ?_) ?_
                · show yMf g (Int.toNat i) ≠ -2
                  omega
                · show k = 0 ∨ g 101 (Int.toNat i) = g 101 (Int.toNat (m 112 0))
                  omega
                · rw [e12, yset_nj (by omega)]
                · rw [e12, show k = Int.toNat (m 90 36) by omega, yset_eq]
                  omega
              · rw [yset_nc (by decide), yset_nc (by decide)]
                exact hf c hc2
            · refine ⟨(by first | omega | (have z := (hb.2.2 0 (by omega)).1; omega)), ?_⟩
              refine ⟨(by first | omega | (have z := (hb.2.2 0 (by omega)).1; omega)), ?_⟩
              refine ⟨(by first | omega | (have z := (hb.2.2 0 (by omega)).1; omega)), ?_⟩
              refine ⟨fun h10 => ?_, fun h10 => ?_⟩
              · refine ⟨(by first | omega | (have z := (hb.2.2 0 (by omega)).1; omega)), ?_⟩
                have yi : yw (i + 1) = i + 1 := yw_s (i + 1) (by omega) (by omega)
                have ti : Int.toNat (i + 1) = Int.toNat i + 1 := by omega
                rw [yi]
                have en : ((Int.toNat i : Nat) : Int) = i := by omega
                have f101 : ∀ x : Nat, m 101 x = g 101 x := fun x => f 101 x (by decide) (by decide) (by decide) (by decide) (by omega)
                have f110 := hf (Int.toNat i) (by omega)
                have mb := yMf_b g (Int.toNat i)
                have hB : yBc2 v ((Int.toNat i : Nat) : Int) := by
                  rw [en]
                  exact h6
                have y5 : yw (m 90 36 + 1) = ((k + 1 : Nat) : Int) := by have := yw_s (m 90 36 + 1) (by omega) (by omega); omega
                rw [y5]
                refine ih (i + 1) (by omega) (by omega) (k + 1) _ yset_eq ?_ ((hT.sA (List.mem_of_getElem? (i := 64) rfl) (by decide +kernel) ⟨by omega, by omega⟩).sO (List.mem_of_getElem? (i := 42) rfl) rfl (by decide +kernel) ⟨by omega, by omega⟩) ((f.w (by omega)).w (by omega)) (fun c hc2 => ?_)
                · rw [ti]
                  have e12 : ∀ j : Nat, (yset (yset m 112 (Int.toNat (m 90 36)) i) 90 36 ((k + 1 : Nat) : Int)) 112 j = (yset m 112 (Int.toNat (m 90 36)) i) 112 j := fun j => yset_nc (by decide)
                  refine ySl_1 hu hB (by omega) ?_ ?_ (fun j hj => ?_) ?_
                  · show yMf g (Int.toNat i) ≠ -2
                    omega
                  · show k = 0 ∨ g 101 (Int.toNat i) = g 101 (Int.toNat (m 112 0))
                    have d1 := f101 (Int.toNat i)
                    have d2 := f101 (Int.toNat (m 112 0))
                    omega
                  · rw [e12, yset_nj (by omega)]
                  · rw [e12, show k = Int.toNat (m 90 36) by omega, yset_eq]
                    omega
                · rw [yset_nc (by decide), yset_nc (by decide)]
                  exact hf c hc2
              · have en : ((Int.toNat i : Nat) : Int) = i := by omega
                have f101 : ∀ x : Nat, m 101 x = g 101 x := fun x => f 101 x (by decide) (by decide) (by decide) (by decide) (by omega)
                have f110 := hf (Int.toNat i) (by omega)
                have mb := yMf_b g (Int.toNat i)
                have hB : yBc2 v ((Int.toNat i : Nat) : Int) := by
                  rw [en]
                  exact h6
                refine hK _ _ hT f (fun _ => rfl) (fun y => ?_)
                obtain ⟨-, -, k2, A, z2⟩ := y
                refine absurd ⟨k2, A, z2⟩ (ySl_no hu (N := Int.toNat (g 90 22)) (by omega) hB (fun y => ?_))
                obtain ⟨y1, y2, y3⟩ := y
                have y2 : yMf g (Int.toNat i) ≠ -2 := y2
                have y3 : k = 0 ∨ g 101 (Int.toNat i) = g 101 (Int.toNat (m 112 0)) := y3
                have d1 := f101 (Int.toNat i)
                have d2 := f101 (Int.toNat (m 112 0))
                omega
      · have yi : yw (i + 1) = i + 1 := yw_s (i + 1) (by omega) (by omega)
        have ti : Int.toNat (i + 1) = Int.toNat i + 1 := by omega
        rw [yi]
        have en : ((Int.toNat i : Nat) : Int) = i := by omega
        have f101 : ∀ x : Nat, m 101 x = g 101 x := fun x => f 101 x (by decide) (by decide) (by decide) (by decide) (by omega)
        have f110 := hf (Int.toNat i) (by omega)
        have mb := yMf_b g (Int.toNat i)
        have hB : ¬ yBc2 v ((Int.toNat i : Nat) : Int) := by
          rw [en]
          exact h6
        refine ih (i + 1) (by omega) (by omega) k m hk ?_ hT f hf
        rw [ti]
        exact ySl_0 hu hB
set_option maxRecDepth 8000 in
theorem yv_MFW {K : List yV → yM → Prop} {Y : yNx} {g : yM} {v : Int} (hY : yCl zpD157 (zpZ, zpRS, zpP12, zpMT, [yC_FS, yC_CF6], (9, 251), 1) K Y) (hr_v : -9223372036854775808 ≤ v ∧ v ≤ 9223372036854775807) (hp0 : yTy zpZ g) (hp1 : 0 ≤ g 90 22 ∧ g 90 22 ≤ 40) (hp2 : 0 ≤ g 90 6 ∧ g 90 6 ≤ 12) (hp3 : ∀ n : Nat, (n : Int) < g 90 22 → (0 ≤ g 104 n ∧ g 104 n ≤ 5) ∧ g 102 n ≤ 719) (hK : ∀ (r : Int) (g' : yM), (yTy zpZ g') → (yFo g g') → (¬ yOk2 g v → r = -1) → (yOk2 g v → yFoR g v r) → K [(1, r)] g') : Y 0 [(3, 90), (2, v), (0, 0), (0, 0)] [] g := by
  refine yrun_ok (sp := fun pc => Nat.beq pc 30) hY 19 0 _ [] g ?_
  show (((ycmp v 1) < 0 → (K [(1, (-1))] g)) ∧ (¬ ((ycmp v 1) < 0) → (((ycmp (ysh (fun x y => x >>> (y.toInt64 &&& 63)) v (g 90 22)) 0) = 0 → ([(3, 90)] = [(3, 90)] ∧ (yTy zpZ g) ∧ (0 ≤ g 90 22 ∧ g 90 22 ≤ 40) ∧ (0 ≤ g 90 6 ∧ g 90 6 ≤ 12) ∧ (∀ n : Nat, (n : Int) < g 90 22 → (0 ≤ g 104 n ∧ g 104 n ≤ 5) ∧ g 102 n ≤ 719) ∧ (∀ (g3 : yM), (yFd g g3) → (Y 30 [(3, 90), (2, v), (0, 0), (1, 0)] [] (yset g3 90 36 0))))) ∧ (¬ ((ycmp (ysh (fun x y => x >>> (y.toInt64 &&& 63)) v (g 90 22)) 0) = 0) → (K [(1, (-1))] g)))))
  refine ⟨fun h1 => ?_, fun h1 => ?_⟩
  · have c1 := ycmp_s v 1
    refine hK _ _ hp0 yFo.rf (fun _ => rfl) (fun y => ?_)
    obtain ⟨y1, y2, -⟩ := y
    omega
  · refine ⟨fun h2 => ?_, fun h2 => ?_⟩
    · refine ⟨rfl, (hp0), (by omega), (by omega), (hp3), ?_⟩
      intro g3 p40
      have c1 := ycmp_s v 1
      have c2 := ycmp_s (ysh (fun x y => x >>> (y.toInt64 &&& 63)) v (g 90 22)) 0
      have hz : yShs v (g 90 22) = 0 := by
        show ysh (fun x y => x >>> (y.toInt64 &&& 63)) v (g 90 22) = 0
        omega
      refine yl_MFW hY hp1 hp3 ⟨by omega, hr_v.2⟩ hz hK (Int.toNat (g 90 22)) 0 (by omega) (by decide) 0 _ yset_eq (show (0 : Nat) = 0 from rfl) (p40.1.sO (List.mem_of_getElem? (i := 42) rfl) rfl (by decide +kernel) ⟨by decide, by decide⟩) ((yFo.fd p40).w (by omega)) (fun c hc2 => ?_)
      rw [yset_nc (by decide)]
      exact (p40.2.2 c hc2).1
    · have c1 := ycmp_s v 1
      refine hK _ _ hp0 yFo.rf (fun _ => rfl) (fun y => ?_)
      obtain ⟨y1, y2, -⟩ := y
      have y2 : (ysh (fun x y => x >>> (y.toInt64 &&& 63)) v (g 90 22)) = 0 := y2
      rw [y2] at h2
      have c2 := ycmp_s 0 0
      omega
theorem yM_MFW {l : Launch} {Ts : List Cond} {cl : List vw_C} {RO : zRO} (H : zHyp Ts cl RO) : yMet l Ts cl zpZ RO zpMT yC_MFW := ymet_of2 H.1 H.2.1 zpDj H.2.2.1 yRb H.p12 (ymets_cons (yM_FS H) (ymets_cons (yM_CF6 H) ymets_nil)) (zrc1 rfl) (plainFor_of_name zpy12) zpDk157 (fun as g K Y h hA hY => by
  obtain ⟨v, rfl, hp0, hp1, hp2, hp3, hK⟩ := h
  exact yv_MFW hY (yAr2 hA (by simp)) hp0 hp1 hp2 hp3 hK)
