/-! THE FEWEST: SETS AND ORDERS, PURE -/
/-- p passes q; what one adds to a list; all of a list -/
def yPw (c : Nat → Nat → Bool) (s : Nat → Int) (p q : Nat) : Int := if c p q = true ∧ s p < s q then 1 else 0
theorem yPw_b (c : Nat → Nat → Bool) (s : Nat → Int) (p q : Nat) : 0 ≤ yPw c s p q ∧ yPw c s p q ≤ 1 := by
  unfold yPw
  split <;> omega
def yDw (c : Nat → Nat → Bool) (s : Nat → Int) (x : Nat) : List Nat → Int
  | [] => 0
  | y :: r => (yPw c s x y + yPw c s y x) + yDw c s x r
def yCw (c : Nat → Nat → Bool) (s : Nat → Int) : List Nat → Int
  | [] => 0
  | x :: r => yDw c s x r + yCw c s r
theorem yDw_perm {c : Nat → Nat → Bool} {s : Nat → Int} {x : Nat} {l l' : List Nat} (h : l.Perm l') : yDw c s x l = yDw c s x l' := by
  induction h with
  | nil => rfl
  | cons a _ ih => simp only [yDw, ih]
  | swap a b l => simp only [yDw]; omega
  | trans _ _ i1 i2 => exact i1.trans i2
theorem yCw_perm {c : Nat → Nat → Bool} {s : Nat → Int} {l l' : List Nat} (h : l.Perm l') : yCw c s l = yCw c s l' := by
  induction h with
  | nil => rfl
  | cons a h ih => simp only [yCw, ih, yDw_perm h]
  | swap a b l => simp only [yCw, yDw]; omega
  | trans _ _ i1 i2 => exact i1.trans i2
theorem yDw_c {c : Nat → Nat → Bool} {s t : Nat → Int} {x : Nat} (hx : s x = t x) : ∀ l : List Nat, (∀ y ∈ l, s y = t y) → yDw c s x l = yDw c t x l
  | [], _ => rfl
  | y :: r, h => by
    have ih := yDw_c (c := c) hx r (fun z hz => h z (List.mem_cons_of_mem _ hz))
    have hy := h y List.mem_cons_self
    simp only [yDw, ih, yPw, hx, hy]
theorem yCw_c {c : Nat → Nat → Bool} {s t : Nat → Int} : ∀ l : List Nat, (∀ y ∈ l, s y = t y) → yCw c s l = yCw c t l
  | [], _ => rfl
  | y :: r, h => by
    have ih := yCw_c (c := c) r (fun z hz => h z (List.mem_cons_of_mem _ hz))
    have hd := yDw_c (c := c) (h y List.mem_cons_self) r (fun z hz => h z (List.mem_cons_of_mem _ hz))
    simp only [yCw, ih, hd]
theorem yDw_0 {c : Nat → Nat → Bool} {s : Nat → Int} {x : Nat} : ∀ l : List Nat, 0 ≤ yDw c s x l
  | [] => Int.le_refl _
  | y :: r => by
    have ih := @yDw_0 c s x r
    have h1 := yPw_b c s x y
    have h2 := yPw_b c s y x
    simp only [yDw]
    omega
/-- the last by start, then by coming in -/
theorem yMaxL (s I : Nat → Int) : ∀ l : List Nat, l ≠ [] → ∃ m ∈ l, ∀ x ∈ l, s x < s m ∨ (s x = s m ∧ I x ≤ I m)
  | [], h => absurd rfl h
  | [x], _ => ⟨x, List.mem_singleton.mpr rfl, fun y hy => by rw [List.mem_singleton.mp hy]; exact Or.inr ⟨rfl, Int.le_refl _⟩⟩
  | x :: y :: r, _ => by
    obtain ⟨m, h1, h2⟩ := yMaxL s I (y :: r) (by simp)
    by_cases e : s x < s m ∨ (s x = s m ∧ I x ≤ I m)
    · refine ⟨m, List.mem_cons_of_mem _ h1, fun z hz => ?_⟩
      rcases List.mem_cons.mp hz with hz | hz
      · rw [hz]
        exact e
      · exact h2 z hz
    · refine ⟨x, List.mem_cons_self, fun z hz => ?_⟩
      rcases List.mem_cons.mp hz with hz | hz
      · rw [hz]
        exact Or.inr ⟨rfl, Int.le_refl _⟩
      · have := h2 z hz
        omega
/-- the bits below k, the highest first -/
def yBk (S : Nat) : Nat → List Nat
  | 0 => []
  | k + 1 => if S.testBit k = true then k :: yBk S k else yBk S k
theorem yBk_m {S x : Nat} : ∀ {k : Nat}, x ∈ yBk S k ↔ (x < k ∧ S.testBit x = true)
  | 0 => ⟨fun h => by
    have h : x ∈ ([] : List Nat) := h
    cases h, fun h => absurd h.1 (Nat.not_lt_zero x)⟩
  | k + 1 => by
    have ih := @yBk_m S x k
    by_cases e : S.testBit k = true
    · have e1 : yBk S (k + 1) = k :: yBk S k := if_pos e
      rw [e1, List.mem_cons, ih]
      constructor
      · intro z
        rcases z with z | z
        · rw [z]
          exact ⟨Nat.lt_succ_self k, e⟩
        · exact ⟨by omega, z.2⟩
      · intro z
        by_cases c : x = k
        · exact Or.inl c
        · exact Or.inr ⟨by omega, z.2⟩
    · have e1 : yBk S (k + 1) = yBk S k := if_neg e
      rw [e1, ih]
      constructor
      · intro z
        exact ⟨by omega, z.2⟩
      · intro z
        refine ⟨?_, z.2⟩
        by_cases c : x = k
        · rw [c] at z
          exact absurd z.2 e
        · omega
theorem yBk_c {S T : Nat} : ∀ k : Nat, (∀ i : Nat, i < k → S.testBit i = T.testBit i) → yBk S k = yBk T k
  | 0, _ => rfl
  | k + 1, h => by
    have ih := yBk_c k (fun i hi => h i (by omega))
    simp only [yBk, h k (Nat.lt_succ_self k), ih]
theorem yBk_r {S T l : Nat} (hl : S.testBit l = true) : ∀ k : Nat, l < k → (∀ i : Nat, i < k → (T.testBit i = true ↔ (S.testBit i = true ∧ i ≠ l))) → (yBk S k).Perm (l :: yBk T k)
  | 0, h, _ => absurd h (Nat.not_lt_zero l)
  | k + 1, h, hT => by
    by_cases c : l = k
    · subst c
      have e1 : yBk S (l + 1) = l :: yBk S l := if_pos hl
      have e2 : yBk T (l + 1) = yBk T l := if_neg (fun z => ((hT l (Nat.lt_succ_self l)).mp z).2 rfl)
      have e3 : yBk S l = yBk T l := yBk_c l (fun i hi => by
        have z := hT i (by omega)
        by_cases q : S.testBit i = true
        · rw [q, z.mpr ⟨q, by omega⟩]
        · rw [Bool.eq_false_iff.mpr q, Bool.eq_false_iff.mpr (fun y => q (z.mp y).1)])
      rw [e1, e2, e3]
    · have ih := yBk_r hl k (by omega) (fun i hi => hT i (by omega))
      by_cases q : S.testBit k = true
      · have e1 : yBk S (k + 1) = k :: yBk S k := if_pos q
        have e2 : yBk T (k + 1) = k :: yBk T k := if_pos ((hT k (Nat.lt_succ_self k)).mpr ⟨q, fun z => c z.symm⟩)
        rw [e1, e2]
        exact (List.Perm.cons k ih).trans (List.Perm.swap l k _)
      · have e1 : yBk S (k + 1) = yBk S k := if_neg q
        have e2 : yBk T (k + 1) = yBk T k := if_neg (fun z => q ((hT k (Nat.lt_succ_self k)).mp z).1)
        rw [e1, e2]
        exact ih
theorem yBk_len (S : Nat) : ∀ k : Nat, (yBk S k).length ≤ k
  | 0 => Nat.le_refl _
  | k + 1 => by
    have ih := yBk_len S k
    by_cases e : S.testBit k = true
    · have e1 : yBk S (k + 1) = k :: yBk S k := if_pos e
      rw [e1, List.length_cons]
      omega
    · have e1 : yBk S (k + 1) = yBk S k := if_neg e
      rw [e1]
      omega
/-- one taken out of a set -/
def yRmv (S l : Nat) : Nat := S &&& (63 - 1 <<< l)
theorem yRmv_f {S l : Nat} (hS : S < 64) (hl : l < 6) : (∀ i : Nat, i < 6 → ((yRmv S l).testBit i = true ↔ (S.testBit i = true ∧ i ≠ l))) ∧ (S.testBit l = true → yRmv S l < S) ∧ (¬ S.testBit l = true → yRmv S l = S) := by
  have key : ∀ S : Fin 64, ∀ l : Fin 6, (∀ i : Fin 6, ((yRmv S.val l.val).testBit i.val = true ↔ (S.val.testBit i.val = true ∧ i.val ≠ l.val))) ∧ (S.val.testBit l.val = true → yRmv S.val l.val < S.val) ∧ (¬ S.val.testBit l.val = true → yRmv S.val l.val = S.val) := by decide +kernel
  obtain ⟨k1, k2, k3⟩ := key ⟨S, hS⟩ ⟨l, hl⟩
  exact ⟨fun i hi => k1 ⟨i, hi⟩, k2, k3⟩
theorem yS_b {n S : Nat} (hn : n ≤ 6) (hS : S < 2 ^ n) : S < 64 ∧ (∀ i : Nat, i < 6 → S.testBit i = true → i < n) ∧ (S ≠ 0 → ∃ i : Nat, i < n ∧ S.testBit i = true) := by
  have key : ∀ n : Fin 7, ∀ S : Fin 64, S.val < 2 ^ n.val → (∀ i : Fin 6, S.val.testBit i.val = true → i.val < n.val) ∧ (S.val ≠ 0 → ∃ i : Fin 6, i.val < n.val ∧ S.val.testBit i.val = true) := by decide +kernel
  have h6 : 2 ^ n ≤ 2 ^ 6 := Nat.pow_le_pow_right (by decide) hn
  have h64 : S < 64 := by
    have : (2 : Nat) ^ 6 = 64 := rfl
    omega
  obtain ⟨k1, k2⟩ := key ⟨n, by omega⟩ ⟨S, h64⟩ hS
  refine ⟨h64, fun i hi hb => k1 ⟨i, hi⟩ hb, fun h => ?_⟩
  obtain ⟨i, i1, i2⟩ := k2 h
  exact ⟨i.val, i1, i2⟩
/-- the latest early start of a set, 0 at least -/
def yMxE (E : Nat → Int) (S : Nat) : Nat → Int
  | 0 => 0
  | k + 1 => if S.testBit k = true then ymx (yMxE E S k) (E k) else yMxE E S k
theorem yMxE_le {E : Nat → Int} {S : Nat} {B : Int} (h0 : 0 ≤ B) : ∀ k : Nat, (∀ i : Nat, i < k → S.testBit i = true → E i ≤ B) → yMxE E S k ≤ B
  | 0, _ => h0
  | k + 1, h => by
    have ih := yMxE_le (E := E) (S := S) h0 k (fun i hi => h i (by omega))
    by_cases e : S.testBit k = true
    · have e1 : yMxE E S (k + 1) = ymx (yMxE E S k) (E k) := if_pos e
      have := h k (Nat.lt_succ_self k) e
      rw [e1]
      unfold ymx
      split <;> omega
    · have e1 : yMxE E S (k + 1) = yMxE E S k := if_neg e
      rw [e1]
      exact ih
theorem yMxE_ge {E : Nat → Int} {S : Nat} : ∀ k : Nat, 0 ≤ yMxE E S k ∧ (∀ i : Nat, i < k → S.testBit i = true → E i ≤ yMxE E S k) ∧ (yMxE E S k = 0 ∨ ∃ i : Nat, i < k ∧ S.testBit i = true ∧ yMxE E S k = E i)
  | 0 => ⟨Int.le_refl _, fun i hi => absurd hi (Nat.not_lt_zero i), Or.inl rfl⟩
  | k + 1 => by
    obtain ⟨a1, a2, a3⟩ := @yMxE_ge E S k
    by_cases e : S.testBit k = true
    · have e1 : yMxE E S (k + 1) = ymx (yMxE E S k) (E k) := if_pos e
      rw [e1]
      unfold ymx
      by_cases c : yMxE E S k < E k
      · rw [if_pos c]
        refine ⟨by omega, fun i hi hb => ?_, Or.inr ⟨k, Nat.lt_succ_self k, e, rfl⟩⟩
        by_cases q : i = k
        · rw [q]
          exact Int.le_refl _
        · have := a2 i (by omega) hb
          omega
      · rw [if_neg c]
        refine ⟨a1, fun i hi hb => ?_, a3.imp id (fun ⟨i, i1, i2, i3⟩ => ⟨i, by omega, i2, i3⟩)⟩
        by_cases q : i = k
        · rw [q]
          omega
        · exact a2 i (by omega) hb
    · have e1 : yMxE E S (k + 1) = yMxE E S k := if_neg e
      rw [e1]
      refine ⟨a1, fun i hi hb => ?_, a3.imp id (fun ⟨i, i1, i2, i3⟩ => ⟨i, by omega, i2, i3⟩)⟩
      by_cases q : i = k
      · rw [q] at hb
        exact absurd hb e
      · exact a2 i (by omega) hb
/-- how many of a set came in later than one -/
def yCt (c : Nat → Nat → Bool) (T l : Nat) : Nat → Int
  | 0 => 0
  | k + 1 => yCt c T l k + (if T.testBit k = true ∧ c k l = true then 1 else 0)
theorem yCt_b {c : Nat → Nat → Bool} {T l : Nat} : ∀ k : Nat, 0 ≤ yCt c T l k ∧ yCt c T l k ≤ k
  | 0 => ⟨Int.le_refl _, Int.le_refl _⟩
  | k + 1 => by
    have ih := @yCt_b c T l k
    simp only [yCt]
    split <;> omega
theorem yCt_lo {c : Nat → Nat → Bool} {s : Nat → Int} {T l : Nat} : ∀ k : Nat, (∀ p : Nat, p < k → T.testBit p = true → c p l = true → s p < s l) → yCt c T l k ≤ yDw c s l (yBk T k)
  | 0, _ => Int.le_refl _
  | k + 1, h => by
    have ih := yCt_lo k (fun p hp => h p (by omega))
    by_cases e : T.testBit k = true
    · have e1 : yBk T (k + 1) = k :: yBk T k := if_pos e
      rw [e1]
      simp only [yCt, yDw]
      have b1 := yPw_b c s l k
      by_cases q : c k l = true
      · have b2 : yPw c s k l = 1 := if_pos ⟨q, h k (Nat.lt_succ_self k) e q⟩
        rw [if_pos ⟨e, q⟩]
        omega
      · have b2 := yPw_b c s k l
        rw [if_neg (fun z => q z.2)]
        omega
    · have e1 : yBk T (k + 1) = yBk T k := if_neg e
      rw [e1]
      simp only [yCt]
      rw [if_neg (fun z => e z.1)]
      omega
theorem yCt_hi {c : Nat → Nat → Bool} {s : Nat → Int} {T l : Nat} : ∀ k : Nat, (∀ p : Nat, p < k → T.testBit p = true → s p ≤ s l) → yDw c s l (yBk T k) ≤ yCt c T l k
  | 0, _ => Int.le_refl _
  | k + 1, h => by
    have ih := yCt_hi (c := c) k (fun p hp => h p (by omega))
    by_cases e : T.testBit k = true
    · have e1 : yBk T (k + 1) = k :: yBk T k := if_pos e
      rw [e1]
      simp only [yCt, yDw]
      have z := h k (Nat.lt_succ_self k) e
      have b1 : yPw c s l k = 0 := if_neg (fun y => by have := y.2; omega)
      by_cases q : c k l = true
      · have b2 := yPw_b c s k l
        rw [if_pos ⟨e, q⟩]
        omega
      · have b2 : yPw c s k l = 0 := if_neg (fun y => q y.1)
        rw [if_neg (fun z => q z.2)]
        omega
    · have e1 : yBk T (k + 1) = yBk T k := if_neg e
      rw [e1]
      simp only [yCt]
      rw [if_neg (fun z => e z.1)]
      omega
/-- the table of the fewest by sets -/
def yDP (n : Nat) (E L : Nat → Int) (c : Nat → Nat → Bool) (fw : Nat → Int) : Prop := fw 0 = 0 ∧ (∀ S : Nat, S ≠ 0 → S < 2 ^ n → ∀ l : Nat, l < n → S.testBit l = true → yMxE E S n ≤ L l → fw S ≤ fw (yRmv S l) + yCt c (yRmv S l) l n) ∧ (∀ S : Nat, S ≠ 0 → S < 2 ^ n → fw S = 1000 ∨ ∃ l : Nat, l < n ∧ S.testBit l = true ∧ yMxE E S n ≤ L l ∧ fw S = fw (yRmv S l) + yCt c (yRmv S l) l n)
theorem yRmv_p {n S l : Nat} (hn : n ≤ 6) (hS : S < 2 ^ n) (hl : l < n) (hb : S.testBit l = true) : yRmv S l < S ∧ yRmv S l < 2 ^ n ∧ (∀ i : Nat, i < n → ((yRmv S l).testBit i = true ↔ (S.testBit i = true ∧ i ≠ l))) ∧ (yBk S n).Perm (l :: yBk (yRmv S l) n) := by
  have h := yS_b hn hS
  have f := yRmv_f h.1 (l := l) (by omega)
  have f2 : ∀ i : Nat, i < n → ((yRmv S l).testBit i = true ↔ (S.testBit i = true ∧ i ≠ l)) := fun i hi => f.1 i (by omega)
  have f3 := f.2.1 hb
  exact ⟨f3, by omega, f2, yBk_r hb n hl f2⟩
theorem yDP_lo {n : Nat} {E L I : Nat → Int} {c : Nat → Nat → Bool} {fw : Nat → Int} (hn : n ≤ 6) (hE : ∀ i : Nat, i < n → 0 ≤ E i) (hc : ∀ p q : Nat, p < n → q < n → c p q = true → I q < I p) (h : yDP n E L c fw) {s : Nat → Int} : ∀ S : Nat, S < 2 ^ n → (∀ i : Nat, i < n → S.testBit i = true → E i ≤ s i ∧ s i ≤ L i) → fw S ≤ yCw c s (yBk S n) := by
  intro S
  induction S using Nat.strongRecOn with
  | ind S ih =>
    intro hS hs
    by_cases e : S = 0
    · subst e
      have e1 : yBk 0 n = [] := by
        cases q : yBk 0 n with
        | nil => rfl
        | cons x r =>
          have z : x ∈ yBk 0 n := by rw [q]; exact List.mem_cons_self
          have z2 := (yBk_m.mp z).2
          rw [Nat.zero_testBit] at z2
          cases z2
      rw [e1, h.1]
      exact Int.le_refl _
    · obtain ⟨i0, i1, i2⟩ := (yS_b hn hS).2.2 e
      have ne : yBk S n ≠ [] := fun z => by
        have y : i0 ∈ yBk S n := yBk_m.mpr ⟨i1, i2⟩
        rw [z] at y
        cases y
      obtain ⟨l, hl, hm⟩ := yMaxL s I (yBk S n) ne
      obtain ⟨l1, l2⟩ := yBk_m.mp hl
      obtain ⟨r1, r2, r3, r4⟩ := yRmv_p hn hS l1 l2
      have sl := hs l l1 l2
      have hmx : yMxE E S n ≤ L l := by
        have z := yMxE_le (E := E) (S := S) (B := s l) (by have := hE l l1; omega) n (fun i hi hb => by
          have y := hm i (yBk_m.mpr ⟨hi, hb⟩)
          have y2 := hs i hi hb
          omega)
        omega
      have u := h.2.1 S e hS l l1 l2 hmx
      have ih2 := ih (yRmv S l) r1 r2 (fun i hi hb => hs i hi ((r3 i hi).mp hb).1)
      have ct := yCt_lo (c := c) (s := s) (T := yRmv S l) (l := l) n (fun p hp hb hcp => by
        have y := hm p (yBk_m.mpr ⟨hp, ((r3 p hp).mp hb).1⟩)
        have y2 := hc p l hp l1 hcp
        omega)
      rw [yCw_perm r4]
      simp only [yCw]
      omega
theorem yDP_hi {n : Nat} {E L : Nat → Int} {c : Nat → Nat → Bool} {fw : Nat → Int} (hn : n ≤ 6) (hE : ∀ i : Nat, i < n → 0 ≤ E i ∧ E i ≤ L i) (h : yDP n E L c fw) : ∀ S : Nat, S < 2 ^ n → fw S ≤ 6 * ((yBk S n).length : Int) ∧ ∃ s : Nat → Int, (∀ i : Nat, i < n → S.testBit i = true → E i ≤ s i ∧ s i ≤ L i ∧ ∃ j : Nat, j < n ∧ s i = E j) ∧ (∀ i : Nat, i < n → S.testBit i = true → s i ≤ yMxE E S n) ∧ yCw c s (yBk S n) ≤ fw S := by
  intro S
  induction S using Nat.strongRecOn with
  | ind S ih =>
    intro hS
    by_cases e : S = 0
    · subst e
      have e1 : yBk 0 n = [] := by
        cases q : yBk 0 n with
        | nil => rfl
        | cons x r =>
          have z : x ∈ yBk 0 n := by rw [q]; exact List.mem_cons_self
          have z2 := (yBk_m.mp z).2
          rw [Nat.zero_testBit] at z2
          cases z2
      rw [e1, h.1]
      refine ⟨Int.le_refl _, fun _ => 0, fun i hi hb => ?_, fun i hi hb => ?_, Int.le_refl _⟩
      · rw [Nat.zero_testBit] at hb
        cases hb
      · rw [Nat.zero_testBit] at hb
        cases hb
    · obtain ⟨i0, i1, i2⟩ := (yS_b hn hS).2.2 e
      have ne : yBk S n ≠ [] := fun z => by
        have y : i0 ∈ yBk S n := yBk_m.mpr ⟨i1, i2⟩
        rw [z] at y
        cases y
      obtain ⟨a, ha, hm⟩ := yMaxL E E (yBk S n) ne
      obtain ⟨a1, a2⟩ := yBk_m.mp ha
      have bnd : fw S ≤ 6 * ((yBk S n).length : Int) := by
        obtain ⟨r1, r2, r3, r4⟩ := yRmv_p hn hS a1 a2
        have u := h.2.1 S e hS a a1 a2 (by
          have z := yMxE_le (E := E) (S := S) (B := E a) (hE a a1).1 n (fun i hi hb => by
            have y := hm i (yBk_m.mpr ⟨hi, hb⟩)
            omega)
          have := (hE a a1).2
          omega)
        have ih2 := (ih (yRmv S a) r1 r2).1
        have cb := @yCt_b c (yRmv S a) a n
        rw [r4.length_eq, List.length_cons]
        omega
      refine ⟨bnd, ?_⟩
      have hlen := yBk_len S n
      obtain ⟨l, l1, l2, l3, l4⟩ := (h.2.2 S e hS).resolve_left (by omega)
      obtain ⟨r1, r2, r3, r4⟩ := yRmv_p hn hS l1 l2
      obtain ⟨-, s, s1, s2, s3⟩ := ih (yRmv S l) r1 r2
      have g1 := @yMxE_ge E S n
      have g2 : yMxE E (yRmv S l) n ≤ yMxE E S n := yMxE_le g1.1 n (fun i hi hb => g1.2.1 i hi ((r3 i hi).mp hb).1)
      have cg : ∀ y ∈ yBk (yRmv S l) n, (fun x => if x = l then yMxE E S n else s x) y = s y := fun y hy => by
        have z := (r3 y (yBk_m.mp hy).1).mp (yBk_m.mp hy).2
        exact if_neg z.2
      have sl : (fun x => if x = l then yMxE E S n else s x) l = yMxE E S n := if_pos rfl
      refine ⟨fun x => if x = l then yMxE E S n else s x, fun i hi hb => ?_, fun i hi hb => ?_, ?_⟩
      · by_cases c1 : i = l
        · rw [c1, sl]
          refine ⟨g1.2.1 l l1 l2, l3, ?_⟩
          rcases g1.2.2 with z | ⟨j, j1, j2, j3⟩
          · exact ⟨l, l1, by have := g1.2.1 l l1 l2; have := (hE l l1).1; omega⟩
          · exact ⟨j, j1, j3⟩
        · have e2 : (fun x => if x = l then yMxE E S n else s x) i = s i := if_neg c1
          rw [e2]
          exact s1 i hi ((r3 i hi).mpr ⟨hb, c1⟩)
      · by_cases c1 : i = l
        · rw [c1, sl]
          exact Int.le_refl _
        · have e2 : (fun x => if x = l then yMxE E S n else s x) i = s i := if_neg c1
          rw [e2]
          have := s2 i hi ((r3 i hi).mpr ⟨hb, c1⟩)
          omega
      · rw [yCw_perm r4]
        simp only [yCw]
        rw [yCw_c _ cg]
        have ct := yCt_hi (c := c) (s := fun x => if x = l then yMxE E S n else s x) (T := yRmv S l) (l := l) n (fun p hp hb => by
          have z := (r3 p hp).mp hb
          have e2 : (fun x => if x = l then yMxE E S n else s x) p = s p := if_neg z.2
          rw [e2, sl]
          have := s2 p hp hb
          omega)
        omega
/-- all below n, the highest first; the fewest are the same both ways -/
def yDnL : Nat → List Nat
  | 0 => []
  | n + 1 => n :: yDnL n
theorem yDnL_b {n : Nat} (hn : n ≤ 6) : yBk (2 ^ n - 1) n = yDnL n := by
  have key : ∀ n : Fin 7, yBk (2 ^ n.val - 1) n.val = yDnL n.val := by decide +kernel
  exact key ⟨n, by omega⟩
/-- starts at ends of spans -/
def yEnd (n : Nat) (E L : Nat → Int) (s : Nat → Int) : Prop := ∀ i : Nat, i < n → (E i ≤ s i ∧ s i ≤ L i) ∧ ∃ j : Nat, j < n ∧ (s i = E j ∨ s i = L j)
theorem yFw_al {n : Nat} {E L I : Nat → Int} {c : Nat → Nat → Bool} {fw : Nat → Int} {R : Int} (hn : n ≤ 6) (hE : ∀ i : Nat, i < n → 0 ≤ E i ∧ E i ≤ L i) (hc : ∀ p q : Nat, p < n → q < n → c p q = true → I q < I p) (h : yDP n E L c fw) (h1 : ∀ s : Nat → Int, yEnd n E L s → R ≤ yCw c s (yDnL n)) (h2 : R = 99 ∨ ∃ s : Nat → Int, yEnd n E L s ∧ R = yCw c s (yDnL n)) : fw (2 ^ n - 1) = R := by
  have h0 : 0 < 2 ^ n := Nat.pow_pos (by decide)
  have hb := yDnL_b hn
  have full : ∀ i : Nat, i < n → (2 ^ n - 1).testBit i = true := fun i hi => by
    rw [Nat.testBit_two_pow_sub_one]
    exact decide_eq_true hi
  obtain ⟨u1, s, u2, u3, u4⟩ := yDP_hi hn hE h (2 ^ n - 1) (by omega)
  have hlen := yBk_len (2 ^ n - 1) n
  have a1 := h1 s (fun i hi => by
    obtain ⟨z1, z2, j, z3, z4⟩ := u2 i hi (full i hi)
    exact ⟨⟨z1, z2⟩, j, z3, Or.inl z4⟩)
  rw [hb] at u4
  rcases h2 with z | ⟨t, t1, t2⟩
  · omega
  · have a2 := yDP_lo hn (fun i hi => (hE i hi).1) hc h (s := t) (2 ^ n - 1) (by omega) (fun i hi _ => (t1 i hi).1)
    rw [hb] at a2
    omega
