/-! THE FEWEST: THE CLASS -/
/-- a bit that is told; none behind the comers (the class's shifts) -/
def yBc (v i : Int) : Prop := (ycmp (ybl (fun x y => x &&& y) (ysh (fun x y => (x.toUInt64 >>> (y.toInt64.toUInt64 &&& Int64.toUInt64 63)).toInt64) v i) 1) 0) ≠ 0
def yHc2 (g : yM) (v : Int) : Prop := ycmp (ysh (fun x y => (x.toUInt64 >>> (y.toInt64.toUInt64 &&& Int64.toUInt64 63)).toInt64) v (g 1 1)) 0 = 0
/-- after the first i comers k are chosen, A lists them -/
def ySl (B : Nat → Prop) (st : Nat → Prop) (dy : Nat → Int) (A : Nat → Int) : Nat → Nat → Prop
  | 0, k => k = 0
  | i + 1, k => ∃ k0 : Nat, ySl B st dy A i k0 ∧ ((B i ∧ k0 < 6 ∧ st i ∧ (k0 = 0 ∨ dy i = dy (Int.toNat (A 0))) ∧ k = k0 + 1 ∧ A k0 = i) ∨ (¬ B i ∧ k = k0))
theorem ySl_b {B : Nat → Prop} {st : Nat → Prop} {dy : Nat → Int} {A : Nat → Int} : ∀ (i k : Nat), ySl B st dy A i k → k ≤ 6 ∧ k ≤ i ∧ ∀ j : Nat, j < k → (0 ≤ A j ∧ A j < i) ∧ st (Int.toNat (A j))
  | 0, k, h => by
    have h : k = 0 := h
    exact ⟨by omega, by omega, fun j hj => absurd hj (by omega)⟩
  | i + 1, k, h => by
    obtain ⟨k0, h1, h2⟩ := h
    obtain ⟨a1, a2, a3⟩ := ySl_b i k0 h1
    rcases h2 with ⟨-, b2, b3, -, b5, b6⟩ | ⟨-, b2⟩
    · refine ⟨by omega, by omega, fun j hj => ?_⟩
      by_cases c : j = k0
      · rw [c, b6]
        exact ⟨by omega, by rw [Int.toNat_natCast]; exact b3⟩
      · have := a3 j (by omega)
        exact ⟨by omega, this.2⟩
    · refine ⟨by omega, by omega, fun j hj => ?_⟩
      have := a3 j (by omega)
      exact ⟨by omega, this.2⟩
theorem ySl_w {B : Nat → Prop} {st : Nat → Prop} {dy : Nat → Int} {A C : Nat → Int} : ∀ (i k : Nat), (∀ j : Nat, j < k → C j = A j) → ySl B st dy A i k → ySl B st dy C i k
  | 0, _, _, h => h
  | i + 1, k, e, h => by
    obtain ⟨k0, h1, h2⟩ := h
    rcases h2 with ⟨b1, b2, b3, b4, b5, b6⟩ | ⟨b1, b2⟩
    · refine ⟨k0, ySl_w i k0 (fun j hj => e j (by omega)) h1, Or.inl ⟨b1, b2, b3, ?_, b5, by rw [e k0 (by omega)]; exact b6⟩⟩
      rw [e 0 (by omega)]
      exact b4
    · exact ⟨k0, ySl_w i k0 (fun j hj => e j (by omega)) h1, Or.inr ⟨b1, b2⟩⟩
theorem ySl_u {B B' : Nat → Prop} {st st' : Nat → Prop} {dy dy' : Nat → Int} {A C : Nat → Int} : ∀ (i k l : Nat), (∀ j : Nat, j < i → (B j ↔ B' j)) → ySl B st dy A i k → ySl B' st' dy' C i l → k = l ∧ ∀ j : Nat, j < k → A j = C j
  | 0, k, l, _, h1, h2 => by
    have h1 : k = 0 := h1
    have h2 : l = 0 := h2
    exact ⟨by omega, fun j hj => absurd hj (by omega)⟩
  | i + 1, k, l, hB, h1, h2 => by
    obtain ⟨k0, a1, a2⟩ := h1
    obtain ⟨l0, c1, c2⟩ := h2
    obtain ⟨e1, e2⟩ := ySl_u i k0 l0 (fun j hj => hB j (by omega)) a1 c1
    have hb := hB i (Nat.lt_succ_self i)
    rcases a2 with ⟨p1, p2, p3, p4, p5, p6⟩ | ⟨p1, p2⟩
    · rcases c2 with ⟨q1, q2, q3, q4, q5, q6⟩ | ⟨q1, q2⟩
      · refine ⟨by omega, fun j hj => ?_⟩
        by_cases c : j = k0
        · have q6 : C k0 = i := by rw [e1]; exact q6
          rw [c, p6, q6]
        · exact e2 j (by omega)
      · exact absurd (hb.mp p1) q1
    · rcases c2 with ⟨q1, q2, q3, q4, q5, q6⟩ | ⟨q1, q2⟩
      · exact absurd (hb.mpr q1) p1
      · exact ⟨by omega, fun j hj => e2 j (by omega)⟩
theorem ySl_at {B : Nat → Prop} {st : Nat → Prop} {dy : Nat → Int} {A : Nat → Int} : ∀ (N k : Nat), ySl B st dy A N k → ∀ i : Nat, i < N → ∃ k0 : Nat, ySl B st dy A i k0 ∧ k0 ≤ k ∧ (B i → k0 < 6 ∧ st i ∧ (k0 = 0 ∨ dy i = dy (Int.toNat (A 0))))
  | 0, _, _, i, hi => absurd hi (Nat.not_lt_zero i)
  | N + 1, k, h, i, hi => by
    obtain ⟨k0, a1, a2⟩ := h
    by_cases c : i = N
    · rw [c]
      rcases a2 with ⟨p1, p2, p3, p4, p5, p6⟩ | ⟨p1, p2⟩
      · exact ⟨k0, a1, by omega, fun _ => ⟨p2, p3, p4⟩⟩
      · exact ⟨k0, a1, by omega, fun z => absurd z p1⟩
    · obtain ⟨m, m1, m2, m3⟩ := ySl_at N k0 a1 i (by omega)
      exact ⟨m, m1, by rcases a2 with ⟨p1, p2, p3, p4, p5, p6⟩ | ⟨p1, p2⟩ <;> omega, m3⟩
/-- one that may not be: nothing is chosen -/
theorem ySl_no {B : Nat → Prop} {st : Nat → Prop} {dy : Nat → Int} {A : Nat → Int} {i k N : Nat} (h : ySl B st dy A i k) (hi : i < N) (hB : B i) (hn : ¬ (k < 6 ∧ st i ∧ (k = 0 ∨ dy i = dy (Int.toNat (A 0))))) : ¬ ∃ (k' : Nat) (C : Nat → Int), ySl B st dy C N k' := fun ⟨k', C, z⟩ => by
  obtain ⟨m, m1, m2, m3⟩ := ySl_at N k' z i hi
  obtain ⟨e1, e2⟩ := ySl_u i k m (fun _ _ => Iff.rfl) h m1
  obtain ⟨m4, m5, m6⟩ := m3 hB
  refine hn ⟨by omega, m5, ?_⟩
  by_cases c : k = 0
  · exact Or.inl c
  · rw [e2 0 (by omega)]
    exact Or.inr (m6.resolve_left (by omega))
theorem ySl_1 {B : Nat → Prop} {st : Nat → Prop} {dy : Nat → Int} {A : Nat → Int} {i k : Nat} (h : ySl B st dy A i k) (hB : B i) (h6 : k < 6) (hs : st i) (hd : k = 0 ∨ dy i = dy (Int.toNat (A 0))) {C : Nat → Int} (hC : ∀ j : Nat, j < k → C j = A j) (hk : C k = i) : ySl B st dy C (i + 1) (k + 1) := by
  refine ⟨k, ySl_w i k hC h, Or.inl ⟨hB, h6, hs, ?_, rfl, hk⟩⟩
  by_cases c : k = 0
  · exact Or.inl c
  · rw [hC 0 (by omega)]
    exact hd
theorem ySl_0 {B : Nat → Prop} {st : Nat → Prop} {dy : Nat → Int} {A : Nat → Int} {i k : Nat} (h : ySl B st dy A i k) (hB : ¬ B i) : ySl B st dy A (i + 1) k := ⟨k, h, Or.inr ⟨hB, rfl⟩⟩
def yCl1 (g : yM) (v : Int) : (Nat → Int) → Nat → Nat → Prop := ySl (fun j => yBc v j) (fun j => g (50 + j) 10 ≠ -2) (fun j => g (50 + j) 0)
def yOk1 (g : yM) (v : Int) : Prop := yHc2 g v ∧ ∃ (k : Nat) (A : Nat → Int), 0 < k ∧ yCl1 g v A (Int.toNat (g 1 1)) k
/-- what is left as it was -/
def yF5 (g m : yM) : Prop := ∀ a b : Nat, a ≠ 23 → a ≠ 24 → a ≠ 25 → ¬ (a = 5 ∧ b = 4) → m a b = g a b
theorem yF5.rf {g : yM} : yF5 g g := fun _ _ _ _ _ _ => rfl
theorem yF5.tr {g m k : yM} (h1 : yF5 g m) (h2 : yF5 m k) : yF5 g k := fun a b c1 c2 c3 c4 => (h2 a b c1 c2 c3 c4).trans (h1 a b c1 c2 c3 c4)
theorem yF5.w {g m : yM} {q j : Nat} {v : Int} (h : yF5 g m) (hq : (q = 23 ∨ q = 24 ∨ q = 25) ∨ (q = 5 ∧ j = 4)) : yF5 g (yset m q j v) := fun a b c1 c2 c3 c4 => (yset_ne (by omega)).trans (h a b c1 c2 c3 c4)
/-- bits, six at most -/
theorem yBt6 {S i : Nat} (hS : S < 64) (hi : i < 6) : yb (fun x y => x &&& y) (yb (fun x y => x >>> (y &&& 31)) (S : Int) (i : Int)) 1 = (if S.testBit i = true then 1 else 0) := by
  have key : ∀ S : Fin 64, ∀ i : Fin 6, yb (fun x y => x &&& y) (yb (fun x y => x >>> (y &&& 31)) ((S.val : Nat) : Int) ((i.val : Nat) : Int)) 1 = (if S.val.testBit i.val = true then 1 else 0) := by decide +kernel
  exact key ⟨S, hS⟩ ⟨i, hi⟩
theorem yBo6 {n d : Nat} (hn : n < 64) (hd : d < 6) : yb (fun x y => x ||| y) (n : Int) (yb (fun x y => x <<< (y &&& 31)) 1 (d : Int)) = ((n ||| 1 <<< d : Nat) : Int) ∧ (n ||| 1 <<< d) < 64 ∧ ∀ e : Nat, e < 6 → ((n ||| 1 <<< d).testBit e = true ↔ (n.testBit e = true ∨ e = d)) := by
  have key : ∀ n : Fin 64, ∀ d : Fin 6, yb (fun x y => x ||| y) ((n.val : Nat) : Int) (yb (fun x y => x <<< (y &&& 31)) 1 ((d.val : Nat) : Int)) = ((n.val ||| 1 <<< d.val : Nat) : Int) ∧ (n.val ||| 1 <<< d.val) < 64 ∧ ∀ e : Fin 6, ((n.val ||| 1 <<< d.val).testBit e.val = true ↔ (n.val.testBit e.val = true ∨ e.val = d.val)) := by decide +kernel
  obtain ⟨k1, k2, k3⟩ := key ⟨n, hn⟩ ⟨d, hd⟩
  exact ⟨k1, k2, fun e he => k3 ⟨e, he⟩⟩
theorem yBx6 {S l : Nat} (hS : S < 64) (hl : l < 6) : yb (fun x y => x &&& y) (S : Int) (yb (fun x y => x ^^^ y) (yb (fun x y => x <<< (y &&& 31)) 1 (l : Int)) (-1)) = ((yRmv S l : Nat) : Int) := by
  have key : ∀ S : Fin 64, ∀ l : Fin 6, yb (fun x y => x &&& y) ((S.val : Nat) : Int) (yb (fun x y => x ^^^ y) (yb (fun x y => x <<< (y &&& 31)) 1 ((l.val : Nat) : Int)) (-1)) = ((yRmv S.val l.val : Nat) : Int) := by decide +kernel
  exact key ⟨S, hS⟩ ⟨l, hl⟩
theorem yBp6 {n : Nat} (hn : n ≤ 6) : yb (fun x y => x <<< (y &&& 31)) 1 (n : Int) = ((2 ^ n : Nat) : Int) := by
  have key : ∀ n : Fin 7, yb (fun x y => x <<< (y &&& 31)) 1 ((n.val : Nat) : Int) = ((2 ^ n.val : Nat) : Int) := by decide +kernel
  exact key ⟨n, by omega⟩
def yPc : Nat → Nat → Int
  | _, 0 => 0
  | n, k + 1 => yPc n k + (if n.testBit k = true then 1 else 0)
theorem yBa6 {T P : Nat} (hT : T < 64) (hP : P < 64) : yb (fun x y => x &&& y) (T : Int) (P : Int) = ((T &&& P : Nat) : Int) ∧ (T &&& P) < 64 ∧ ∀ i : Nat, i < 6 → ((T &&& P).testBit i = true ↔ (T.testBit i = true ∧ P.testBit i = true)) := by
  have key : ∀ T : Fin 64, ∀ P : Fin 64, yb (fun x y => x &&& y) ((T.val : Nat) : Int) ((P.val : Nat) : Int) = ((T.val &&& P.val : Nat) : Int) ∧ (T.val &&& P.val) < 64 := by decide +kernel
  obtain ⟨k1, k2⟩ := key ⟨T, hT⟩ ⟨P, hP⟩
  refine ⟨k1, k2, fun i _ => ?_⟩
  rw [Nat.testBit_and, Bool.and_eq_true]
theorem yPc_ct {c : Nat → Nat → Bool} {T P l n : Nat} (hP : ∀ p : Nat, p < n → (P.testBit p = true ↔ c p l = true)) : ∀ k : Nat, k ≤ 6 → (∀ i : Nat, i < k → (i < n ∨ T.testBit i ≠ true)) → ∀ U : Nat, (∀ i : Nat, i < 6 → (U.testBit i = true ↔ (T.testBit i = true ∧ P.testBit i = true))) → yPc U k = yCt c T l k
  | 0, _, _, _, _ => rfl
  | k + 1, hk, hT, U, hU => by
    have ih := yPc_ct hP k (by omega) (fun i hi => hT i (by omega)) U hU
    have hu := hU k (by omega)
    simp only [yPc, yCt, ih]
    by_cases e : T.testBit k = true
    · have hn : k < n := (hT k (Nat.lt_succ_self k)).resolve_right (fun z => z e)
      by_cases q : c k l = true
      · rw [if_pos (hu.mpr ⟨e, (hP k hn).mpr q⟩), if_pos ⟨e, q⟩]
      · rw [if_neg (fun z => q ((hP k hn).mp (hu.mp z).2)), if_neg (fun z => q z.2)]
    · rw [if_neg (fun z => e (hu.mp z).1), if_neg (fun z => e z.1)]
theorem yCt_up {c : Nat → Nat → Bool} {T l n : Nat} : ∀ k : Nat, n ≤ k → (∀ i : Nat, n ≤ i → i < k → T.testBit i ≠ true) → yCt c T l k = yCt c T l n
  | 0, h, _ => by rw [show n = 0 by omega]
  | k + 1, h, hT => by
    by_cases e : n = k + 1
    · rw [e]
    · have ih := yCt_up (c := c) (l := l) k (by omega) (fun i h1 h2 => hT i h1 (by omega))
      simp only [yCt]
      rw [if_neg (fun z => hT k (by omega) (Nat.lt_succ_self k) z.1), ih, Int.add_zero]
def yP_BCO : yPT := fun as g K => ∃ (z : Int), as = [(1, z)] ∧ (0 ≤ z ∧ z < 64) ∧ (∀ (r : Int), (r = yPc (Int.toNat z) 6) → K [(1, r)] g)
def yC_BCO : yC := (216, (1, 40), yP_BCO)
set_option maxRecDepth 8000 in
theorem yv_BCO {K : List yV → yM → Prop} {Y : yNx} {g : yM} {z : Int} (hY : yCl zpD216 (zpZ, zpRS, zpP13, zpMT, [], (1, 40), 1) K Y) (hr_z : -2147483648 ≤ z ∧ z ≤ 2147483647) (hp0 : 0 ≤ z ∧ z < 64) (hK : ∀ (r : Int), (r = yPc (Int.toNat z) 6) → K [(1, r)] g) : Y 0 [(1, z)] [] g := by
  refine yrun_ok (sp := fun pc => false) hY 42 0 _ [] g ?_
  show (K [(1, (yb (fun x y => x &&& y) (yw ((yw ((yb (fun x y => x &&& y) (yw ((yw ((yb (fun x y => x &&& y) (yw (z - (yb (fun x y => x &&& y) (yb (fun x y => (x.toUInt32 >>> (y.toUInt32 &&& Int32.toUInt32 31)).toInt32) z 1) 1431655765))) 858993459) + (yb (fun x y => x &&& y) (yb (fun x y => (x.toUInt32 >>> (y.toUInt32 &&& Int32.toUInt32 31)).toInt32) (yw (z - (yb (fun x y => x &&& y) (yb (fun x y => (x.toUInt32 >>> (y.toUInt32 &&& Int32.toUInt32 31)).toInt32) z 1) 1431655765))) 2) 858993459))) + (yb (fun x y => (x.toUInt32 >>> (y.toUInt32 &&& Int32.toUInt32 31)).toInt32) (yw ((yb (fun x y => x &&& y) (yw (z - (yb (fun x y => x &&& y) (yb (fun x y => (x.toUInt32 >>> (y.toUInt32 &&& Int32.toUInt32 31)).toInt32) z 1) 1431655765))) 858993459) + (yb (fun x y => x &&& y) (yb (fun x y => (x.toUInt32 >>> (y.toUInt32 &&& Int32.toUInt32 31)).toInt32) (yw (z - (yb (fun x y => x &&& y) (yb (fun x y => (x.toUInt32 >>> (y.toUInt32 &&& Int32.toUInt32 31)).toInt32) z 1) 1431655765))) 2) 858993459))) 4))) 252645135) + (yb (fun x y => (x.toUInt32 >>> (y.toUInt32 &&& Int32.toUInt32 31)).toInt32) (yb (fun x y => x &&& y) (yw ((yw ((yb (fun x y => x &&& y) (yw (z - (yb (fun x y => x &&& y) (yb (fun x y => (x.toUInt32 >>> (y.toUInt32 &&& Int32.toUInt32 31)).toInt32) z 1) 1431655765))) 858993459) + (yb (fun x y => x &&& y) (yb (fun x y => (x.toUInt32 >>> (y.toUInt32 &&& Int32.toUInt32 31)).toInt32) (yw (z - (yb (fun x y => x &&& y) (yb (fun x y => (x.toUInt32 >>> (y.toUInt32 &&& Int32.toUInt32 31)).toInt32) z 1) 1431655765))) 2) 858993459))) + (yb (fun x y => (x.toUInt32 >>> (y.toUInt32 &&& Int32.toUInt32 31)).toInt32) (yw ((yb (fun x y => x &&& y) (yw (z - (yb (fun x y => x &&& y) (yb (fun x y => (x.toUInt32 >>> (y.toUInt32 &&& Int32.toUInt32 31)).toInt32) z 1) 1431655765))) 858993459) + (yb (fun x y => x &&& y) (yb (fun x y => (x.toUInt32 >>> (y.toUInt32 &&& Int32.toUInt32 31)).toInt32) (yw (z - (yb (fun x y => x &&& y) (yb (fun x y => (x.toUInt32 >>> (y.toUInt32 &&& Int32.toUInt32 31)).toInt32) z 1) 1431655765))) 2) 858993459))) 4))) 252645135) 8))) + (yb (fun x y => (x.toUInt32 >>> (y.toUInt32 &&& Int32.toUInt32 31)).toInt32) (yw ((yb (fun x y => x &&& y) (yw ((yw ((yb (fun x y => x &&& y) (yw (z - (yb (fun x y => x &&& y) (yb (fun x y => (x.toUInt32 >>> (y.toUInt32 &&& Int32.toUInt32 31)).toInt32) z 1) 1431655765))) 858993459) + (yb (fun x y => x &&& y) (yb (fun x y => (x.toUInt32 >>> (y.toUInt32 &&& Int32.toUInt32 31)).toInt32) (yw (z - (yb (fun x y => x &&& y) (yb (fun x y => (x.toUInt32 >>> (y.toUInt32 &&& Int32.toUInt32 31)).toInt32) z 1) 1431655765))) 2) 858993459))) + (yb (fun x y => (x.toUInt32 >>> (y.toUInt32 &&& Int32.toUInt32 31)).toInt32) (yw ((yb (fun x y => x &&& y) (yw (z - (yb (fun x y => x &&& y) (yb (fun x y => (x.toUInt32 >>> (y.toUInt32 &&& Int32.toUInt32 31)).toInt32) z 1) 1431655765))) 858993459) + (yb (fun x y => x &&& y) (yb (fun x y => (x.toUInt32 >>> (y.toUInt32 &&& Int32.toUInt32 31)).toInt32) (yw (z - (yb (fun x y => x &&& y) (yb (fun x y => (x.toUInt32 >>> (y.toUInt32 &&& Int32.toUInt32 31)).toInt32) z 1) 1431655765))) 2) 858993459))) 4))) 252645135) + (yb (fun x y => (x.toUInt32 >>> (y.toUInt32 &&& Int32.toUInt32 31)).toInt32) (yb (fun x y => x &&& y) (yw ((yw ((yb (fun x y => x &&& y) (yw (z - (yb (fun x y => x &&& y) (yb (fun x y => (x.toUInt32 >>> (y.toUInt32 &&& Int32.toUInt32 31)).toInt32) z 1) 1431655765))) 858993459) + (yb (fun x y => x &&& y) (yb (fun x y => (x.toUInt32 >>> (y.toUInt32 &&& Int32.toUInt32 31)).toInt32) (yw (z - (yb (fun x y => x &&& y) (yb (fun x y => (x.toUInt32 >>> (y.toUInt32 &&& Int32.toUInt32 31)).toInt32) z 1) 1431655765))) 2) 858993459))) + (yb (fun x y => (x.toUInt32 >>> (y.toUInt32 &&& Int32.toUInt32 31)).toInt32) (yw ((yb (fun x y => x &&& y) (yw (z - (yb (fun x y => x &&& y) (yb (fun x y => (x.toUInt32 >>> (y.toUInt32 &&& Int32.toUInt32 31)).toInt32) z 1) 1431655765))) 858993459) + (yb (fun x y => x &&& y) (yb (fun x y => (x.toUInt32 >>> (y.toUInt32 &&& Int32.toUInt32 31)).toInt32) (yw (z - (yb (fun x y => x &&& y) (yb (fun x y => (x.toUInt32 >>> (y.toUInt32 &&& Int32.toUInt32 31)).toInt32) z 1) 1431655765))) 2) 858993459))) 4))) 252645135) 8))) 16))) 63))] g)
  have key : ∀ n : Fin 64, (yb (fun x y => x &&& y) (yw ((yw ((yb (fun x y => x &&& y) (yw ((yw ((yb (fun x y => x &&& y) (yw (((n.val : Nat) : Int) - (yb (fun x y => x &&& y) (yb (fun x y => (x.toUInt32 >>> (y.toUInt32 &&& Int32.toUInt32 31)).toInt32) ((n.val : Nat) : Int) 1) 1431655765))) 858993459) + (yb (fun x y => x &&& y) (yb (fun x y => (x.toUInt32 >>> (y.toUInt32 &&& Int32.toUInt32 31)).toInt32) (yw (((n.val : Nat) : Int) - (yb (fun x y => x &&& y) (yb (fun x y => (x.toUInt32 >>> (y.toUInt32 &&& Int32.toUInt32 31)).toInt32) ((n.val : Nat) : Int) 1) 1431655765))) 2) 858993459))) + (yb (fun x y => (x.toUInt32 >>> (y.toUInt32 &&& Int32.toUInt32 31)).toInt32) (yw ((yb (fun x y => x &&& y) (yw (((n.val : Nat) : Int) - (yb (fun x y => x &&& y) (yb (fun x y => (x.toUInt32 >>> (y.toUInt32 &&& Int32.toUInt32 31)).toInt32) ((n.val : Nat) : Int) 1) 1431655765))) 858993459) + (yb (fun x y => x &&& y) (yb (fun x y => (x.toUInt32 >>> (y.toUInt32 &&& Int32.toUInt32 31)).toInt32) (yw (((n.val : Nat) : Int) - (yb (fun x y => x &&& y) (yb (fun x y => (x.toUInt32 >>> (y.toUInt32 &&& Int32.toUInt32 31)).toInt32) ((n.val : Nat) : Int) 1) 1431655765))) 2) 858993459))) 4))) 252645135) + (yb (fun x y => (x.toUInt32 >>> (y.toUInt32 &&& Int32.toUInt32 31)).toInt32) (yb (fun x y => x &&& y) (yw ((yw ((yb (fun x y => x &&& y) (yw (((n.val : Nat) : Int) - (yb (fun x y => x &&& y) (yb (fun x y => (x.toUInt32 >>> (y.toUInt32 &&& Int32.toUInt32 31)).toInt32) ((n.val : Nat) : Int) 1) 1431655765))) 858993459) + (yb (fun x y => x &&& y) (yb (fun x y => (x.toUInt32 >>> (y.toUInt32 &&& Int32.toUInt32 31)).toInt32) (yw (((n.val : Nat) : Int) - (yb (fun x y => x &&& y) (yb (fun x y => (x.toUInt32 >>> (y.toUInt32 &&& Int32.toUInt32 31)).toInt32) ((n.val : Nat) : Int) 1) 1431655765))) 2) 858993459))) + (yb (fun x y => (x.toUInt32 >>> (y.toUInt32 &&& Int32.toUInt32 31)).toInt32) (yw ((yb (fun x y => x &&& y) (yw (((n.val : Nat) : Int) - (yb (fun x y => x &&& y) (yb (fun x y => (x.toUInt32 >>> (y.toUInt32 &&& Int32.toUInt32 31)).toInt32) ((n.val : Nat) : Int) 1) 1431655765))) 858993459) + (yb (fun x y => x &&& y) (yb (fun x y => (x.toUInt32 >>> (y.toUInt32 &&& Int32.toUInt32 31)).toInt32) (yw (((n.val : Nat) : Int) - (yb (fun x y => x &&& y) (yb (fun x y => (x.toUInt32 >>> (y.toUInt32 &&& Int32.toUInt32 31)).toInt32) ((n.val : Nat) : Int) 1) 1431655765))) 2) 858993459))) 4))) 252645135) 8))) + (yb (fun x y => (x.toUInt32 >>> (y.toUInt32 &&& Int32.toUInt32 31)).toInt32) (yw ((yb (fun x y => x &&& y) (yw ((yw ((yb (fun x y => x &&& y) (yw (((n.val : Nat) : Int) - (yb (fun x y => x &&& y) (yb (fun x y => (x.toUInt32 >>> (y.toUInt32 &&& Int32.toUInt32 31)).toInt32) ((n.val : Nat) : Int) 1) 1431655765))) 858993459) + (yb (fun x y => x &&& y) (yb (fun x y => (x.toUInt32 >>> (y.toUInt32 &&& Int32.toUInt32 31)).toInt32) (yw (((n.val : Nat) : Int) - (yb (fun x y => x &&& y) (yb (fun x y => (x.toUInt32 >>> (y.toUInt32 &&& Int32.toUInt32 31)).toInt32) ((n.val : Nat) : Int) 1) 1431655765))) 2) 858993459))) + (yb (fun x y => (x.toUInt32 >>> (y.toUInt32 &&& Int32.toUInt32 31)).toInt32) (yw ((yb (fun x y => x &&& y) (yw (((n.val : Nat) : Int) - (yb (fun x y => x &&& y) (yb (fun x y => (x.toUInt32 >>> (y.toUInt32 &&& Int32.toUInt32 31)).toInt32) ((n.val : Nat) : Int) 1) 1431655765))) 858993459) + (yb (fun x y => x &&& y) (yb (fun x y => (x.toUInt32 >>> (y.toUInt32 &&& Int32.toUInt32 31)).toInt32) (yw (((n.val : Nat) : Int) - (yb (fun x y => x &&& y) (yb (fun x y => (x.toUInt32 >>> (y.toUInt32 &&& Int32.toUInt32 31)).toInt32) ((n.val : Nat) : Int) 1) 1431655765))) 2) 858993459))) 4))) 252645135) + (yb (fun x y => (x.toUInt32 >>> (y.toUInt32 &&& Int32.toUInt32 31)).toInt32) (yb (fun x y => x &&& y) (yw ((yw ((yb (fun x y => x &&& y) (yw (((n.val : Nat) : Int) - (yb (fun x y => x &&& y) (yb (fun x y => (x.toUInt32 >>> (y.toUInt32 &&& Int32.toUInt32 31)).toInt32) ((n.val : Nat) : Int) 1) 1431655765))) 858993459) + (yb (fun x y => x &&& y) (yb (fun x y => (x.toUInt32 >>> (y.toUInt32 &&& Int32.toUInt32 31)).toInt32) (yw (((n.val : Nat) : Int) - (yb (fun x y => x &&& y) (yb (fun x y => (x.toUInt32 >>> (y.toUInt32 &&& Int32.toUInt32 31)).toInt32) ((n.val : Nat) : Int) 1) 1431655765))) 2) 858993459))) + (yb (fun x y => (x.toUInt32 >>> (y.toUInt32 &&& Int32.toUInt32 31)).toInt32) (yw ((yb (fun x y => x &&& y) (yw (((n.val : Nat) : Int) - (yb (fun x y => x &&& y) (yb (fun x y => (x.toUInt32 >>> (y.toUInt32 &&& Int32.toUInt32 31)).toInt32) ((n.val : Nat) : Int) 1) 1431655765))) 858993459) + (yb (fun x y => x &&& y) (yb (fun x y => (x.toUInt32 >>> (y.toUInt32 &&& Int32.toUInt32 31)).toInt32) (yw (((n.val : Nat) : Int) - (yb (fun x y => x &&& y) (yb (fun x y => (x.toUInt32 >>> (y.toUInt32 &&& Int32.toUInt32 31)).toInt32) ((n.val : Nat) : Int) 1) 1431655765))) 2) 858993459))) 4))) 252645135) 8))) 16))) 63) = yPc n.val 6 := by decide +kernel
  have h9 : (yb (fun x y => x &&& y) (yw ((yw ((yb (fun x y => x &&& y) (yw ((yw ((yb (fun x y => x &&& y) (yw (((Int.toNat z : Nat) : Int) - (yb (fun x y => x &&& y) (yb (fun x y => (x.toUInt32 >>> (y.toUInt32 &&& Int32.toUInt32 31)).toInt32) ((Int.toNat z : Nat) : Int) 1) 1431655765))) 858993459) + (yb (fun x y => x &&& y) (yb (fun x y => (x.toUInt32 >>> (y.toUInt32 &&& Int32.toUInt32 31)).toInt32) (yw (((Int.toNat z : Nat) : Int) - (yb (fun x y => x &&& y) (yb (fun x y => (x.toUInt32 >>> (y.toUInt32 &&& Int32.toUInt32 31)).toInt32) ((Int.toNat z : Nat) : Int) 1) 1431655765))) 2) 858993459))) + (yb (fun x y => (x.toUInt32 >>> (y.toUInt32 &&& Int32.toUInt32 31)).toInt32) (yw ((yb (fun x y => x &&& y) (yw (((Int.toNat z : Nat) : Int) - (yb (fun x y => x &&& y) (yb (fun x y => (x.toUInt32 >>> (y.toUInt32 &&& Int32.toUInt32 31)).toInt32) ((Int.toNat z : Nat) : Int) 1) 1431655765))) 858993459) + (yb (fun x y => x &&& y) (yb (fun x y => (x.toUInt32 >>> (y.toUInt32 &&& Int32.toUInt32 31)).toInt32) (yw (((Int.toNat z : Nat) : Int) - (yb (fun x y => x &&& y) (yb (fun x y => (x.toUInt32 >>> (y.toUInt32 &&& Int32.toUInt32 31)).toInt32) ((Int.toNat z : Nat) : Int) 1) 1431655765))) 2) 858993459))) 4))) 252645135) + (yb (fun x y => (x.toUInt32 >>> (y.toUInt32 &&& Int32.toUInt32 31)).toInt32) (yb (fun x y => x &&& y) (yw ((yw ((yb (fun x y => x &&& y) (yw (((Int.toNat z : Nat) : Int) - (yb (fun x y => x &&& y) (yb (fun x y => (x.toUInt32 >>> (y.toUInt32 &&& Int32.toUInt32 31)).toInt32) ((Int.toNat z : Nat) : Int) 1) 1431655765))) 858993459) + (yb (fun x y => x &&& y) (yb (fun x y => (x.toUInt32 >>> (y.toUInt32 &&& Int32.toUInt32 31)).toInt32) (yw (((Int.toNat z : Nat) : Int) - (yb (fun x y => x &&& y) (yb (fun x y => (x.toUInt32 >>> (y.toUInt32 &&& Int32.toUInt32 31)).toInt32) ((Int.toNat z : Nat) : Int) 1) 1431655765))) 2) 858993459))) + (yb (fun x y => (x.toUInt32 >>> (y.toUInt32 &&& Int32.toUInt32 31)).toInt32) (yw ((yb (fun x y => x &&& y) (yw (((Int.toNat z : Nat) : Int) - (yb (fun x y => x &&& y) (yb (fun x y => (x.toUInt32 >>> (y.toUInt32 &&& Int32.toUInt32 31)).toInt32) ((Int.toNat z : Nat) : Int) 1) 1431655765))) 858993459) + (yb (fun x y => x &&& y) (yb (fun x y => (x.toUInt32 >>> (y.toUInt32 &&& Int32.toUInt32 31)).toInt32) (yw (((Int.toNat z : Nat) : Int) - (yb (fun x y => x &&& y) (yb (fun x y => (x.toUInt32 >>> (y.toUInt32 &&& Int32.toUInt32 31)).toInt32) ((Int.toNat z : Nat) : Int) 1) 1431655765))) 2) 858993459))) 4))) 252645135) 8))) + (yb (fun x y => (x.toUInt32 >>> (y.toUInt32 &&& Int32.toUInt32 31)).toInt32) (yw ((yb (fun x y => x &&& y) (yw ((yw ((yb (fun x y => x &&& y) (yw (((Int.toNat z : Nat) : Int) - (yb (fun x y => x &&& y) (yb (fun x y => (x.toUInt32 >>> (y.toUInt32 &&& Int32.toUInt32 31)).toInt32) ((Int.toNat z : Nat) : Int) 1) 1431655765))) 858993459) + (yb (fun x y => x &&& y) (yb (fun x y => (x.toUInt32 >>> (y.toUInt32 &&& Int32.toUInt32 31)).toInt32) (yw (((Int.toNat z : Nat) : Int) - (yb (fun x y => x &&& y) (yb (fun x y => (x.toUInt32 >>> (y.toUInt32 &&& Int32.toUInt32 31)).toInt32) ((Int.toNat z : Nat) : Int) 1) 1431655765))) 2) 858993459))) + (yb (fun x y => (x.toUInt32 >>> (y.toUInt32 &&& Int32.toUInt32 31)).toInt32) (yw ((yb (fun x y => x &&& y) (yw (((Int.toNat z : Nat) : Int) - (yb (fun x y => x &&& y) (yb (fun x y => (x.toUInt32 >>> (y.toUInt32 &&& Int32.toUInt32 31)).toInt32) ((Int.toNat z : Nat) : Int) 1) 1431655765))) 858993459) + (yb (fun x y => x &&& y) (yb (fun x y => (x.toUInt32 >>> (y.toUInt32 &&& Int32.toUInt32 31)).toInt32) (yw (((Int.toNat z : Nat) : Int) - (yb (fun x y => x &&& y) (yb (fun x y => (x.toUInt32 >>> (y.toUInt32 &&& Int32.toUInt32 31)).toInt32) ((Int.toNat z : Nat) : Int) 1) 1431655765))) 2) 858993459))) 4))) 252645135) + (yb (fun x y => (x.toUInt32 >>> (y.toUInt32 &&& Int32.toUInt32 31)).toInt32) (yb (fun x y => x &&& y) (yw ((yw ((yb (fun x y => x &&& y) (yw (((Int.toNat z : Nat) : Int) - (yb (fun x y => x &&& y) (yb (fun x y => (x.toUInt32 >>> (y.toUInt32 &&& Int32.toUInt32 31)).toInt32) ((Int.toNat z : Nat) : Int) 1) 1431655765))) 858993459) + (yb (fun x y => x &&& y) (yb (fun x y => (x.toUInt32 >>> (y.toUInt32 &&& Int32.toUInt32 31)).toInt32) (yw (((Int.toNat z : Nat) : Int) - (yb (fun x y => x &&& y) (yb (fun x y => (x.toUInt32 >>> (y.toUInt32 &&& Int32.toUInt32 31)).toInt32) ((Int.toNat z : Nat) : Int) 1) 1431655765))) 2) 858993459))) + (yb (fun x y => (x.toUInt32 >>> (y.toUInt32 &&& Int32.toUInt32 31)).toInt32) (yw ((yb (fun x y => x &&& y) (yw (((Int.toNat z : Nat) : Int) - (yb (fun x y => x &&& y) (yb (fun x y => (x.toUInt32 >>> (y.toUInt32 &&& Int32.toUInt32 31)).toInt32) ((Int.toNat z : Nat) : Int) 1) 1431655765))) 858993459) + (yb (fun x y => x &&& y) (yb (fun x y => (x.toUInt32 >>> (y.toUInt32 &&& Int32.toUInt32 31)).toInt32) (yw (((Int.toNat z : Nat) : Int) - (yb (fun x y => x &&& y) (yb (fun x y => (x.toUInt32 >>> (y.toUInt32 &&& Int32.toUInt32 31)).toInt32) ((Int.toNat z : Nat) : Int) 1) 1431655765))) 2) 858993459))) 4))) 252645135) 8))) 16))) 63) = yPc (Int.toNat z) 6 := key ⟨Int.toNat z, by omega⟩
  have ez : ((Int.toNat z : Nat) : Int) = z := by omega
  refine hK _ ?_
  rw [ez] at h9
  exact h9
theorem yM_BCO {l : Launch} {Ts : List Cond} {cl : List vw_C} {RO : zRO} (H : zHyp Ts cl RO) : yMet l Ts cl zpZ RO zpMT yC_BCO := ymet_of2 H.1 H.2.1 zpDj H.2.2.1 yRb H.p13 ymets_nil (zrc1 rfl) (by decide +kernel) zpDk216 (fun as g K Y h hA hY => by
  obtain ⟨z, rfl, hp0, hK⟩ := h
  exact yv_BCO hY (yAr1 hA (by simp)) hp0 hK)
def yP_CHA : yPT := fun as g K => ∃ (i o : Int), as = [(3, 5), (1, i), (1, o)] ∧ (0 ≤ i ∧ i < 6) ∧ (∀ (r : Int), ((i < g 5 4 ∧ r = g 23 (Int.toNat i)) ∨ (g 5 4 ≤ i ∧ r = o)) → K [(1, r)] g)
def yC_CHA : yC := (58, (1, 40), yP_CHA)
set_option maxRecDepth 8000 in
theorem yv_CHA {K : List yV → yM → Prop} {Y : yNx} {g : yM} {i o : Int} (hY : yCl zpD58 (zpZ, zpRS, zpP5, zpMT, [], (1, 40), 1) K Y) (hr_i : -2147483648 ≤ i ∧ i ≤ 2147483647) (hr_o : -2147483648 ≤ o ∧ o ≤ 2147483647) (hp0 : 0 ≤ i ∧ i < 6) (hK : ∀ (r : Int), ((i < g 5 4 ∧ r = g 23 (Int.toNat i)) ∨ (g 5 4 ≤ i ∧ r = o)) → K [(1, r)] g) : Y 0 [(3, 5), (1, i), (1, o)] [] g := by
  refine yrun_ok (sp := fun pc => false) hY 10 0 _ [] g ?_
  show (((g 5 4) ≤ i → (K [(1, o)] g)) ∧ (¬ ((g 5 4) ≤ i) → (((0 : Int) ≤ i ∧ i < ((6 : Nat) : Int)) ∧ (K [(1, (g 23 (Int.toNat i)))] g))))
  refine ⟨fun h1 => ?_, fun h1 => ?_⟩
  · exact hK _ (Or.inr ⟨by omega, rfl⟩)
  · refine ⟨(by omega), ?_⟩
    exact hK _ (Or.inl ⟨by omega, rfl⟩)
theorem yM_CHA {l : Launch} {Ts : List Cond} {cl : List vw_C} {RO : zRO} (H : zHyp Ts cl RO) : yMet l Ts cl zpZ RO zpMT yC_CHA := ymet_of2 H.1 H.2.1 zpDj H.2.2.1 yRb H.p5 ymets_nil (zrc1 rfl) (plainFor_of_name zpy5) zpDk58 (fun as g K Y h hA hY => by
  obtain ⟨i, o, rfl, hp0, hK⟩ := h
  exact yv_CHA hY (yAr1 hA (by simp)) (yAr1 hA (by simp)) hp0 hK)
def yP_CHS : yPT := fun as g K => ∃ (v : Int), as = [(3, 5), (2, v)] ∧ (yTy zpZ g) ∧ (∀ (r : Int) (g' : yM), ((r = 1 ∧ yHc2 g v ∧ ∃ k : Nat, 0 < k ∧ g' 5 4 = k ∧ yCl1 g v (g' 23) (Int.toNat (g 1 1)) k) ∨ (r = 0 ∧ ¬ yOk1 g v)) → (yTy zpZ g') → (yF5 g g') → K [(1, r)] g')
def yC_CHS : yC := (57, (2, 62), yP_CHS)
set_option maxRecDepth 8000 in
theorem yl_CHS {K : List yV → yM → Prop} {Y : yNx} {g : yM} {v : Int} (hY : yCl zpD57 (zpZ, zpRS, zpP5, zpMT, [yC_HST, yC_CHA], (2, 62), 2) K Y) (hG : yTy zpZ g) (hh : yHc2 g v) (hK : ∀ (r : Int) (g' : yM), ((r = 1 ∧ yHc2 g v ∧ ∃ k : Nat, 0 < k ∧ g' 5 4 = k ∧ yCl1 g v (g' 23) (Int.toNat (g 1 1)) k) ∨ (r = 0 ∧ ¬ yOk1 g v)) → (yTy zpZ g') → (yF5 g g') → K [(1, r)] g') : ∀ (n : Nat) (i : Int), i + n = g 1 1 → 0 ≤ i → ∀ (k : Nat) (m : yM) (u4 : yV), m 5 4 = k → yCl1 g v (m 23) (Int.toNat i) k → yTy zpZ m → yF5 g m → Y 23 [(3, 5), (2, v), (0, 0), (1, i), u4] [] m := by
  intro n
  induction n with
  | zero =>
    intro i hd h0 k m u4 hk hu hT f
    have hz := hG.sz
    have e11 : m 1 1 = g 1 1 := f 1 1 (by decide) (by decide) (by decide) (by decide)
    have hb := ySl_b _ _ hu
    refine yrun_ok (sp := fun pc => Nat.beq pc 23) hY 53 23 _ [] m ?_
    show (((m 1 1) ≤ i → (((m 5 4) ≤ 0 → (((0 : Int) ≤ 0 ∧ 0 ≤ (1 : Int)) ∧ (K [(1, 0)] m))) ∧ (¬ ((m 5 4) ≤ 0) → (((0 : Int) ≤ 1 ∧ 1 ≤ (1 : Int)) ∧ (K [(1, 1)] m))))) ∧ (¬ ((m 1 1) ≤ i) → (((ycmp (ybl (fun x y => x &&& y) (ysh (fun x y => (x.toUInt64 >>> (y.toInt64.toUInt64 &&& Int64.toUInt64 63)).toInt64) v i) 1) 0) = 0 → (Y 23 [(3, 5), (2, v), (0, 0), (1, (yw (i + 1))), u4] [] m)) ∧ (¬ ((ycmp (ybl (fun x y => x &&& y) (ysh (fun x y => (x.toUInt64 >>> (y.toInt64.toUInt64 &&& Int64.toUInt64 63)).toInt64) v i) 1) 0) = 0) → (((0 : Int) ≤ i ∧ i < ((40 : Nat) : Int)) ∧ ((6 ≤ (m 5 4) → (((0 : Int) ≤ 0 ∧ 0 ≤ (1 : Int)) ∧ (K [(1, 0)] m))) ∧ (¬ (6 ≤ (m 5 4)) → (∃ (w5 : Int), [(141, i)] = [(141, w5)] ∧ (0 ≤ w5 ∧ w5 < 40) ∧ (∀ (r6 : Int), ((r6 = 1 ∧ m (50 + Int.toNat w5) 10 ≠ -2) ∨ (r6 = 0 ∧ m (50 + Int.toNat w5) 10 = -2)) → ((r6 = 0 → (((0 : Int) ≤ 0 ∧ 0 ≤ (1 : Int)) ∧ (K [(1, 0)] m))) ∧ (¬ (r6 = 0) → (∃ (i9 o10 : Int), [(3, 5), (1, 0), (1, i)] = [(3, 5), (1, i9), (1, o10)] ∧ (0 ≤ i9 ∧ i9 < 6) ∧ (∀ (r11 : Int), ((i9 < m 5 4 ∧ r11 = m 23 (Int.toNat i9)) ∨ (m 5 4 ≤ i9 ∧ r11 = o10)) → (((0 : Int) ≤ r11 ∧ r11 < ((40 : Nat) : Int)) ∧ (((m (50 + Int.toNat i) 0) = (m (50 + Int.toNat r11) 0) → (((0 : Int) ≤ (m 5 4) ∧ (m 5 4) < ((6 : Nat) : Int)) ∧ (Y 23 [(3, 5), (2, v), (0, 0), (1, (yw (i + 1))), (141, i)] [] (yset (yset m 23 (Int.toNat (m 5 4)) i) 5 4 (yw ((m 5 4) + 1)))))) ∧ (¬ ((m (50 + Int.toNat i) 0) = (m (50 + Int.toNat r11) 0)) → (((0 : Int) ≤ 0 ∧ 0 ≤ (1 : Int)) ∧ (K [(1, 0)] m))))))))))))))))))
    refine ⟨fun h1 => ?_, fun h1 => ?_⟩
    · refine ⟨fun h2 => ?_, fun h2 => ?_⟩
      · refine ⟨(by omega), ?_⟩
        obtain rfl : i = g 1 1 := by omega
        refine hK _ _ (Or.inr ⟨rfl, fun z => ?_⟩) hT f
        obtain ⟨-, k2, A, z1, z2⟩ := z
        have e := (ySl_u _ _ _ (fun _ _ => Iff.rfl) hu z2).1
        omega
      · refine ⟨(by omega), ?_⟩
        obtain rfl : i = g 1 1 := by omega
        exact hK _ _ (Or.inl ⟨rfl, hh, k, by omega, hk, hu⟩) hT f
    · refine ⟨fun h3 => ?_, fun h3 => ?_⟩
      · omega
      · refine ⟨(by omega), ?_⟩
        refine ⟨fun h4 => ?_, fun h4 => ?_⟩
        · refine ⟨(by omega), ?_⟩
          omega
        · refine ⟨_, rfl, (by omega), ?_⟩
          intro r6 p70
          refine ⟨fun h8 => ?_, fun h8 => ?_⟩
          · refine ⟨(by omega), ?_⟩
            omega
          · refine ⟨_, _, rfl, (by omega), ?_⟩
            intro r11 p120
            refine ⟨(by omega), ?_⟩
            refine ⟨fun h13 => ?_, fun h13 => ?_⟩
            · refine ⟨(by omega), ?_⟩
              omega
            · refine ⟨(by omega), ?_⟩
              omega
  | succ n ih =>
    intro i hd h0 k m u4 hk hu hT f
    have hz := hG.sz
    have e11 : m 1 1 = g 1 1 := f 1 1 (by decide) (by decide) (by decide) (by decide)
    have hb := ySl_b _ _ hu
    refine yrun_ok (sp := fun pc => Nat.beq pc 23) hY 53 23 _ [] m ?_
    show (((m 1 1) ≤ i → (((m 5 4) ≤ 0 → (((0 : Int) ≤ 0 ∧ 0 ≤ (1 : Int)) ∧ (K [(1, 0)] m))) ∧ (¬ ((m 5 4) ≤ 0) → (((0 : Int) ≤ 1 ∧ 1 ≤ (1 : Int)) ∧ (K [(1, 1)] m))))) ∧ (¬ ((m 1 1) ≤ i) → (((ycmp (ybl (fun x y => x &&& y) (ysh (fun x y => (x.toUInt64 >>> (y.toInt64.toUInt64 &&& Int64.toUInt64 63)).toInt64) v i) 1) 0) = 0 → (Y 23 [(3, 5), (2, v), (0, 0), (1, (yw (i + 1))), u4] [] m)) ∧ (¬ ((ycmp (ybl (fun x y => x &&& y) (ysh (fun x y => (x.toUInt64 >>> (y.toInt64.toUInt64 &&& Int64.toUInt64 63)).toInt64) v i) 1) 0) = 0) → (((0 : Int) ≤ i ∧ i < ((40 : Nat) : Int)) ∧ ((6 ≤ (m 5 4) → (((0 : Int) ≤ 0 ∧ 0 ≤ (1 : Int)) ∧ (K [(1, 0)] m))) ∧ (¬ (6 ≤ (m 5 4)) → (∃ (w5 : Int), [(141, i)] = [(141, w5)] ∧ (0 ≤ w5 ∧ w5 < 40) ∧ (∀ (r6 : Int), ((r6 = 1 ∧ m (50 + Int.toNat w5) 10 ≠ -2) ∨ (r6 = 0 ∧ m (50 + Int.toNat w5) 10 = -2)) → ((r6 = 0 → (((0 : Int) ≤ 0 ∧ 0 ≤ (1 : Int)) ∧ (K [(1, 0)] m))) ∧ (¬ (r6 = 0) → (∃ (i9 o10 : Int), [(3, 5), (1, 0), (1, i)] = [(3, 5), (1, i9), (1, o10)] ∧ (0 ≤ i9 ∧ i9 < 6) ∧ (∀ (r11 : Int), ((i9 < m 5 4 ∧ r11 = m 23 (Int.toNat i9)) ∨ (m 5 4 ≤ i9 ∧ r11 = o10)) → (((0 : Int) ≤ r11 ∧ r11 < ((40 : Nat) : Int)) ∧ (((m (50 + Int.toNat i) 0) = (m (50 + Int.toNat r11) 0) → (((0 : Int) ≤ (m 5 4) ∧ (m 5 4) < ((6 : Nat) : Int)) ∧ (Y 23 [(3, 5), (2, v), (0, 0), (1, (yw (i + 1))), (141, i)] [] (yset (yset m 23 (Int.toNat (m 5 4)) i) 5 4 (yw ((m 5 4) + 1)))))) ∧ (¬ ((m (50 + Int.toNat i) 0) = (m (50 + Int.toNat r11) 0)) → (((0 : Int) ≤ 0 ∧ 0 ≤ (1 : Int)) ∧ (K [(1, 0)] m))))))))))))))))))
    refine ⟨fun h1 => ?_, fun h1 => ?_⟩
    · refine ⟨fun h2 => ?_, fun h2 => ?_⟩
      · refine ⟨(by omega), ?_⟩
        omega
      · refine ⟨(by omega), ?_⟩
        omega
    · refine ⟨fun h3 => ?_, fun h3 => ?_⟩
      · have yi : yw (i + 1) = i + 1 := yw_s (i + 1) (by omega) (by omega)
        rw [yi]
        have en : ((Int.toNat i : Nat) : Int) = i := by omega
        have f10 : m (50 + Int.toNat i) 10 = g (50 + Int.toNat i) 10 := f _ _ (by omega) (by omega) (by omega) (by omega)
        have f0 : m (50 + Int.toNat i) 0 = g (50 + Int.toNat i) 0 := f _ _ (by omega) (by omega) (by omega) (by omega)
        have hB : ¬ yBc v ((Int.toNat i : Nat) : Int) := by
          rw [en]
          exact fun z => z h3
        refine ih (i + 1) (by omega) (by omega) k m _ hk ?_ hT f
        rw [show Int.toNat (i + 1) = Int.toNat i + 1 by omega]
        exact ySl_0 hu hB
      · refine ⟨(by omega), ?_⟩
        refine ⟨fun h4 => ?_, fun h4 => ?_⟩
        · refine ⟨(by omega), ?_⟩
          have en : ((Int.toNat i : Nat) : Int) = i := by omega
          have f10 : m (50 + Int.toNat i) 10 = g (50 + Int.toNat i) 10 := f _ _ (by omega) (by omega) (by omega) (by omega)
          have f0 : m (50 + Int.toNat i) 0 = g (50 + Int.toNat i) 0 := f _ _ (by omega) (by omega) (by omega) (by omega)
          have hB : yBc v ((Int.toNat i : Nat) : Int) := by
            rw [en]
            exact h3
          refine hK _ _ (Or.inr ⟨rfl, fun z => ?_⟩) hT f
          obtain ⟨-, k2, A, z1, z2⟩ := z
          refine ySl_no hu (N := Int.toNat (g 1 1)) (by omega) hB (fun y => ?_) ⟨k2, A, z2⟩
          obtain ⟨y1, y2, y3⟩ := y
          have y2 : g (50 + Int.toNat i) 10 ≠ -2 := y2
          omega
        · refine ⟨_, rfl, (by omega), ?_⟩
          intro r6 p70
          refine ⟨fun h8 => ?_, fun h8 => ?_⟩
          · refine ⟨(by omega), ?_⟩
            have en : ((Int.toNat i : Nat) : Int) = i := by omega
            have f10 : m (50 + Int.toNat i) 10 = g (50 + Int.toNat i) 10 := f _ _ (by omega) (by omega) (by omega) (by omega)
            have f0 : m (50 + Int.toNat i) 0 = g (50 + Int.toNat i) 0 := f _ _ (by omega) (by omega) (by omega) (by omega)
            have hB : yBc v ((Int.toNat i : Nat) : Int) := by
              rw [en]
              exact h3
            refine hK _ _ (Or.inr ⟨rfl, fun z => ?_⟩) hT f
            obtain ⟨-, k2, A, z1, z2⟩ := z
            refine ySl_no hu (N := Int.toNat (g 1 1)) (by omega) hB (fun y => ?_) ⟨k2, A, z2⟩
            obtain ⟨y1, y2, y3⟩ := y
            have y2 : g (50 + Int.toNat i) 10 ≠ -2 := y2
            omega
          · refine ⟨_, _, rfl, (by omega), ?_⟩
            intro r11 p120
            refine ⟨(by have h23 := hT.fA (j := 0) (List.mem_of_getElem? (i := 22) rfl) (by decide); omega), ?_⟩
            refine ⟨fun h13 => ?_, fun h13 => ?_⟩
            · refine ⟨(by have h23 := hT.fA (j := 0) (List.mem_of_getElem? (i := 22) rfl) (by decide); omega), ?_⟩
              have yi : yw (i + 1) = i + 1 := yw_s (i + 1) (by omega) (by omega)
              rw [yi]
              have en : ((Int.toNat i : Nat) : Int) = i := by omega
              have f10 : m (50 + Int.toNat i) 10 = g (50 + Int.toNat i) 10 := f _ _ (by omega) (by omega) (by omega) (by omega)
              have f0 : m (50 + Int.toNat i) 0 = g (50 + Int.toNat i) 0 := f _ _ (by omega) (by omega) (by omega) (by omega)
              have hB : yBc v ((Int.toNat i : Nat) : Int) := by
                rw [en]
                exact h3
              have h23 := hT.fA (j := 0) (List.mem_of_getElem? (i := 22) rfl) (by decide)
              have fd : m (50 + Int.toNat r11) 0 = g (50 + Int.toNat r11) 0 := f _ _ (by omega) (by omega) (by omega) (by omega)
              have dk : k = 0 ∧ r11 = i ∨ (0 < k ∧ r11 = m 23 0) := by
                rcases p120 with ⟨q1, q2⟩ | ⟨q1, q2⟩
                · exact Or.inr ⟨by omega, q2⟩
                · exact Or.inl ⟨by omega, q2⟩
              have y5 : yw (m 5 4 + 1) = ((k + 1 : Nat) : Int) := by have := yw_s (m 5 4 + 1) (by omega) (by omega); omega
              rw [y5]
              refine ih (i + 1) (by omega) (by omega) (k + 1) _ _ yset_eq ?_ ((hT.sA (List.mem_of_getElem? (i := 22) rfl) (by decide +kernel) ⟨by omega, by omega⟩).sO (List.mem_of_getElem? (i := 5) rfl) rfl (by decide +kernel) ⟨by omega, by omega⟩) ((f.w (by omega)).w (by omega))
              rw [show Int.toNat (i + 1) = Int.toNat i + 1 by omega]
              have e23 : ∀ j : Nat, (yset (yset m 23 (Int.toNat (m 5 4)) i) 5 4 ((k + 1 : Nat) : Int)) 23 j = (yset m 23 (Int.toNat (m 5 4)) i) 23 j := fun j => yset_nc (by decide)
              refine ySl_1 hu hB (by omega) ?_ ?_ (fun j hj => ?_) ?_
              · show g (50 + Int.toNat i) 10 ≠ -2
                omega
              · show k = 0 ∨ g (50 + Int.toNat i) 0 = g (50 + Int.toNat (m 23 0)) 0
                rcases dk with ⟨d1, d2⟩ | ⟨d1, d2⟩
                · exact Or.inl d1
                · right
                  rw [← d2]
                  omega
              · rw [e23, yset_nj (by omega)]
              · rw [e23, show k = Int.toNat (m 5 4) by omega, yset_eq]
                omega
            · refine ⟨(by have h23 := hT.fA (j := 0) (List.mem_of_getElem? (i := 22) rfl) (by decide); omega), ?_⟩
              have en : ((Int.toNat i : Nat) : Int) = i := by omega
              have f10 : m (50 + Int.toNat i) 10 = g (50 + Int.toNat i) 10 := f _ _ (by omega) (by omega) (by omega) (by omega)
              have f0 : m (50 + Int.toNat i) 0 = g (50 + Int.toNat i) 0 := f _ _ (by omega) (by omega) (by omega) (by omega)
              have hB : yBc v ((Int.toNat i : Nat) : Int) := by
                rw [en]
                exact h3
              have h23 := hT.fA (j := 0) (List.mem_of_getElem? (i := 22) rfl) (by decide)
              have fd : m (50 + Int.toNat r11) 0 = g (50 + Int.toNat r11) 0 := f _ _ (by omega) (by omega) (by omega) (by omega)
              have dk : k = 0 ∧ r11 = i ∨ (0 < k ∧ r11 = m 23 0) := by
                rcases p120 with ⟨q1, q2⟩ | ⟨q1, q2⟩
                · exact Or.inr ⟨by omega, q2⟩
                · exact Or.inl ⟨by omega, q2⟩
              refine hK _ _ (Or.inr ⟨rfl, fun z => ?_⟩) hT f
              obtain ⟨-, k2, A, z1, z2⟩ := z
              refine ySl_no hu (N := Int.toNat (g 1 1)) (by omega) hB (fun y => ?_) ⟨k2, A, z2⟩
              obtain ⟨y1, y2, y3⟩ := y
              have y2 : g (50 + Int.toNat i) 10 ≠ -2 := y2
              rcases dk with ⟨d1, d2⟩ | ⟨d1, d2⟩
              · rw [d2] at h13
                omega
              · have y3 : k = 0 ∨ g (50 + Int.toNat i) 0 = g (50 + Int.toNat (m 23 0)) 0 := y3
                rw [d2] at h13 fd
                omega
set_option maxRecDepth 8000 in
theorem yv_CHS {K : List yV → yM → Prop} {Y : yNx} {g : yM} {v : Int} (hY : yCl zpD57 (zpZ, zpRS, zpP5, zpMT, [yC_HST, yC_CHA], (2, 62), 2) K Y) (hr_v : -9223372036854775808 ≤ v ∧ v ≤ 9223372036854775807) (hp0 : yTy zpZ g) (hK : ∀ (r : Int) (g' : yM), ((r = 1 ∧ yHc2 g v ∧ ∃ k : Nat, 0 < k ∧ g' 5 4 = k ∧ yCl1 g v (g' 23) (Int.toNat (g 1 1)) k) ∨ (r = 0 ∧ ¬ yOk1 g v)) → (yTy zpZ g') → (yF5 g g') → K [(1, r)] g') : Y 0 [(3, 5), (2, v), (0, 0), (0, 0), (0, 0)] [] g := by
  refine yrun_ok (sp := fun pc => Nat.beq pc 23) hY 14 0 _ [] g ?_
  show (((ycmp (ysh (fun x y => (x.toUInt64 >>> (y.toInt64.toUInt64 &&& Int64.toUInt64 63)).toInt64) v (g 1 1)) 0) = 0 → (Y 23 [(3, 5), (2, v), (0, 0), (1, 0), (0, 0)] [] (yset g 5 4 0))) ∧ (¬ ((ycmp (ysh (fun x y => (x.toUInt64 >>> (y.toInt64.toUInt64 &&& Int64.toUInt64 63)).toInt64) v (g 1 1)) 0) = 0) → (((0 : Int) ≤ 0 ∧ 0 ≤ (1 : Int)) ∧ (K [(1, 0)] (yset g 5 4 0)))))
  refine ⟨fun h1 => ?_, fun h1 => ?_⟩
  · exact yl_CHS hY hp0 h1 hK (Int.toNat (g 1 1)) 0 (by have := hp0.sz; omega) (by decide) 0 _ _ yset_eq rfl (hp0.sO (List.mem_of_getElem? (i := 5) rfl) rfl (by decide +kernel) ⟨by decide, by decide⟩) (yF5.rf.w (by omega))
  · refine ⟨(by omega), ?_⟩
    refine hK _ _ (Or.inr ⟨rfl, fun z => ?_⟩) (hp0.sO (List.mem_of_getElem? (i := 5) rfl) rfl (by decide +kernel) ⟨by decide, by decide⟩) (yF5.rf.w (by omega))
    have z1 : ycmp (ysh (fun x y => (x.toUInt64 >>> (y.toInt64.toUInt64 &&& Int64.toUInt64 63)).toInt64) v (g 1 1)) 0 = 0 := z.1
    omega
theorem yM_CHS {l : Launch} {Ts : List Cond} {cl : List vw_C} {RO : zRO} (H : zHyp Ts cl RO) : yMet l Ts cl zpZ RO zpMT yC_CHS := ymet_of2 H.1 H.2.1 zpDj H.2.2.1 yRb H.p5 (ymets_cons (yM_HST H) (ymets_cons (yM_CHA H) ymets_nil)) (zrc2 rfl) (plainFor_of_name zpy5) zpDk57 (fun as g K Y h hA hY => by
  obtain ⟨v, rfl, hp0, hK⟩ := h
  exact yv_CHS hY (yAr2 hA (by simp)) hp0 hK)
/-- the chosen: who the j-th is, its ends -/
def yAj (g : yM) (j : Nat) : Nat := Int.toNat (g 23 j)
def yEj (g : yM) (j : Nat) : Int := g (50 + yAj g j) 10
def yLj (g : yM) (j : Nat) : Int := g (50 + yAj g j) 11
/-- a number whose first n bits say P -/
def yBp (P : Nat → Prop) (n : Nat) (v : Int) : Prop := ∃ S : Nat, S < 64 ∧ v = S ∧ ∀ p : Nat, p < n → (S.testBit p = true ↔ P p)
def yP_PSO : yPT := fun as g K => ∃ (q : Int), as = [(3, 5), (1, q)] ∧ (yTy zpZ g) ∧ (0 ≤ q ∧ q < g 5 4) ∧ (∀ (r : Int), (yBp (fun p => yCp g (yAj g p) (yAj g (Int.toNat q))) (Int.toNat (g 5 4)) r) → K [(1, r)] g)
def yC_PSO : yC := (64, (2, 62), yP_PSO)
set_option maxRecDepth 8000 in
theorem yl_PSO {K : List yV → yM → Prop} {Y : yNx} {g : yM} {q : Int} (hY : yCl zpD64 (zpZ, zpRS, zpP5, zpMT, [yC_CPS], (2, 62), 1) K Y) (hG : yTy zpZ g) (hq : 0 ≤ q ∧ q < g 5 4) (hK : ∀ r : Int, yBp (fun p => yCp g (yAj g p) (yAj g (Int.toNat q))) (Int.toNat (g 5 4)) r → K [(1, r)] g) : ∀ (n : Nat) (i : Int), i + n = g 5 4 → 0 ≤ i → ∀ u : Int, (∃ S : Nat, S < 64 ∧ u = S ∧ (∀ p : Nat, p < 6 → S.testBit p = true → (p : Int) < i) ∧ ∀ p : Nat, (p : Int) < i → (S.testBit p = true ↔ yCp g (yAj g p) (yAj g (Int.toNat q)))) → Y 4 [(3, 5), (1, q), (1, u), (1, i)] [] g := by
  have h54 := hG.fO (q := 5) (j := 4) (List.mem_of_getElem? (i := 5) rfl) rfl
  have hr23 : ∀ j : Nat, j < 6 → 0 ≤ g 23 j ∧ g 23 j ≤ 39 := fun j hj => hG.fA (List.mem_of_getElem? (i := 22) rfl) hj
  intro n
  induction n with
  | zero =>
    intro i hd h0 u hu
    refine yrun_ok (sp := fun pc => Nat.beq pc 4) hY 32 4 _ [] g ?_
    show (((g 5 4) ≤ i → (K [(1, u)] g)) ∧ (¬ ((g 5 4) ≤ i) → (((0 : Int) ≤ i ∧ i < ((6 : Nat) : Int)) ∧ (((0 : Int) ≤ (g 23 (Int.toNat i)) ∧ (g 23 (Int.toNat i)) < ((40 : Nat) : Int)) ∧ (((0 : Int) ≤ q ∧ q < ((6 : Nat) : Int)) ∧ (((0 : Int) ≤ (g 23 (Int.toNat q)) ∧ (g 23 (Int.toNat q)) < ((40 : Nat) : Int)) ∧ (∃ (a2 b3 : Int), [(3, 5), (141, (g 23 (Int.toNat i))), (141, (g 23 (Int.toNat q)))] = [(3, 5), (141, a2), (141, b3)] ∧ (0 ≤ a2 ∧ a2 < 40) ∧ (0 ≤ b3 ∧ b3 < 40) ∧ (∀ (r4 : Int), ((r4 = 1 ∧ yCp g (Int.toNat a2) (Int.toNat b3)) ∨ (r4 = 0 ∧ ¬ yCp g (Int.toNat a2) (Int.toNat b3))) → ((r4 = 0 → (Y 4 [(3, 5), (1, q), (1, u), (1, (yw (i + 1)))] [] g)) ∧ (¬ (r4 = 0) → (Y 4 [(3, 5), (1, q), (1, (yb (fun x y => x ||| y) u (yb (fun x y => x <<< (y &&& 31)) 1 i))), (1, (yw (i + 1)))] [] g)))))))))))
    refine ⟨fun h1 => ?_, fun h1 => ?_⟩
    · obtain rfl : i = g 5 4 := by omega
      obtain ⟨S, s1, s2, s3, s4⟩ := hu
      exact hK u ⟨S, s1, s2, fun p hp => s4 p (by omega)⟩
    · refine ⟨(by omega), ?_⟩
      refine ⟨(by omega), ?_⟩
      refine ⟨(by omega), ?_⟩
      refine ⟨(by omega), ?_⟩
      refine ⟨_, _, rfl, (by omega), (by omega), ?_⟩
      intro r4 p50
      refine ⟨fun h6 => ?_, fun h6 => ?_⟩
      · omega
      · omega
  | succ n ih =>
    intro i hd h0 u hu
    refine yrun_ok (sp := fun pc => Nat.beq pc 4) hY 32 4 _ [] g ?_
    show (((g 5 4) ≤ i → (K [(1, u)] g)) ∧ (¬ ((g 5 4) ≤ i) → (((0 : Int) ≤ i ∧ i < ((6 : Nat) : Int)) ∧ (((0 : Int) ≤ (g 23 (Int.toNat i)) ∧ (g 23 (Int.toNat i)) < ((40 : Nat) : Int)) ∧ (((0 : Int) ≤ q ∧ q < ((6 : Nat) : Int)) ∧ (((0 : Int) ≤ (g 23 (Int.toNat q)) ∧ (g 23 (Int.toNat q)) < ((40 : Nat) : Int)) ∧ (∃ (a2 b3 : Int), [(3, 5), (141, (g 23 (Int.toNat i))), (141, (g 23 (Int.toNat q)))] = [(3, 5), (141, a2), (141, b3)] ∧ (0 ≤ a2 ∧ a2 < 40) ∧ (0 ≤ b3 ∧ b3 < 40) ∧ (∀ (r4 : Int), ((r4 = 1 ∧ yCp g (Int.toNat a2) (Int.toNat b3)) ∨ (r4 = 0 ∧ ¬ yCp g (Int.toNat a2) (Int.toNat b3))) → ((r4 = 0 → (Y 4 [(3, 5), (1, q), (1, u), (1, (yw (i + 1)))] [] g)) ∧ (¬ (r4 = 0) → (Y 4 [(3, 5), (1, q), (1, (yb (fun x y => x ||| y) u (yb (fun x y => x <<< (y &&& 31)) 1 i))), (1, (yw (i + 1)))] [] g)))))))))))
    refine ⟨fun h1 => ?_, fun h1 => ?_⟩
    · omega
    · refine ⟨(by first | omega | (have a1 := hr23 (Int.toNat i) (by omega); have a2 := hr23 (Int.toNat q) (by omega); omega)), ?_⟩
      refine ⟨(by first | omega | (have a1 := hr23 (Int.toNat i) (by omega); have a2 := hr23 (Int.toNat q) (by omega); omega)), ?_⟩
      refine ⟨(by first | omega | (have a1 := hr23 (Int.toNat i) (by omega); have a2 := hr23 (Int.toNat q) (by omega); omega)), ?_⟩
      refine ⟨(by first | omega | (have a1 := hr23 (Int.toNat i) (by omega); have a2 := hr23 (Int.toNat q) (by omega); omega)), ?_⟩
      refine ⟨_, _, rfl, (by first | omega | (have a1 := hr23 (Int.toNat i) (by omega); have a2 := hr23 (Int.toNat q) (by omega); omega)), (by first | omega | (have a1 := hr23 (Int.toNat i) (by omega); have a2 := hr23 (Int.toNat q) (by omega); omega)), ?_⟩
      intro r4 p50
      refine ⟨fun h6 => ?_, fun h6 => ?_⟩
      · have yi : yw (i + 1) = i + 1 := yw_s (i + 1) (by omega) (by omega)
        rw [yi]
        obtain ⟨S, s1, rfl, s3, s4⟩ := hu
        rcases p50 with ⟨q1, q2⟩ | ⟨q1, q2⟩
        · omega
        · refine ih (i + 1) (by omega) (by omega) _ ⟨S, s1, rfl, fun p hp hb => ?_, fun p hp => ?_⟩
          · have := s3 p hp hb
            omega
          · by_cases e : p = Int.toNat i
            · have z1 : S.testBit p ≠ true := fun z => by
                have := s3 p (by omega) z
                omega
              exact ⟨fun z => absurd z z1, fun z => absurd (by rw [e] at z; exact z) q2⟩
            · exact s4 p (by omega)
      · have yi : yw (i + 1) = i + 1 := yw_s (i + 1) (by omega) (by omega)
        rw [yi]
        obtain ⟨S, s1, rfl, s3, s4⟩ := hu
        rcases p50 with ⟨q1, q2⟩ | ⟨q1, q2⟩
        · obtain ⟨b1, b2, b3⟩ := yBo6 s1 (d := Int.toNat i) (by omega)
          rw [show ((Int.toNat i : Nat) : Int) = i by omega] at b1
          rw [b1]
          refine ih (i + 1) (by omega) (by omega) _ ⟨_, b2, rfl, fun p hp hb => ?_, fun p hp => ?_⟩
          · rcases (b3 p hp).mp hb with z | z
            · have := s3 p hp z
              omega
            · omega
          · rw [b3 p (by omega)]
            by_cases e : p = Int.toNat i
            · exact ⟨fun _ => by rw [e]; exact q2, fun _ => Or.inr e⟩
            · rw [s4 p (by omega)]
              exact ⟨fun z => z.resolve_right e, fun z => Or.inl z⟩
        · omega
set_option maxRecDepth 8000 in
theorem yv_PSO {K : List yV → yM → Prop} {Y : yNx} {g : yM} {q : Int} (hY : yCl zpD64 (zpZ, zpRS, zpP5, zpMT, [yC_CPS], (2, 62), 1) K Y) (hr_q : -2147483648 ≤ q ∧ q ≤ 2147483647) (hp0 : yTy zpZ g) (hp1 : 0 ≤ q ∧ q < g 5 4) (hK : ∀ (r : Int), (yBp (fun p => yCp g (yAj g p) (yAj g (Int.toNat q))) (Int.toNat (g 5 4)) r) → K [(1, r)] g) : Y 0 [(3, 5), (1, q), (0, 0), (0, 0)] [] g := by
  refine yrun_ok (sp := fun pc => Nat.beq pc 4) hY 5 0 _ [] g ?_
  show (Y 4 [(3, 5), (1, q), (1, 0), (1, 0)] [] g)
  exact yl_PSO hY hp0 hp1 hK (Int.toNat (g 5 4)) 0 (by omega) (by decide) 0 ⟨0, by decide, rfl, fun p hp hb => absurd hb (by rw [Nat.zero_testBit]; decide), fun p hp => absurd hp (by omega)⟩
theorem yM_PSO {l : Launch} {Ts : List Cond} {cl : List vw_C} {RO : zRO} (H : zHyp Ts cl RO) : yMet l Ts cl zpZ RO zpMT yC_PSO := ymet_of2 H.1 H.2.1 zpDj H.2.2.1 yRb H.p5 (ymets_cons (yM_CPS H) ymets_nil) (zrc1 rfl) (plainFor_of_name zpy5) zpDk64 (fun as g K Y h hA hY => by
  obtain ⟨q, rfl, hp0, hp1, hK⟩ := h
  exact yv_PSO hY (yAr1 hA (by simp)) hp0 hp1 hK)
def yP_LEO : yPT := fun as g K => ∃ (z : Int), as = [(3, 5), (1, z)] ∧ (yTy zpZ g) ∧ (0 ≤ z ∧ z < 64) ∧ (∀ (r : Int), (r = yMxE (yEj g) (Int.toNat z) (Int.toNat (g 5 4))) → K [(1, r)] g)
def yC_LEO : yC := (62, (2, 61), yP_LEO)
set_option maxRecDepth 8000 in
theorem yl_LEO {K : List yV → yM → Prop} {Y : yNx} {g : yM} {z : Int} (hY : yCl zpD62 (zpZ, zpRS, zpP5, zpMT, [yC_MX], (2, 61), 1) K Y) (hG : yTy zpZ g) (hz : 0 ≤ z ∧ z < 64) (hK : ∀ r : Int, r = yMxE (yEj g) (Int.toNat z) (Int.toNat (g 5 4)) → K [(1, r)] g) : ∀ (n : Nat) (i : Int), i + n = g 5 4 → 0 ≤ i → ∀ u : Int, u = yMxE (yEj g) (Int.toNat z) (Int.toNat i) → Y 4 [(3, 5), (1, z), (1, u), (1, i)] [] g := by
  have h54 := hG.fO (q := 5) (j := 4) (List.mem_of_getElem? (i := 5) rfl) rfl
  have hr23 : ∀ j : Nat, j < 6 → 0 ≤ g 23 j ∧ g 23 j ≤ 39 := fun j hj => hG.fA (List.mem_of_getElem? (i := 22) rfl) hj
  intro n
  induction n with
  | zero =>
    intro i hd h0 u hu
    refine yrun_ok (sp := fun pc => Nat.beq pc 4) hY 25 4 _ [] g ?_
    show (((g 5 4) ≤ i → (K [(1, u)] g)) ∧ (¬ ((g 5 4) ≤ i) → (((yb (fun x y => x &&& y) (yb (fun x y => x >>> (y &&& 31)) z i) 1) = 0 → (Y 4 [(3, 5), (1, z), (1, u), (1, (yw (i + 1)))] [] g)) ∧ (¬ ((yb (fun x y => x &&& y) (yb (fun x y => x >>> (y &&& 31)) z i) 1) = 0) → (((0 : Int) ≤ i ∧ i < ((6 : Nat) : Int)) ∧ (((0 : Int) ≤ (g 23 (Int.toNat i)) ∧ (g 23 (Int.toNat i)) < ((40 : Nat) : Int)) ∧ (∃ (a3 b4 : Int), [(1, u), (1, (g (50 + Int.toNat (g 23 (Int.toNat i))) 10))] = [(1, a3), (1, b4)] ∧ (∀ (r5 : Int), (r5 = ymx a3 b4) → (Y 4 [(3, 5), (1, z), (1, r5), (1, (yw (i + 1)))] [] g)))))))))
    refine ⟨fun h1 => ?_, fun h1 => ?_⟩
    · obtain rfl : i = g 5 4 := by omega
      exact hK u hu
    · refine ⟨fun h2 => ?_, fun h2 => ?_⟩
      · omega
      · refine ⟨(by omega), ?_⟩
        refine ⟨(by omega), ?_⟩
        refine ⟨_, _, rfl, ?_⟩
        intro r5 p60
        omega
  | succ n ih =>
    intro i hd h0 u hu
    refine yrun_ok (sp := fun pc => Nat.beq pc 4) hY 25 4 _ [] g ?_
    show (((g 5 4) ≤ i → (K [(1, u)] g)) ∧ (¬ ((g 5 4) ≤ i) → (((yb (fun x y => x &&& y) (yb (fun x y => x >>> (y &&& 31)) z i) 1) = 0 → (Y 4 [(3, 5), (1, z), (1, u), (1, (yw (i + 1)))] [] g)) ∧ (¬ ((yb (fun x y => x &&& y) (yb (fun x y => x >>> (y &&& 31)) z i) 1) = 0) → (((0 : Int) ≤ i ∧ i < ((6 : Nat) : Int)) ∧ (((0 : Int) ≤ (g 23 (Int.toNat i)) ∧ (g 23 (Int.toNat i)) < ((40 : Nat) : Int)) ∧ (∃ (a3 b4 : Int), [(1, u), (1, (g (50 + Int.toNat (g 23 (Int.toNat i))) 10))] = [(1, a3), (1, b4)] ∧ (∀ (r5 : Int), (r5 = ymx a3 b4) → (Y 4 [(3, 5), (1, z), (1, r5), (1, (yw (i + 1)))] [] g)))))))))
    refine ⟨fun h1 => ?_, fun h1 => ?_⟩
    · omega
    · refine ⟨fun h2 => ?_, fun h2 => ?_⟩
      · have yi : yw (i + 1) = i + 1 := yw_s (i + 1) (by omega) (by omega)
        rw [yi]
        have b := yBt6 (S := Int.toNat z) (i := Int.toNat i) (by omega) (by omega)
        rw [show ((Int.toNat z : Nat) : Int) = z by omega, show ((Int.toNat i : Nat) : Int) = i by omega] at b
        refine ih (i + 1) (by omega) (by omega) _ ?_
        rw [show Int.toNat (i + 1) = Int.toNat i + 1 by omega]
        have e : ¬ (Int.toNat z).testBit (Int.toNat i) = true := fun e => by
          rw [if_pos e] at b
          omega
        have e1 : yMxE (yEj g) (Int.toNat z) (Int.toNat i + 1) = yMxE (yEj g) (Int.toNat z) (Int.toNat i) := if_neg e
        rw [e1]
        exact hu
      · refine ⟨(by first | omega | (have a1 := hr23 (Int.toNat i) (by omega); omega)), ?_⟩
        refine ⟨(by first | omega | (have a1 := hr23 (Int.toNat i) (by omega); omega)), ?_⟩
        refine ⟨_, _, rfl, ?_⟩
        intro r5 p60
        have yi : yw (i + 1) = i + 1 := yw_s (i + 1) (by omega) (by omega)
        rw [yi]
        have b := yBt6 (S := Int.toNat z) (i := Int.toNat i) (by omega) (by omega)
        rw [show ((Int.toNat z : Nat) : Int) = z by omega, show ((Int.toNat i : Nat) : Int) = i by omega] at b
        refine ih (i + 1) (by omega) (by omega) _ ?_
        rw [show Int.toNat (i + 1) = Int.toNat i + 1 by omega]
        have e : (Int.toNat z).testBit (Int.toNat i) = true := by
          by_cases e : (Int.toNat z).testBit (Int.toNat i) = true
          · exact e
          · rw [if_neg e] at b
            omega
        have e1 : yMxE (yEj g) (Int.toNat z) (Int.toNat i + 1) = ymx (yMxE (yEj g) (Int.toNat z) (Int.toNat i)) (yEj g (Int.toNat i)) := if_pos e
        rw [e1, ← hu]
        exact p60
set_option maxRecDepth 8000 in
theorem yv_LEO {K : List yV → yM → Prop} {Y : yNx} {g : yM} {z : Int} (hY : yCl zpD62 (zpZ, zpRS, zpP5, zpMT, [yC_MX], (2, 61), 1) K Y) (hr_z : -2147483648 ≤ z ∧ z ≤ 2147483647) (hp0 : yTy zpZ g) (hp1 : 0 ≤ z ∧ z < 64) (hK : ∀ (r : Int), (r = yMxE (yEj g) (Int.toNat z) (Int.toNat (g 5 4))) → K [(1, r)] g) : Y 0 [(3, 5), (1, z), (0, 0), (0, 0)] [] g := by
  have h54 := hp0.fO (q := 5) (j := 4) (List.mem_of_getElem? (i := 5) rfl) rfl
  refine yrun_ok (sp := fun pc => Nat.beq pc 4) hY 5 0 _ [] g ?_
  show (Y 4 [(3, 5), (1, z), (1, 0), (1, 0)] [] g)
  exact yl_LEO hY hp0 hp1 hK (Int.toNat (g 5 4)) 0 (by omega) (by decide) 0 rfl
theorem yM_LEO {l : Launch} {Ts : List Cond} {cl : List vw_C} {RO : zRO} (H : zHyp Ts cl RO) : yMet l Ts cl zpZ RO zpMT yC_LEO := ymet_of2 H.1 H.2.1 zpDj H.2.2.1 yRb H.p5 (ymets_cons (yM_MX H) ymets_nil) (zrc1 rfl) (plainFor_of_name zpy5) zpDk62 (fun as g K Y h hA hY => by
  obtain ⟨z, rfl, hp0, hp1, hK⟩ := h
  exact yv_LEO hY (yAr1 hA (by simp)) hp0 hp1 hK)
def ymn (a b : Int) : Int := if b < a then b else a
/-- what is left as it was, when the table is made -/
def yF7 (g m : yM) : Prop := ∀ a b : Nat, a ≠ 24 → a ≠ 25 → m a b = g a b
theorem yF7.aj {g m : yM} (f : yF7 g m) (j : Nat) : yAj m j = yAj g j := by
  unfold yAj
  rw [f 23 j (by decide) (by decide)]
theorem yF7.ej {g m : yM} (f : yF7 g m) : yEj m = yEj g := funext fun j => by
  unfold yEj
  rw [f.aj, f _ 10 (by omega) (by omega)]
theorem yF7.lj {g m : yM} (f : yF7 g m) (j : Nat) : yLj m j = yLj g j := by
  unfold yLj
  rw [f.aj, f _ 11 (by omega) (by omega)]
theorem yF7.cp {g m : yM} (f : yF7 g m) (p q : Nat) : yCp m p q ↔ yCp g p q := by
  unfold yCp
  rw [f (50 + p) 0 (by omega) (by omega), f (50 + q) 0 (by omega) (by omega), f 1 10 (by decide) (by decide), f (50 + p) 7 (by omega) (by omega), f (50 + q) 7 (by omega) (by omega), f (50 + p) 1 (by omega) (by omega), f (50 + q) 1 (by omega) (by omega), f 1 9 (by decide) (by decide)]
def yCD (D : Nat → Int) (p q : Nat) : Bool := (Int.toNat (D q)).testBit p
/-- the table below S -/
def yTb (n : Nat) (E L : Nat → Int) (c : Nat → Nat → Bool) (fw : Nat → Int) (S : Nat) : Prop := fw 0 = 0 ∧ (∀ T : Nat, T < S → 0 ≤ fw T ∧ fw T ≤ 1000) ∧ ∀ T : Nat, T ≠ 0 → T < S → (∀ l : Nat, l < n → T.testBit l = true → yMxE E T n ≤ L l → fw T ≤ fw (yRmv T l) + yCt c (yRmv T l) l n) ∧ (fw T = 1000 ∨ ∃ l : Nat, l < n ∧ T.testBit l = true ∧ yMxE E T n ≤ L l ∧ fw T = fw (yRmv T l) + yCt c (yRmv T l) l n)
def yPV (n : Nat) (E L : Nat → Int) (c : Nat → Nat → Bool) (fw : Nat → Int) (S k : Nat) (cur : Int) : Prop := (0 ≤ cur ∧ cur ≤ 1000) ∧ (∀ l : Nat, l < k → S.testBit l = true → yMxE E S n ≤ L l → cur ≤ fw (yRmv S l) + yCt c (yRmv S l) l n) ∧ (cur = 1000 ∨ ∃ l : Nat, l < k ∧ S.testBit l = true ∧ yMxE E S n ≤ L l ∧ cur = fw (yRmv S l) + yCt c (yRmv S l) l n)
theorem yPV.skip {n : Nat} {E L : Nat → Int} {c : Nat → Nat → Bool} {fw : Nat → Int} {S k : Nat} {cur : Int} (h : yPV n E L c fw S k cur) (hn : ¬ (S.testBit k = true ∧ yMxE E S n ≤ L k)) : yPV n E L c fw S (k + 1) cur := by
  obtain ⟨h1, h2, h3⟩ := h
  refine ⟨h1, fun l hl hb hm => ?_, h3.imp id (fun ⟨l, l1, l2⟩ => ⟨l, by omega, l2⟩)⟩
  by_cases e : l = k
  · rw [e] at hb hm
    exact absurd ⟨hb, hm⟩ hn
  · exact h2 l (by omega) hb hm
theorem yPV.take {n : Nat} {E L : Nat → Int} {c : Nat → Nat → Bool} {fw : Nat → Int} {S k : Nat} {cur x : Int} (h : yPV n E L c fw S k cur) (hb : S.testBit k = true) (hm : yMxE E S n ≤ L k) (hx : x = fw (yRmv S k) + yCt c (yRmv S k) k n) (h0 : 0 ≤ x) : yPV n E L c fw S (k + 1) (ymn cur x) := by
  obtain ⟨h1, h2, h3⟩ := h
  unfold ymn
  by_cases c1 : x < cur
  · rw [if_pos c1]
    refine ⟨by omega, fun l hl hb2 hm2 => ?_, Or.inr ⟨k, by omega, hb, hm, hx⟩⟩
    by_cases e : l = k
    · rw [e]
      omega
    · have := h2 l (by omega) hb2 hm2
      omega
  · rw [if_neg c1]
    refine ⟨h1, fun l hl hb2 hm2 => ?_, h3.imp id (fun ⟨l, l1, l2⟩ => ⟨l, by omega, l2⟩)⟩
    by_cases e : l = k
    · rw [e]
      omega
    · exact h2 l (by omega) hb2 hm2
theorem yTb.step {n : Nat} {E L : Nat → Int} {c : Nat → Nat → Bool} {fw fw' : Nat → Int} {S : Nat} (hn : n ≤ 6) (hS : S < 2 ^ n) (h0 : S ≠ 0) (h : yTb n E L c fw S) (he : ∀ T : Nat, T < S → fw' T = fw T) (hp : yPV n E L c fw S n (fw' S)) : yTb n E L c fw' (S + 1) := by
  obtain ⟨h1, h2, h3⟩ := h
  obtain ⟨p1, p2, p3⟩ := hp
  refine ⟨by rw [he 0 (by omega)]; exact h1, fun T hT => ?_, fun T t0 hT => ?_⟩
  · by_cases e : T = S
    · rw [e]
      exact p1
    · rw [he T (by omega)]
      exact h2 T (by omega)
  · by_cases e : T = S
    · subst e
      have key : ∀ l : Nat, l < n → T.testBit l = true → fw' (yRmv T l) = fw (yRmv T l) := fun l hl hb => he _ (yRmv_p hn hS hl hb).1
      refine ⟨fun l hl hb hm => by rw [key l hl hb]; exact p2 l hl hb hm, p3.imp id (fun ⟨l, l1, l2, l3, l4⟩ => ⟨l, l1, l2, l3, by rw [key l l1 l2]; exact l4⟩)⟩
    · have key : ∀ l : Nat, l < n → T.testBit l = true → fw' (yRmv T l) = fw (yRmv T l) := fun l hl hb => he _ (by have := (yRmv_p (S := T) hn (by omega) hl hb).1; omega)
      rw [he T (by omega)]
      obtain ⟨q1, q2⟩ := h3 T t0 (by omega)
      exact ⟨fun l hl hb hm => by rw [key l hl hb]; exact q1 l hl hb hm, q2.imp id (fun ⟨l, l1, l2, l3, l4⟩ => ⟨l, l1, l2, l3, by rw [key l l1 l2]; exact l4⟩)⟩
theorem yTb.dp {n : Nat} {E L : Nat → Int} {c : Nat → Nat → Bool} {fw : Nat → Int} (h : yTb n E L c fw (2 ^ n)) : yDP n E L c fw := ⟨h.1, fun S h0 hS => (h.2.2 S h0 hS).1, fun S h0 hS => (h.2.2 S h0 hS).2⟩
theorem yPw2 {n : Nat} (hn : n ≤ 6) : 1 ≤ 2 ^ n ∧ 2 ^ n ≤ 64 := by
  have key : ∀ n : Fin 7, 1 ≤ 2 ^ n.val ∧ 2 ^ n.val ≤ 64 := by decide +kernel
  exact key ⟨n, by omega⟩
def yP_MN : yPT := fun as g K => ∃ (a b : Int), as = [(1, a), (1, b)] ∧ (∀ (r : Int), (r = ymn a b) → K [(1, r)] g)
def yC_MN : yC := (219, (1, 40), yP_MN)
set_option maxRecDepth 8000 in
theorem yv_MN {K : List yV → yM → Prop} {Y : yNx} {g : yM} {a b : Int} (hY : yCl zpD219 (zpZ, zpRS, zpP14, zpMT, [], (1, 40), 1) K Y) (hr_a : -2147483648 ≤ a ∧ a ≤ 2147483647) (hr_b : -2147483648 ≤ b ∧ b ≤ 2147483647) (hK : ∀ (r : Int), (r = ymn a b) → K [(1, r)] g) : Y 0 [(1, a), (1, b)] [] g := by
  refine yrun_ok (sp := fun pc => false) hY 6 0 _ [] g ?_
  show ((b < a → (K [(1, b)] g)) ∧ (¬ (b < a) → (K [(1, a)] g)))
  refine ⟨fun h1 => ?_, fun h1 => ?_⟩
  · exact hK _ (if_pos (by omega)).symm
  · exact hK _ (if_neg (by omega)).symm
theorem yM_MN {l : Launch} {Ts : List Cond} {cl : List vw_C} {RO : zRO} (H : zHyp Ts cl RO) : yMet l Ts cl zpZ RO zpMT yC_MN := ymet_of2 H.1 H.2.1 zpDj H.2.2.1 yRb H.p14 ymets_nil (zrc1 rfl) (by decide +kernel) zpDk219 (fun as g K Y h hA hY => by
  obtain ⟨a, b, rfl, hK⟩ := h
  exact yv_MN hY (yAr1 hA (by simp)) (yAr1 hA (by simp)) hK)
def yP_FWA : yPT := fun as g K => as = [(3, 5)] ∧ (yTy zpZ g) ∧ (∀ (r : Int) (g' : yM), (∃ (n : Nat) (D : Nat → Int) (fw : Nat → Int), (n : Int) = g 5 4 ∧ (∀ p q : Nat, p < n → q < n → (yCD D p q = true ↔ yCp g (yAj g p) (yAj g q))) ∧ yDP n (yEj g) (yLj g) (yCD D) fw ∧ r = fw (2 ^ n - 1)) → (yTy zpZ g') → (yF7 g g') → K [(1, r)] g')
def yC_FWA : yC := (60, (3, 85), yP_FWA)
set_option maxRecDepth 8000 in
theorem yl_FWAc {K : List yV → yM → Prop} {Y : yNx} {g : yM} {n : Nat} {D : Nat → Int} {S : Nat} {z x e : Int} {fw : Nat → Int} (hY : yCl zpD60 (zpZ, zpRS, zpP5, zpMT, [yC_PSO, yC_LEO, yC_BCO, yC_MN], (3, 85), 1) K Y) (hG : yTy zpZ g) (hn : (n : Int) = g 5 4) (hn6 : n ≤ 6) (hD : ∀ j : Nat, j < n → yBp (fun p => yCp g (yAj g p) (yAj g j)) n (D j)) (hx : x = (S : Int)) (hS : S < 2 ^ n) (h0 : S ≠ 0) (he : e = yMxE (yEj g) S n) (hT0 : yTb n (yEj g) (yLj g) (yCD D) fw S) (hE : ∀ (m : yM) (y5 y6 : yV), yPV n (yEj g) (yLj g) (yCD D) fw S n (m 25 S) → yTy zpZ m → yF7 g m → (∀ j : Nat, m 24 j = D j) → (∀ T : Nat, T < S → m 25 T = fw T) → Y 165 [(3, 5), (1, z), (1, x), (1, e), (1, (n : Int)), y5, y6] [] m) : ∀ (d : Nat) (l : Nat), l + d = n → ∀ (m : yM) (u5 u6 : yV), yPV n (yEj g) (yLj g) (yCD D) fw S l (m 25 S) → yTy zpZ m → yF7 g m → (∀ j : Nat, m 24 j = D j) → (∀ T : Nat, T < S → m 25 T = fw T) → Y 72 [(3, 5), (1, z), (1, x), (1, e), (1, (l : Int)), u5, u6] [] m := by
  have h64 := yPw2 hn6
  intro d
  induction d with
  | zero =>
    intro l hd m u5 u6 hp hT f h24 h25
    have e54 : m 5 4 = g 5 4 := f 5 4 (by decide) (by decide)
    refine yrun_ok (sp := fun pc => Nat.beq pc 72 || Nat.beq pc 165) hY 52 72 _ [] m ?_
    show (((m 5 4) ≤ (l : Int) → (Y 165 [(3, 5), (1, z), (1, x), (1, e), (1, (l : Int)), u5, u6] [] m)) ∧ (¬ ((m 5 4) ≤ (l : Int)) → (((yb (fun x y => x &&& y) x (yb (fun x y => x ^^^ y) (yb (fun x y => x <<< (y &&& 31)) 1 (l : Int)) (-1))) = x → (Y 72 [(3, 5), (1, z), (1, x), (1, e), (1, (yw ((l : Int) + 1))), (1, (yb (fun x y => x &&& y) x (yb (fun x y => x ^^^ y) (yb (fun x y => x <<< (y &&& 31)) 1 (l : Int)) (-1)))), u6] [] m)) ∧ (¬ ((yb (fun x y => x &&& y) x (yb (fun x y => x ^^^ y) (yb (fun x y => x <<< (y &&& 31)) 1 (l : Int)) (-1))) = x) → (((0 : Int) ≤ (l : Int) ∧ (l : Int) < ((6 : Nat) : Int)) ∧ (((0 : Int) ≤ (m 23 (Int.toNat (l : Int))) ∧ (m 23 (Int.toNat (l : Int))) < ((40 : Nat) : Int)) ∧ (((m (50 + Int.toNat (m 23 (Int.toNat (l : Int)))) 11) < e → (Y 72 [(3, 5), (1, z), (1, x), (1, e), (1, (yw ((l : Int) + 1))), (1, (yb (fun x y => x &&& y) x (yb (fun x y => x ^^^ y) (yb (fun x y => x <<< (y &&& 31)) 1 (l : Int)) (-1)))), u6] [] m)) ∧ (¬ ((m (50 + Int.toNat (m 23 (Int.toNat (l : Int)))) 11) < e) → (((0 : Int) ≤ (yb (fun x y => x &&& y) x (yb (fun x y => x ^^^ y) (yb (fun x y => x <<< (y &&& 31)) 1 (l : Int)) (-1))) ∧ (yb (fun x y => x &&& y) x (yb (fun x y => x ^^^ y) (yb (fun x y => x <<< (y &&& 31)) 1 (l : Int)) (-1))) < ((64 : Nat) : Int)) ∧ (((0 : Int) ≤ (l : Int) ∧ (l : Int) < ((6 : Nat) : Int)) ∧ (∃ (z4 : Int), [(1, (yb (fun x y => x &&& y) (yb (fun x y => x &&& y) x (yb (fun x y => x ^^^ y) (yb (fun x y => x <<< (y &&& 31)) 1 (l : Int)) (-1))) (m 24 (Int.toNat (l : Int)))))] = [(1, z4)] ∧ (0 ≤ z4 ∧ z4 < 64) ∧ (∀ (r5 : Int), (r5 = yPc (Int.toNat z4) 6) → (((0 : Int) ≤ x ∧ x < ((64 : Nat) : Int)) ∧ (∃ (a7 b8 : Int), [(1, (m 25 (Int.toNat x))), (1, (yw ((m 25 (Int.toNat (yb (fun x y => x &&& y) x (yb (fun x y => x ^^^ y) (yb (fun x y => x <<< (y &&& 31)) 1 (l : Int)) (-1))))) + r5)))] = [(1, a7), (1, b8)] ∧ (∀ (r9 : Int), (r9 = ymn a7 b8) → (((0 : Int) ≤ x ∧ x < ((64 : Nat) : Int)) ∧ (Y 72 [(3, 5), (1, z), (1, x), (1, e), (1, (yw ((l : Int) + 1))), (1, (yb (fun x y => x &&& y) x (yb (fun x y => x ^^^ y) (yb (fun x y => x <<< (y &&& 31)) 1 (l : Int)) (-1)))), (1, (yw ((m 25 (Int.toNat (yb (fun x y => x &&& y) x (yb (fun x y => x ^^^ y) (yb (fun x y => x <<< (y &&& 31)) 1 (l : Int)) (-1))))) + r5)))] [] (yset m 25 (Int.toNat x) r9))))))))))))))))))
    refine ⟨fun h1 => ?_, fun h1 => ?_⟩
    · obtain rfl : l = n := by omega
      exact hE m _ _ hp hT f h24 h25
    · refine ⟨fun h2 => ?_, fun h2 => ?_⟩
      · omega
      · refine ⟨(by omega), ?_⟩
        refine ⟨(by omega), ?_⟩
        refine ⟨fun h3 => ?_, fun h3 => ?_⟩
        · omega
        · refine ⟨(by omega), ?_⟩
          refine ⟨(by omega), ?_⟩
          refine ⟨_, rfl, (by omega), ?_⟩
          intro r5 p60
          refine ⟨(by omega), ?_⟩
          refine ⟨_, _, rfl, ?_⟩
          intro r9 p100
          refine ⟨(by omega), ?_⟩
          omega
  | succ d ih =>
    intro l hd m u5 u6 hp hT f h24 h25
    have e54 : m 5 4 = g 5 4 := f 5 4 (by decide) (by decide)
    have eR : (yb (fun x y => x &&& y) x (yb (fun x y => x ^^^ y) (yb (fun x y => x <<< (y &&& 31)) 1 (l : Int)) (-1))) = ((yRmv S l : Nat) : Int) := by
      rw [hx]
      exact yBx6 (by omega) (by omega)
    have rf := yRmv_f (S := S) (l := l) (by omega) (by omega)
    have hz := hG.sz
    have r23 : 0 ≤ m 23 l ∧ m 23 l ≤ 39 := hT.fA (List.mem_of_getElem? (i := 22) rfl) (by omega)
    have eL : m (50 + Int.toNat (m 23 l)) 11 = yLj g l := f.lj l
    obtain ⟨P, p1, p2, p3⟩ := hD l (by omega)
    have e24 : m 24 l = (P : Int) := (h24 l).trans p2
    have rb : S.testBit l = true ∨ yRmv S l = S := by
      by_cases q : S.testBit l = true
      · exact Or.inl q
      · exact Or.inr (rf.2.2 q)
    have rle : yRmv S l ≤ S := by
      rcases rb with q | q
      · have := rf.2.1 q
        omega
      · omega
    obtain ⟨ba1, ba2, ba3⟩ := yBa6 (T := yRmv S l) (P := P) (by omega) p1
    have etn : Int.toNat ((l : Nat) : Int) = l := Int.toNat_natCast l
    refine yrun_ok (sp := fun pc => Nat.beq pc 72 || Nat.beq pc 165) hY 52 72 _ [] m ?_
    show (((m 5 4) ≤ (l : Int) → (Y 165 [(3, 5), (1, z), (1, x), (1, e), (1, (l : Int)), u5, u6] [] m)) ∧ (¬ ((m 5 4) ≤ (l : Int)) → (((yb (fun x y => x &&& y) x (yb (fun x y => x ^^^ y) (yb (fun x y => x <<< (y &&& 31)) 1 (l : Int)) (-1))) = x → (Y 72 [(3, 5), (1, z), (1, x), (1, e), (1, (yw ((l : Int) + 1))), (1, (yb (fun x y => x &&& y) x (yb (fun x y => x ^^^ y) (yb (fun x y => x <<< (y &&& 31)) 1 (l : Int)) (-1)))), u6] [] m)) ∧ (¬ ((yb (fun x y => x &&& y) x (yb (fun x y => x ^^^ y) (yb (fun x y => x <<< (y &&& 31)) 1 (l : Int)) (-1))) = x) → (((0 : Int) ≤ (l : Int) ∧ (l : Int) < ((6 : Nat) : Int)) ∧ (((0 : Int) ≤ (m 23 (Int.toNat (l : Int))) ∧ (m 23 (Int.toNat (l : Int))) < ((40 : Nat) : Int)) ∧ (((m (50 + Int.toNat (m 23 (Int.toNat (l : Int)))) 11) < e → (Y 72 [(3, 5), (1, z), (1, x), (1, e), (1, (yw ((l : Int) + 1))), (1, (yb (fun x y => x &&& y) x (yb (fun x y => x ^^^ y) (yb (fun x y => x <<< (y &&& 31)) 1 (l : Int)) (-1)))), u6] [] m)) ∧ (¬ ((m (50 + Int.toNat (m 23 (Int.toNat (l : Int)))) 11) < e) → (((0 : Int) ≤ (yb (fun x y => x &&& y) x (yb (fun x y => x ^^^ y) (yb (fun x y => x <<< (y &&& 31)) 1 (l : Int)) (-1))) ∧ (yb (fun x y => x &&& y) x (yb (fun x y => x ^^^ y) (yb (fun x y => x <<< (y &&& 31)) 1 (l : Int)) (-1))) < ((64 : Nat) : Int)) ∧ (((0 : Int) ≤ (l : Int) ∧ (l : Int) < ((6 : Nat) : Int)) ∧ (∃ (z4 : Int), [(1, (yb (fun x y => x &&& y) (yb (fun x y => x &&& y) x (yb (fun x y => x ^^^ y) (yb (fun x y => x <<< (y &&& 31)) 1 (l : Int)) (-1))) (m 24 (Int.toNat (l : Int)))))] = [(1, z4)] ∧ (0 ≤ z4 ∧ z4 < 64) ∧ (∀ (r5 : Int), (r5 = yPc (Int.toNat z4) 6) → (((0 : Int) ≤ x ∧ x < ((64 : Nat) : Int)) ∧ (∃ (a7 b8 : Int), [(1, (m 25 (Int.toNat x))), (1, (yw ((m 25 (Int.toNat (yb (fun x y => x &&& y) x (yb (fun x y => x ^^^ y) (yb (fun x y => x <<< (y &&& 31)) 1 (l : Int)) (-1))))) + r5)))] = [(1, a7), (1, b8)] ∧ (∀ (r9 : Int), (r9 = ymn a7 b8) → (((0 : Int) ≤ x ∧ x < ((64 : Nat) : Int)) ∧ (Y 72 [(3, 5), (1, z), (1, x), (1, e), (1, (yw ((l : Int) + 1))), (1, (yb (fun x y => x &&& y) x (yb (fun x y => x ^^^ y) (yb (fun x y => x <<< (y &&& 31)) 1 (l : Int)) (-1)))), (1, (yw ((m 25 (Int.toNat (yb (fun x y => x &&& y) x (yb (fun x y => x ^^^ y) (yb (fun x y => x <<< (y &&& 31)) 1 (l : Int)) (-1))))) + r5)))] [] (yset m 25 (Int.toNat x) r9))))))))))))))))))
    refine ⟨fun h1 => ?_, fun h1 => ?_⟩
    · omega
    · refine ⟨fun h2 => ?_, fun h2 => ?_⟩
      · have yl : yw ((l : Int) + 1) = ((l + 1 : Nat) : Int) := by have := yw_s ((l : Int) + 1) (by omega) (by omega); omega
        rw [yl]
        refine ih (l + 1) (by omega) m _ _ (hp.skip (fun y => ?_)) hT f h24 h25
        have y1 := rf.2.1 y.1
        have y2 := y.2
        rw [← he] at y2
        try rw [eR] at h1
        try rw [etn] at h1
        try rw [eR] at h2
        try rw [etn] at h2
        omega
      · refine ⟨(by first | omega | (rw [eR]; omega) | (rw [etn]; omega) | (rw [eR, etn]; omega)), ?_⟩
        refine ⟨(by first | omega | (rw [eR]; omega) | (rw [etn]; omega) | (rw [eR, etn]; omega)), ?_⟩
        refine ⟨fun h3 => ?_, fun h3 => ?_⟩
        · have yl : yw ((l : Int) + 1) = ((l + 1 : Nat) : Int) := by have := yw_s ((l : Int) + 1) (by omega) (by omega); omega
          rw [yl]
          refine ih (l + 1) (by omega) m _ _ (hp.skip (fun y => ?_)) hT f h24 h25
          have y1 := rf.2.1 y.1
          have y2 := y.2
          rw [← he] at y2
          try rw [eR] at h1
          try rw [etn] at h1
          try rw [eR] at h2
          try rw [etn] at h2
          try rw [eR] at h3
          try rw [etn] at h3
          omega
        · refine ⟨(by first | omega | (rw [eR]; omega) | (rw [etn]; omega) | (rw [eR, etn]; omega)), ?_⟩
          refine ⟨(by first | omega | (rw [eR]; omega) | (rw [etn]; omega) | (rw [eR, etn]; omega)), ?_⟩
          refine ⟨_, rfl, (by rw [eR, etn, e24, ba1]; omega), ?_⟩
          intro r5 p60
          refine ⟨(by first | omega | (rw [eR]; omega) | (rw [etn]; omega) | (rw [eR, etn]; omega)), ?_⟩
          refine ⟨_, _, rfl, ?_⟩
          intro r9 p100
          refine ⟨(by first | omega | (rw [eR]; omega) | (rw [etn]; omega) | (rw [eR, etn]; omega)), ?_⟩
          have yl : yw ((l : Int) + 1) = ((l + 1 : Nat) : Int) := by have := yw_s ((l : Int) + 1) (by omega) (by omega); omega
          try rw [eR] at h1
          try rw [etn] at h1
          try rw [eR] at h2
          try rw [etn] at h2
          try rw [eR] at h3
          try rw [etn] at h3
          have hb : S.testBit l = true := by
            rcases rb with q | q
            · exact q
            · omega
          have rl := rf.2.1 hb
          have q1 : r5 = yPc (yRmv S l &&& P) 6 := by
            have q2 := p60
            rw [eR, etn, e24, ba1, Int.toNat_natCast] at q2
            exact q2
          have q3 := yPc_ct (c := yCD D) (T := yRmv S l) (P := P) (l := l) (n := n) (fun p hp2 => by
            show P.testBit p = true ↔ (Int.toNat (D l)).testBit p = true
            rw [p2, Int.toNat_natCast]) 6 (by decide) (fun i hi => by
            by_cases c1 : i < n
            · exact Or.inl c1
            · refine Or.inr (fun c2 => c1 ((yS_b hn6 hS).2.1 i hi ?_))
              exact ((rf.1 i hi).mp c2).1) _ ba3
          have q4 := yCt_up (c := yCD D) (T := yRmv S l) (l := l) (n := n) 6 hn6 (fun i h1 h2 c2 => by
            have := (yS_b hn6 hS).2.1 i h2 ((rf.1 i h2).mp c2).1
            omega)
          have cb := @yCt_b (yCD D) (yRmv S l) l n
          have tb := hT0.2.1 (yRmv S l) rl
          have e25 : m 25 (Int.toNat (yb (fun x y => x &&& y) x (yb (fun x y => x ^^^ y) (yb (fun x y => x <<< (y &&& 31)) 1 (l : Int)) (-1)))) = fw (yRmv S l) := by
            rw [eR, Int.toNat_natCast]
            exact h25 _ rl
          have hc0 := hp.1
          have hm : yMxE (yEj g) S n ≤ yLj g l := by
            omega
          have q5 : r9 = ymn (m 25 S) (fw (yRmv S l) + yCt (yCD D) (yRmv S l) l n) := by
            have q6 := p100
            rw [e25, hx, Int.toNat_natCast, q1, q3, q4, yw_s (fw (yRmv S l) + yCt (yCD D) (yRmv S l) l n) (by omega) (by omega)] at q6
            exact q6
          have hp2 := hp.take hb hm rfl (by omega)
          rw [← q5] at hp2
          have hb2 := hp2.1
          rw [yl, show Int.toNat x = S by omega]
          refine ih (l + 1) (by omega) _ _ _ ?_ (hT.sA (List.mem_of_getElem? (i := 24) rfl) (by decide +kernel) ⟨by omega, by omega⟩) (fun a b c1 c2 => (yset_nc c2).trans (f a b c1 c2)) (fun j => (yset_nc (by decide)).trans (h24 j)) (fun T hT2 => (yset_nj (by omega)).trans (h25 T hT2))
          rw [yset_eq]
          exact hp2
set_option maxRecDepth 8000 in
theorem yt_FWA {K : List yV → yM → Prop} {Y : yNx} {m : yM} {S : Nat} {z : Int} {u3 u4 u5 u6 : yV} (hY : yCl zpD60 (zpZ, zpRS, zpP5, zpMT, [yC_PSO, yC_LEO, yC_BCO, yC_MN], (3, 85), 1) K Y) (hS : S < 64) (hE : Y 43 [(3, 5), (1, z), (1, ((S + 1 : Nat) : Int)), u3, u4, u5, u6] [] m) : Y 165 [(3, 5), (1, z), (1, (S : Int)), u3, u4, u5, u6] [] m := by
  refine yrun_ok (sp := fun pc => Nat.beq pc 43) hY 3 165 _ [] m ?_
  show (Y 43 [(3, 5), (1, z), (1, (yw ((S : Int) + 1))), u3, u4, u5, u6] [] m)
  rw [show yw ((S : Int) + 1) = ((S + 1 : Nat) : Int) from by have := yw_s ((S : Int) + 1) (by omega) (by omega); omega]
  exact hE
set_option maxRecDepth 8000 in
theorem yl_FWAb {K : List yV → yM → Prop} {Y : yNx} {g : yM} {n : Nat} {D : Nat → Int} {z : Int} (hY : yCl zpD60 (zpZ, zpRS, zpP5, zpMT, [yC_PSO, yC_LEO, yC_BCO, yC_MN], (3, 85), 1) K Y) (hG : yTy zpZ g) (hn : (n : Int) = g 5 4) (hn6 : n ≤ 6) (hD : ∀ j : Nat, j < n → yBp (fun p => yCp g (yAj g p) (yAj g j)) n (D j)) (hz2 : z = ((2 ^ n : Nat) : Int)) (hK : ∀ (r : Int) (g' : yM), (∃ (n : Nat) (D : Nat → Int) (fw : Nat → Int), (n : Int) = g 5 4 ∧ (∀ p q : Nat, p < n → q < n → (yCD D p q = true ↔ yCp g (yAj g p) (yAj g q))) ∧ yDP n (yEj g) (yLj g) (yCD D) fw ∧ r = fw (2 ^ n - 1)) → (yTy zpZ g') → (yF7 g g') → K [(1, r)] g') : ∀ (d : Nat) (S : Nat), S + d = 2 ^ n → S ≠ 0 → ∀ (m : yM) (u3 u4 u5 u6 : yV), yTb n (yEj g) (yLj g) (yCD D) (m 25) S → yTy zpZ m → yF7 g m → (∀ j : Nat, m 24 j = D j) → Y 43 [(3, 5), (1, z), (1, (S : Int)), u3, u4, u5, u6] [] m := by
  have h64 := yPw2 hn6
  have hcp : ∀ p q : Nat, p < n → q < n → (yCD D p q = true ↔ yCp g (yAj g p) (yAj g q)) := fun p q h1 h2 => by
    obtain ⟨P, p1, p2, p3⟩ := hD q h2
    have e : yCD D p q = P.testBit p := by
      unfold yCD
      rw [p2, Int.toNat_natCast]
    rw [e]
    exact p3 p h1
  intro d
  induction d with
  | zero =>
    intro S hd h0 m u3 u4 u5 u6 hb hT f h24
    refine yrun_ok (sp := fun pc => Nat.beq pc 43 || Nat.beq pc 72) hY 18 43 _ [] m ?_
    show ((z ≤ (S : Int) → (((0 : Int) ≤ (yw (z - 1)) ∧ (yw (z - 1)) < ((64 : Nat) : Int)) ∧ (K [(1, (m 25 (Int.toNat (yw (z - 1)))))] m))) ∧ (¬ (z ≤ (S : Int)) → ((64 ≤ (S : Int) → (((0 : Int) ≤ (yw (z - 1)) ∧ (yw (z - 1)) < ((64 : Nat) : Int)) ∧ (K [(1, (m 25 (Int.toNat (yw (z - 1)))))] m))) ∧ (¬ (64 ≤ (S : Int)) → (∃ (z3 : Int), [(3, 5), (1, (S : Int))] = [(3, 5), (1, z3)] ∧ (yTy zpZ m) ∧ (0 ≤ z3 ∧ z3 < 64) ∧ (∀ (r4 : Int), (r4 = yMxE (yEj m) (Int.toNat z3) (Int.toNat (m 5 4))) → (((0 : Int) ≤ (S : Int) ∧ (S : Int) < ((64 : Nat) : Int)) ∧ (Y 72 [(3, 5), (1, z), (1, (S : Int)), (1, r4), (1, 0), u5, u6] [] (yset m 25 (Int.toNat (S : Int)) 1000)))))))))
    refine ⟨fun h1 => ?_, fun h1 => ?_⟩
    · refine ⟨(by have := yw_s (z - 1) (by omega) (by omega); omega), ?_⟩
      first
        | omega
        | (obtain rfl : S = 2 ^ n := by omega
           rw [show Int.toNat (yw (z - 1)) = 2 ^ n - 1 by have := yw_s (z - 1) (by omega) (by omega); omega]
           exact hK _ m ⟨n, D, m 25, hn, hcp, hb.dp, rfl⟩ hT f)
    · refine ⟨fun h2 => ?_, fun h2 => ?_⟩
      · refine ⟨(by have := yw_s (z - 1) (by omega) (by omega); omega), ?_⟩
        first
          | omega
          | (obtain rfl : S = 2 ^ n := by omega
             rw [show Int.toNat (yw (z - 1)) = 2 ^ n - 1 by have := yw_s (z - 1) (by omega) (by omega); omega]
             exact hK _ m ⟨n, D, m 25, hn, hcp, hb.dp, rfl⟩ hT f)
      · refine ⟨_, rfl, (by have := yw_s (z - 1) (by omega) (by omega); omega), (by have := yw_s (z - 1) (by omega) (by omega); omega), ?_⟩
        intro r4 p50
        refine ⟨(by have := yw_s (z - 1) (by omega) (by omega); omega), ?_⟩
        omega
  | succ d ih =>
    intro S hd h0 m u3 u4 u5 u6 hb hT f h24
    refine yrun_ok (sp := fun pc => Nat.beq pc 43 || Nat.beq pc 72) hY 18 43 _ [] m ?_
    show ((z ≤ (S : Int) → (((0 : Int) ≤ (yw (z - 1)) ∧ (yw (z - 1)) < ((64 : Nat) : Int)) ∧ (K [(1, (m 25 (Int.toNat (yw (z - 1)))))] m))) ∧ (¬ (z ≤ (S : Int)) → ((64 ≤ (S : Int) → (((0 : Int) ≤ (yw (z - 1)) ∧ (yw (z - 1)) < ((64 : Nat) : Int)) ∧ (K [(1, (m 25 (Int.toNat (yw (z - 1)))))] m))) ∧ (¬ (64 ≤ (S : Int)) → (∃ (z3 : Int), [(3, 5), (1, (S : Int))] = [(3, 5), (1, z3)] ∧ (yTy zpZ m) ∧ (0 ≤ z3 ∧ z3 < 64) ∧ (∀ (r4 : Int), (r4 = yMxE (yEj m) (Int.toNat z3) (Int.toNat (m 5 4))) → (((0 : Int) ≤ (S : Int) ∧ (S : Int) < ((64 : Nat) : Int)) ∧ (Y 72 [(3, 5), (1, z), (1, (S : Int)), (1, r4), (1, 0), u5, u6] [] (yset m 25 (Int.toNat (S : Int)) 1000)))))))))
    refine ⟨fun h1 => ?_, fun h1 => ?_⟩
    · refine ⟨(by have := yw_s (z - 1) (by omega) (by omega); omega), ?_⟩
      omega
    · refine ⟨fun h2 => ?_, fun h2 => ?_⟩
      · refine ⟨(by have := yw_s (z - 1) (by omega) (by omega); omega), ?_⟩
        omega
      · refine ⟨_, rfl, (hT), (by have := yw_s (z - 1) (by omega) (by omega); omega), ?_⟩
        intro r4 p50
        refine ⟨(by have := yw_s (z - 1) (by omega) (by omega); omega), ?_⟩
        have e54 : m 5 4 = g 5 4 := f 5 4 (by decide) (by decide)
        have es : Int.toNat (S : Int) = S := Int.toNat_natCast S
        have q1 : r4 = yMxE (yEj g) S n := by
          have q2 := p50
          rw [f.ej, es, show Int.toNat (m 5 4) = n by omega] at q2
          exact q2
        rw [es]
        refine yl_FWAc (g := g) (n := n) (D := D) (S := S) (fw := m 25) hY hG hn hn6 hD rfl (by omega) h0 q1 hb (fun m2 y5 y6 k1 k2 k3 k4 k5 => ?_) n 0 (by omega) _ _ _ ?_ (hT.sA (List.mem_of_getElem? (i := 24) rfl) (by decide +kernel) ⟨by decide, by decide⟩) (fun a b c1 c2 => (yset_nc c2).trans (f a b c1 c2)) (fun j => (yset_nc (by decide)).trans (h24 j)) (fun T hT2 => yset_nj (by omega))
        · exact yt_FWA hY (by omega) (ih (S + 1) (by omega) (by omega) m2 _ _ _ _ (yTb.step hn6 (by omega) h0 hb k5 k1) k2 k3 k4)
        · rw [yset_eq]
          exact ⟨⟨by decide, by decide⟩, fun l hl => absurd hl (Nat.not_lt_zero l), Or.inl rfl⟩
set_option maxRecDepth 8000 in
theorem yl_FWAa {K : List yV → yM → Prop} {Y : yNx} {g : yM} (hY : yCl zpD60 (zpZ, zpRS, zpP5, zpMT, [yC_PSO, yC_LEO, yC_BCO, yC_MN], (3, 85), 1) K Y) (hG : yTy zpZ g) (hK : ∀ (r : Int) (g' : yM), (∃ (n : Nat) (D : Nat → Int) (fw : Nat → Int), (n : Int) = g 5 4 ∧ (∀ p q : Nat, p < n → q < n → (yCD D p q = true ↔ yCp g (yAj g p) (yAj g q))) ∧ yDP n (yEj g) (yLj g) (yCD D) fw ∧ r = fw (2 ^ n - 1)) → (yTy zpZ g') → (yF7 g g') → K [(1, r)] g') : ∀ (d : Nat) (i : Int), i + d = g 5 4 → 0 ≤ i → ∀ (m : yM) (u2 u3 u4 u5 u6 : yV), (∀ j : Nat, (j : Int) < i → yBp (fun p => yCp g (yAj g p) (yAj g j)) (Int.toNat (g 5 4)) (m 24 j)) → yTy zpZ m → yF7 g m → Y 2 [(3, 5), (1, i), u2, u3, u4, u5, u6] [] m := by
  have h54 := hG.fO (q := 5) (j := 4) (List.mem_of_getElem? (i := 5) rfl) rfl
  intro d
  induction d with
  | zero =>
    intro i hd h0 m u2 u3 u4 u5 u6 hp hT f
    have e54 : m 5 4 = g 5 4 := f 5 4 (by decide) (by decide)
    refine yrun_ok (sp := fun pc => Nat.beq pc 2 || Nat.beq pc 43) hY 17 2 _ [] m ?_
    show (((m 5 4) ≤ i → (((0 : Int) ≤ 0 ∧ 0 < ((64 : Nat) : Int)) ∧ (Y 43 [(3, 5), (1, (yb (fun x y => x <<< (y &&& 31)) 1 (m 5 4))), (1, 1), u3, u4, u5, u6] [] (yset m 25 0 0)))) ∧ (¬ ((m 5 4) ≤ i) → (∃ (q2 : Int), [(3, 5), (1, i)] = [(3, 5), (1, q2)] ∧ (yTy zpZ m) ∧ (0 ≤ q2 ∧ q2 < m 5 4) ∧ (∀ (r3 : Int), (yBp (fun p => yCp m (yAj m p) (yAj m (Int.toNat q2))) (Int.toNat (m 5 4)) r3) → (((0 : Int) ≤ i ∧ i < ((6 : Nat) : Int)) ∧ (Y 2 [(3, 5), (1, (yw (i + 1))), u2, u3, u4, u5, u6] [] (yset m 24 (Int.toNat i) r3)))))))
    refine ⟨fun h1 => ?_, fun h1 => ?_⟩
    · refine ⟨(by omega), ?_⟩
      obtain rfl : i = g 5 4 := by omega
      have bp := yBp6 (n := Int.toNat (g 5 4)) (by omega)
      rw [show ((Int.toNat (g 5 4) : Nat) : Int) = g 5 4 by omega] at bp
      rw [e54, bp]
      refine yl_FWAb (g := g) (n := Int.toNat (g 5 4)) (D := m 24) hY hG (by omega) (by omega) (fun j hj => hp j (by omega)) rfl hK (2 ^ Int.toNat (g 5 4) - 1) 1 (by have := yPw2 (n := Int.toNat (g 5 4)) (by omega); omega) (by decide) _ _ _ _ _ ⟨yset_eq, fun T hT2 => ?_, fun T t0 hT2 => absurd hT2 (by omega)⟩ (hT.sA (List.mem_of_getElem? (i := 24) rfl) (by decide +kernel) ⟨by decide, by decide⟩) (fun a b c1 c2 => (yset_nc c2).trans (f a b c1 c2)) (fun j => yset_nc (by decide))
      rw [show T = 0 by omega, yset_eq]
      exact ⟨by decide, by decide⟩
    · refine ⟨_, rfl, (by omega), (by omega), ?_⟩
      intro r3 p40
      refine ⟨(by omega), ?_⟩
      omega
  | succ d ih =>
    intro i hd h0 m u2 u3 u4 u5 u6 hp hT f
    have e54 : m 5 4 = g 5 4 := f 5 4 (by decide) (by decide)
    refine yrun_ok (sp := fun pc => Nat.beq pc 2 || Nat.beq pc 43) hY 17 2 _ [] m ?_
    show (((m 5 4) ≤ i → (((0 : Int) ≤ 0 ∧ 0 < ((64 : Nat) : Int)) ∧ (Y 43 [(3, 5), (1, (yb (fun x y => x <<< (y &&& 31)) 1 (m 5 4))), (1, 1), u3, u4, u5, u6] [] (yset m 25 0 0)))) ∧ (¬ ((m 5 4) ≤ i) → (∃ (q2 : Int), [(3, 5), (1, i)] = [(3, 5), (1, q2)] ∧ (yTy zpZ m) ∧ (0 ≤ q2 ∧ q2 < m 5 4) ∧ (∀ (r3 : Int), (yBp (fun p => yCp m (yAj m p) (yAj m (Int.toNat q2))) (Int.toNat (m 5 4)) r3) → (((0 : Int) ≤ i ∧ i < ((6 : Nat) : Int)) ∧ (Y 2 [(3, 5), (1, (yw (i + 1))), u2, u3, u4, u5, u6] [] (yset m 24 (Int.toNat i) r3)))))))
    refine ⟨fun h1 => ?_, fun h1 => ?_⟩
    · refine ⟨(by omega), ?_⟩
      omega
    · refine ⟨_, rfl, (hT), (by omega), ?_⟩
      intro r3 p40
      refine ⟨(by omega), ?_⟩
      have yi : yw (i + 1) = i + 1 := yw_s (i + 1) (by omega) (by omega)
      rw [yi]
      have bq : yBp (fun p => yCp g (yAj g p) (yAj g (Int.toNat i))) (Int.toNat (g 5 4)) r3 := by
        obtain ⟨S, s1, s2, s3⟩ := p40
        refine ⟨S, s1, s2, fun p hp2 => ?_⟩
        rw [s3 p (by omega), f.cp, f.aj, f.aj]
      have rg : 0 ≤ r3 ∧ r3 ≤ 63 := by
        obtain ⟨S, s1, s2, s3⟩ := bq
        omega
      refine ih (i + 1) (by omega) (by omega) _ _ _ _ _ _ (fun j hj => ?_) (hT.sA (List.mem_of_getElem? (i := 23) rfl) (by decide +kernel) ⟨by omega, by omega⟩) (fun a b c1 c2 => (yset_nc c1).trans (f a b c1 c2))
      by_cases e : j = Int.toNat i
      · rw [e, yset_eq]
        exact bq
      · rw [yset_nj e]
        exact hp j (by omega)
set_option maxRecDepth 8000 in
theorem yv_FWA {K : List yV → yM → Prop} {Y : yNx} {g : yM} (hY : yCl zpD60 (zpZ, zpRS, zpP5, zpMT, [yC_PSO, yC_LEO, yC_BCO, yC_MN], (3, 85), 1) K Y) (hp0 : yTy zpZ g) (hK : ∀ (r : Int) (g' : yM), (∃ (n : Nat) (D : Nat → Int) (fw : Nat → Int), (n : Int) = g 5 4 ∧ (∀ p q : Nat, p < n → q < n → (yCD D p q = true ↔ yCp g (yAj g p) (yAj g q))) ∧ yDP n (yEj g) (yLj g) (yCD D) fw ∧ r = fw (2 ^ n - 1)) → (yTy zpZ g') → (yF7 g g') → K [(1, r)] g') : Y 0 [(3, 5), (0, 0), (0, 0), (0, 0), (0, 0), (0, 0), (0, 0)] [] g := by
  have h54 := hp0.fO (q := 5) (j := 4) (List.mem_of_getElem? (i := 5) rfl) rfl
  refine yrun_ok (sp := fun pc => Nat.beq pc 2) hY 3 0 _ [] g ?_
  show (Y 2 [(3, 5), (1, 0), (0, 0), (0, 0), (0, 0), (0, 0), (0, 0)] [] g)
  exact yl_FWAa hY hp0 hK (Int.toNat (g 5 4)) 0 (by omega) (by decide) g _ _ _ _ _ (fun j hj => absurd hj (by omega)) hp0 (fun _ _ _ _ => rfl)
theorem yM_FWA {l : Launch} {Ts : List Cond} {cl : List vw_C} {RO : zRO} (H : zHyp Ts cl RO) : yMet l Ts cl zpZ RO zpMT yC_FWA := ymet_of2 H.1 H.2.1 zpDj H.2.2.1 yRb H.p5 (ymets_cons (yM_PSO H) (ymets_cons (yM_LEO H) (ymets_cons (yM_BCO H) (ymets_cons (yM_MN H) ymets_nil)))) (zrc1 rfl) (plainFor_of_name zpy5) zpDk60 (fun as g K Y h hA hY => by
  obtain ⟨rfl, hp0, hK⟩ := h
  exact yv_FWA hY  hp0 hK)
/-- among the chosen: who, where each starts, who came in later than whom -/
def yFwR (g : yM) (v r : Int) : Prop := ∃ (n : Nat) (A : Nat → Int) (c : Nat → Nat → Bool) (fw : Nat → Int), 0 < n ∧ yCl1 g v A (Int.toNat (g 1 1)) n ∧ (∀ p q : Nat, p < n → q < n → (c p q = true ↔ yCp g (Int.toNat (A p)) (Int.toNat (A q)))) ∧ yDP n (fun j => g (50 + Int.toNat (A j)) 10) (fun j => g (50 + Int.toNat (A j)) 11) c fw ∧ r = fw (2 ^ n - 1)
def yF8 (g m : yM) : Prop := ∀ a b : Nat, a ≠ 23 → a ≠ 24 → a ≠ 25 → ¬ (a = 5 ∧ b = 4) → m a b = g a b
def yP_CFW : yPT := fun as g K => ∃ (v : Int), as = [(3, 0), (2, v)] ∧ (yTy zpZ g) ∧ (∀ (r : Int) (g' : yM), (¬ yOk1 g v → r = -1) → (yOk1 g v → yFwR g v r) → (yTy zpZ g') → (yF8 g g') → (-9223372036854775808 ≤ v ∧ v ≤ 9223372036854775807) → K [(1, r)] g')
def yC_CFW : yC := (12, (4, 111), yP_CFW)
set_option maxRecDepth 8000 in
theorem yv_CFW {K : List yV → yM → Prop} {Y : yNx} {g : yM} {v : Int} (hY : yCl zpD12 (zpZ, zpRS, zpP0, zpMT, [yC_CHS, yC_FWA], (4, 111), 1) K Y) (hr_v : -9223372036854775808 ≤ v ∧ v ≤ 9223372036854775807) (hp0 : yTy zpZ g) (hK : ∀ (r : Int) (g' : yM), (¬ yOk1 g v → r = -1) → (yOk1 g v → yFwR g v r) → (yTy zpZ g') → (yF8 g g') → (-9223372036854775808 ≤ v ∧ v ≤ 9223372036854775807) → K [(1, r)] g') : Y 0 [(3, 0), (2, v), (0, 0)] [] g := by
  refine yrun_ok (sp := fun pc => false) hY 10 0 _ [] g ?_
  show (∃ (v1 : Int), [(3, 5), (2, v)] = [(3, 5), (2, v1)] ∧ (yTy zpZ g) ∧ (∀ (r2 : Int) (g3 : yM), ((r2 = 1 ∧ yHc2 g v1 ∧ ∃ k : Nat, 0 < k ∧ g3 5 4 = k ∧ yCl1 g v1 (g3 23) (Int.toNat (g 1 1)) k) ∨ (r2 = 0 ∧ ¬ yOk1 g v1)) → (yTy zpZ g3) → (yF5 g g3) → ((r2 = 0 → (K [(1, (-1))] g3)) ∧ (¬ (r2 = 0) → ([(3, 5)] = [(3, 5)] ∧ (yTy zpZ g3) ∧ (∀ (r6 : Int) (g7 : yM), (∃ (n : Nat) (D : Nat → Int) (fw : Nat → Int), (n : Int) = g3 5 4 ∧ (∀ p q : Nat, p < n → q < n → (yCD D p q = true ↔ yCp g3 (yAj g3 p) (yAj g3 q))) ∧ yDP n (yEj g3) (yLj g3) (yCD D) fw ∧ r6 = fw (2 ^ n - 1)) → (yTy zpZ g7) → (yF7 g3 g7) → (K [(1, r6)] g7)))))))
  refine ⟨_, rfl, (hp0), ?_⟩
  intro r2 g3 p40 p41 p42
  refine ⟨fun h5 => ?_, fun h5 => ?_⟩
  · have no : ¬ yOk1 g v := by
      rcases p40 with ⟨q1, q2⟩ | ⟨q1, q2⟩
      · omega
      · exact q2
    exact hK _ _ (fun _ => rfl) (fun h => absurd h no) p41 p42 hr_v
  · refine ⟨rfl, (p41), ?_⟩
    intro r6 g7 p80 p81 p82
    rcases p40 with ⟨q1, q2, k, q3, q4, q5⟩ | ⟨q1, q2⟩
    · have fr := p42
      have fr2 := p82
      refine hK _ _ (fun h => absurd ⟨q2, k, _, q3, q5⟩ h) (fun _ => ?_) p81 (fun a b c1 c2 c3 c4 => (fr2 a b c2 c3).trans (fr a b c1 c2 c3 c4)) hr_v
      obtain ⟨n, D, fw, n1, n2, n3, n4⟩ := p80
      have en : n = k := by omega
      subst en
      have hb := ySl_b _ _ q5
      have hz := hp0.sz
      have e10 : ∀ j b : Nat, g3 (50 + j) b = g (50 + j) b := fun j b => fr _ b (by omega) (by omega) (by omega) (by omega)
      refine ⟨n, _, yCD D, fw, q3, q5, fun p q h1 h2 => ?_, ?_, n4⟩
      · rw [n2 p q h1 h2]
        unfold yCp yAj
        rw [e10, e10, e10, e10, e10, e10, fr 1 10 (by decide) (by decide) (by decide) (by decide), fr 1 9 (by decide) (by decide) (by decide) (by decide)]
      · have eE : yEj g3 = (fun j => g (50 + Int.toNat (g3 23 j)) 10) := funext fun j => by unfold yEj yAj; rw [e10]
        have eL : yLj g3 = (fun j => g (50 + Int.toNat (g3 23 j)) 11) := funext fun j => by unfold yLj yAj; rw [e10]
        rw [eE, eL] at n3
        exact n3
    · omega
theorem yM_CFW {l : Launch} {Ts : List Cond} {cl : List vw_C} {RO : zRO} (H : zHyp Ts cl RO) : yMet l Ts cl zpZ RO zpMT yC_CFW := ymet_of2 H.1 H.2.1 zpDj H.2.2.1 yRb H.p0 (ymets_cons (yM_CHS H) (ymets_cons (yM_FWA H) ymets_nil)) (zrc1 rfl) (plainFor_of_name zpy0) zpDk12 (fun as g K Y h hA hY => by
  obtain ⟨v, rfl, hp0, hK⟩ := h
  exact yv_CFW hY (yAr2 hA (by simp)) hp0 hK)
