/-! TEXTS: WHERE THEY END OR FAIL, THE STEPS THAT SAY THEM -/
abbrev yR : Type := Int × Int × List (Int × Int)
def yKx (v : Int) : Int := if v = 119 then 0 else if v = 115 then 1 else if v = 109 then 2 else if v = 108 then 3 else if v = 110 then 4 else if v = 100 then 5 else if v = 97 then 6 else if v = 98 then 7 else -1
theorem yKx_b (v : Int) : -1 ≤ yKx v ∧ yKx v ≤ 7 := by
  unfold yKx
  repeat' split
  all_goals omega
theorem yKx_of {v r : Int} (h : yNX v r) : r = yKx v := by
  unfold yNX at h
  unfold yKx
  repeat' split
  all_goals omega
theorem yKx_n {v : Int} (h : 0 ≤ yKx v) : 97 ≤ v ∧ v ≤ 119 := by
  unfold yKx at h
  repeat' split at h
  all_goals omega
/-- operands joined from the left -/
def yLp (T : Int → Int) (op : Int → Bool) (X : Int → yR) : Nat → yR → yR
  | 0, r => r
  | n + 1, r => if r.1 = -1 ∧ op (T r.2.1) = true then yLp T op X n (if (X (r.2.1 + 1)).1 = -1 then (-1, (X (r.2.1 + 1)).2.1, r.2.2 ++ (X (r.2.1 + 1)).2.2 ++ [(T r.2.1, 0)]) else X (r.2.1 + 1)) else r
theorem yLp_0 {T : Int → Int} {op : Int → Bool} {X : Int → yR} {r : yR} (h : ¬ (r.1 = -1 ∧ op (T r.2.1) = true)) : ∀ n : Nat, yLp T op X n r = r
  | 0 => rfl
  | n + 1 => if_neg h
theorem yLp_1 {T : Int → Int} {op : Int → Bool} {X : Int → yR} {r : yR} {n : Nat} (h : r.1 = -1 ∧ op (T r.2.1) = true) : yLp T op X (n + 1) r = yLp T op X n (if (X (r.2.1 + 1)).1 = -1 then (-1, (X (r.2.1 + 1)).2.1, r.2.2 ++ (X (r.2.1 + 1)).2.2 ++ [(T r.2.1, 0)]) else X (r.2.1 + 1)) := if_pos h
def yMu (c : Int) : Bool := decide (c = 42 ∨ c = 47 ∨ c = 37)
def yPl (c : Int) : Bool := decide (c = 43 ∨ c = 45)
def yCq (c : Int) : Bool := decide (c = 60 ∨ c = 61 ∨ c = 62)
def yAn (c : Int) : Bool := decide (c = 38)
def yOo (c : Int) : Bool := decide (c = 124)
def yPro (T : Int → Int) (O : Int → yR) (p : Int) : yR := yLp T yMu O 60 (O p)
def ySum (T : Int → Int) (O : Int → yR) (p : Int) : yR := yLp T yPl (yPro T O) 60 (yPro T O p)
def yCmp (T : Int → Int) (O : Int → yR) (p : Int) : yR := yLp T yCq (ySum T O) 1 (ySum T O p)
def yBot (T : Int → Int) (O : Int → yR) (p : Int) : yR := yLp T yAn (yCmp T O) 60 (yCmp T O p)
def yEit (T : Int → Int) (O : Int → yR) (p : Int) : yR := yLp T yOo (yBot T O) 60 (yBot T O p)
/-- one operand: a number, a name, one in brackets, one with a sign ahead -/
def yOp (T : Int → Int) (last : Bool) (O E : Int → yR) (p : Int) : yR :=
  if 48 ≤ T p ∧ T p ≤ 57 then (-1, (yNm T 4 p 0).1, [(86, (yNm T 4 p 0).2)])
  else if 0 ≤ yKx (T p) then (-1, p + 1, [(78, yKx (T p))])
  else if last = true then (p, p, [])
  else if T p = 40 then (if (E (p + 1)).1 = -1 then (if T (E (p + 1)).2.1 = 41 then (-1, (E (p + 1)).2.1 + 1, (E (p + 1)).2.2) else ((E (p + 1)).2.1, 0, [])) else E (p + 1))
  else if T p = 33 ∨ T p = 45 then (if (O (p + 1)).1 = -1 then (-1, (O (p + 1)).2.1, (O (p + 1)).2.2 ++ [(if T p = 45 then 77 else T p, 0)]) else O (p + 1))
  else (p, p, [])
def yOn (T : Int → Int) : Nat → Int → yR
  | 0 => yOp T true (fun p => (p, p, [])) (fun p => (p, p, []))
  | n + 1 => yOp T false (yOn T n) (yEit T (yOn T n))
/-- from a place on: forwards, no more steps than signs -/
def yGr (p : Int) (r : yR) : Prop := (r.1 = -1 → p < r.2.1 ∧ r.2.1 ≤ 60 ∧ p + (r.2.2.length : Int) ≤ r.2.1) ∧ (r.1 ≠ -1 → 0 ≤ r.1 ∧ r.1 ≤ 60)
def yGd (X : Int → yR) : Prop := ∀ p : Int, 0 ≤ p → p ≤ 60 → yGr p (X p)
/-- no sign at sixty or behind -/
def yTg (T : Int → Int) : Prop := ∀ p : Int, 0 ≤ p → T p ≠ 0 → p < 60
theorem yGr.nx {T : Int → Int} {op : Int → Bool} {X : Int → yR} (hT : yTg T) (hop : ∀ c, op c = true → c ≠ 0) (hX : yGd X) {p : Int} {r : yR} (hp : 0 ≤ p) (h : yGr p r) (c : r.1 = -1 ∧ op (T r.2.1) = true) : yGr p (if (X (r.2.1 + 1)).1 = -1 then (-1, (X (r.2.1 + 1)).2.1, r.2.2 ++ (X (r.2.1 + 1)).2.2 ++ [(T r.2.1, 0)]) else X (r.2.1 + 1)) := by
  obtain ⟨h1, h2, h3⟩ := h.1 c.1
  have h4 := hT r.2.1 (by omega) (hop _ c.2)
  have h5 := hX (r.2.1 + 1) (by omega) (by omega)
  by_cases e : (X (r.2.1 + 1)).1 = -1
  · rw [if_pos e]
    obtain ⟨q1, q2, q3⟩ := h5.1 e
    refine ⟨fun _ => ⟨?_, q2, ?_⟩, fun z => absurd rfl z⟩
    · show p < (X (r.2.1 + 1)).2.1
      omega
    · show p + ((r.2.2 ++ (X (r.2.1 + 1)).2.2 ++ [(T r.2.1, 0)]).length : Int) ≤ (X (r.2.1 + 1)).2.1
      rw [List.length_append, List.length_append, List.length_singleton]
      omega
  · rw [if_neg e]
    exact ⟨fun z => absurd z e, fun _ => h5.2 e⟩
theorem yLp_gr {T : Int → Int} {op : Int → Bool} {X : Int → yR} (hT : yTg T) (hop : ∀ c, op c = true → c ≠ 0) (hX : yGd X) {p : Int} (hp : 0 ≤ p) : ∀ (n : Nat) (r : yR), yGr p r → yGr p (yLp T op X n r)
  | 0, _, h => h
  | n + 1, r, h => by
    by_cases c : r.1 = -1 ∧ op (T r.2.1) = true
    · rw [yLp_1 c]
      exact yLp_gr hT hop hX hp n _ (h.nx hT hop hX hp c)
    · rw [yLp_0 c]
      exact h
theorem yLv_gd {T : Int → Int} {op : Int → Bool} {X : Int → yR} (hT : yTg T) (hop : ∀ c, op c = true → c ≠ 0) (hX : yGd X) (n : Nat) : yGd (fun p => yLp T op X n (X p)) := fun p h0 h1 => yLp_gr hT hop hX h0 n _ (hX p h0 h1)
theorem yMu_0 (c : Int) (h : yMu c = true) : c ≠ 0 := by have := of_decide_eq_true h; omega
theorem yPl_0 (c : Int) (h : yPl c = true) : c ≠ 0 := by have := of_decide_eq_true h; omega
theorem yCq_0 (c : Int) (h : yCq c = true) : c ≠ 0 := by have := of_decide_eq_true h; omega
theorem yAn_0 (c : Int) (h : yAn c = true) : c ≠ 0 := by have := of_decide_eq_true h; omega
theorem yOo_0 (c : Int) (h : yOo c = true) : c ≠ 0 := by have := of_decide_eq_true h; omega
theorem yPro_gd {T : Int → Int} {O : Int → yR} (hT : yTg T) (h : yGd O) : yGd (yPro T O) := yLv_gd hT yMu_0 h 60
theorem ySum_gd {T : Int → Int} {O : Int → yR} (hT : yTg T) (h : yGd O) : yGd (ySum T O) := yLv_gd hT yPl_0 (yPro_gd hT h) 60
theorem yCmp_gd {T : Int → Int} {O : Int → yR} (hT : yTg T) (h : yGd O) : yGd (yCmp T O) := yLv_gd hT yCq_0 (ySum_gd hT h) 1
theorem yBot_gd {T : Int → Int} {O : Int → yR} (hT : yTg T) (h : yGd O) : yGd (yBot T O) := yLv_gd hT yAn_0 (yCmp_gd hT h) 60
theorem yEit_gd {T : Int → Int} {O : Int → yR} (hT : yTg T) (h : yGd O) : yGd (yEit T O) := yLv_gd hT yOo_0 (yBot_gd hT h) 60
theorem yNm_p {T : Int → Int} (hT : yTg T) : ∀ (m : Nat) (p v : Int), 0 ≤ p → p ≤ 60 → p ≤ (yNm T m p v).1 ∧ (yNm T m p v).1 ≤ 60
  | 0, p, v, h0, h1 => ⟨Int.le_refl _, h1⟩
  | m + 1, p, v, h0, h1 => by
    unfold yNm
    by_cases c : 48 ≤ T p ∧ T p ≤ 57
    · rw [if_pos c]
      have h2 := hT p h0 (by omega)
      have ih := yNm_p hT m (p + 1) (v * 10 + T p - 48) (by omega) (by omega)
      omega
    · rw [if_neg c]
      exact ⟨Int.le_refl _, h1⟩
theorem yOp_gd {T : Int → Int} {O E : Int → yR} {last : Bool} (hT : yTg T) (hO : last = true ∨ yGd O) (hE : last = true ∨ yGd E) : yGd (yOp T last O E) := fun p h0 h1 => by
  unfold yOp
  by_cases c1 : 48 ≤ T p ∧ T p ≤ 57
  · rw [if_pos c1]
    have h2 := hT p h0 (by omega)
    have e : yNm T 4 p 0 = yNm T 3 (p + 1) (0 * 10 + T p - 48) := by
      show (if 48 ≤ T p ∧ T p ≤ 57 then yNm T 3 (p + 1) (0 * 10 + T p - 48) else (p, 0)) = _
      rw [if_pos c1]
    have h3 := yNm_p hT 3 (p + 1) (0 * 10 + T p - 48) (by omega) (by omega)
    refine ⟨fun _ => ?_, fun z => absurd rfl z⟩
    show p < (yNm T 4 p 0).1 ∧ (yNm T 4 p 0).1 ≤ 60 ∧ p + 1 ≤ (yNm T 4 p 0).1
    rw [e]
    omega
  · rw [if_neg c1]
    by_cases c2 : 0 ≤ yKx (T p)
    · rw [if_pos c2]
      have h2 := hT p h0 (by have := yKx_n c2; omega)
      refine ⟨fun _ => ?_, fun z => absurd rfl z⟩
      show p < p + 1 ∧ p + 1 ≤ 60 ∧ p + 1 ≤ p + 1
      omega
    · rw [if_neg c2]
      have bad : yGr p ((p, p, []) : yR) := ⟨fun z => by have z : p = -1 := z; omega, fun _ => ⟨h0, h1⟩⟩
      by_cases c3 : last = true
      · rw [if_pos c3]
        exact bad
      · rw [if_neg c3]
        have hO := hO.resolve_left c3
        have hE := hE.resolve_left c3
        by_cases c4 : T p = 40
        · rw [if_pos c4]
          have h2 := hT p h0 (by omega)
          have h3 := hE (p + 1) (by omega) (by omega)
          by_cases e : (E (p + 1)).1 = -1
          · rw [if_pos e]
            obtain ⟨q1, q2, q3⟩ := h3.1 e
            by_cases c5 : T (E (p + 1)).2.1 = 41
            · rw [if_pos c5]
              have h4 := hT (E (p + 1)).2.1 (by omega) (by omega)
              refine ⟨fun _ => ?_, fun z => absurd rfl z⟩
              show p < (E (p + 1)).2.1 + 1 ∧ (E (p + 1)).2.1 + 1 ≤ 60 ∧ p + ((E (p + 1)).2.2.length : Int) ≤ (E (p + 1)).2.1 + 1
              omega
            · rw [if_neg c5]
              refine ⟨fun z => ?_, fun _ => ?_⟩
              · have z : (E (p + 1)).2.1 = -1 := z
                omega
              · show 0 ≤ (E (p + 1)).2.1 ∧ (E (p + 1)).2.1 ≤ 60
                omega
          · rw [if_neg e]
            exact ⟨fun z => absurd z e, fun _ => h3.2 e⟩
        · rw [if_neg c4]
          by_cases c6 : T p = 33 ∨ T p = 45
          · rw [if_pos c6]
            have h2 := hT p h0 (by omega)
            have h3 := hO (p + 1) (by omega) (by omega)
            by_cases e : (O (p + 1)).1 = -1
            · rw [if_pos e]
              obtain ⟨q1, q2, q3⟩ := h3.1 e
              refine ⟨fun _ => ?_, fun z => absurd rfl z⟩
              show p < (O (p + 1)).2.1 ∧ (O (p + 1)).2.1 ≤ 60 ∧ p + (((O (p + 1)).2.2 ++ [(if T p = 45 then 77 else T p, (0 : Int))]).length : Int) ≤ (O (p + 1)).2.1
              rw [List.length_append, List.length_singleton]
              omega
            · rw [if_neg e]
              exact ⟨fun z => absurd z e, fun _ => h3.2 e⟩
          · rw [if_neg c6]
            exact bad
theorem yOn_gd {T : Int → Int} (hT : yTg T) : ∀ n : Nat, yGd (yOn T n)
  | 0 => yOp_gd hT (Or.inl rfl) (Or.inl rfl)
  | n + 1 => yOp_gd hT (Or.inr (yOn_gd hT n)) (Or.inr (yEit_gd hT (yOn_gd hT n)))
theorem yOn_d {T : Int → Int} {p : Int} (h : 48 ≤ T p ∧ T p ≤ 57) : ∀ n : Nat, yOn T n p = (-1, (yNm T 4 p 0).1, [(86, (yNm T 4 p 0).2)])
  | 0 => if_pos h
  | _ + 1 => if_pos h
theorem yOn_k {T : Int → Int} {p : Int} (h : 0 ≤ yKx (T p)) : ∀ n : Nat, yOn T n p = (-1, p + 1, [(78, yKx (T p))]) := fun n => by
  have h2 := yKx_n h
  have h1 : ¬ (48 ≤ T p ∧ T p ≤ 57) := by omega
  cases n with
  | zero => exact (if_neg h1).trans (if_pos h)
  | succ n => exact (if_neg h1).trans (if_pos h)
theorem yOn_0 {T : Int → Int} {p : Int} (h1 : ¬ (48 ≤ T p ∧ T p ≤ 57)) (h2 : ¬ 0 ≤ yKx (T p)) : yOn T 0 p = (p, p, []) := (if_neg h1).trans ((if_neg h2).trans (if_pos rfl))
theorem yOn_b {T : Int → Int} {p : Int} (h : T p = 40) (n : Nat) : yOn T (n + 1) p = if (yEit T (yOn T n) (p + 1)).1 = -1 then (if T (yEit T (yOn T n) (p + 1)).2.1 = 41 then (-1, (yEit T (yOn T n) (p + 1)).2.1 + 1, (yEit T (yOn T n) (p + 1)).2.2) else ((yEit T (yOn T n) (p + 1)).2.1, 0, [])) else yEit T (yOn T n) (p + 1) := by
  have h2 : ¬ 0 ≤ yKx (T p) := by rw [h]; decide
  exact (if_neg (by omega)).trans ((if_neg h2).trans ((if_neg (by decide)).trans (if_pos h)))
theorem yOn_u {T : Int → Int} {p : Int} (h : T p = 33 ∨ T p = 45) (n : Nat) : yOn T (n + 1) p = if (yOn T n (p + 1)).1 = -1 then (-1, (yOn T n (p + 1)).2.1, (yOn T n (p + 1)).2.2 ++ [(if T p = 45 then 77 else T p, 0)]) else yOn T n (p + 1) := by
  have h2 : ¬ 0 ≤ yKx (T p) := by rcases h with h | h <;> rw [h] <;> decide
  exact (if_neg (by omega)).trans ((if_neg h2).trans ((if_neg (by decide)).trans ((if_neg (by omega)).trans (if_pos h))))
theorem yOn_x {T : Int → Int} {p : Int} (h1 : ¬ (48 ≤ T p ∧ T p ≤ 57)) (h2 : ¬ 0 ≤ yKx (T p)) (h3 : T p ≠ 40) (h4 : T p ≠ 33) (h5 : T p ≠ 45) (n : Nat) : yOn T (n + 1) p = (p, p, []) :=
  (if_neg h1).trans ((if_neg h2).trans ((if_neg (by decide)).trans ((if_neg h3).trans (if_neg (by omega)))))
/-- the class's signs, 0 behind the last -/
def yTs (g : yM) (p : Int) : Int := if 0 ≤ p ∧ p < g 2 2 then yb (fun x y => x &&& y) (g 18 (Int.toNat p)) 255 else 0
theorem yTs_tg {g : yM} (h : g 2 2 ≤ 60) : yTg (yTs g) := fun p h0 h1 => by
  unfold yTs at h1
  by_cases c : 0 ≤ p ∧ p < g 2 2
  · omega
  · rw [if_neg c] at h1
    exact absurd rfl h1
theorem yTs_c {g : yM} {p c : Int} (h0 : 0 ≤ p) (hc : 1 ≤ c) : ySc g p = c ↔ yTs g p = c := by
  unfold ySc yTs
  by_cases h : p < g 2 2
  · rw [if_pos h, if_pos ⟨h0, h⟩]
  · rw [if_neg h, if_neg (fun z => h z.2)]
    omega
theorem yTs_eq {g m : yM} (h1 : m 2 2 = g 2 2) (h2 : ∀ j : Nat, m 18 j = g 18 j) : yTs m = yTs g := funext fun p => by
  unfold yTs
  rw [h1, h2]
/-- what a text's reading leaves as it was: q the text, 10 or 11 -/
def yXf (q : Nat) (g m : yM) : Prop := ∀ a b : Nat, ¬ (a = 2 ∧ (b = 1 ∨ b = 3)) → ¬ (a = q ∧ b = 4) → a ≠ q + 21 → a ≠ q + 23 → m a b = g a b
theorem yXf.tr {q : Nat} {g m k : yM} (h1 : yXf q g m) (h2 : yXf q m k) : yXf q g k := fun a b c1 c2 c3 c4 => (h2 a b c1 c2 c3 c4).trans (h1 a b c1 c2 c3 c4)
theorem yXf.ts {q : Nat} (hq : q = 10 ∨ q = 11) {g m : yM} (h : yXf q g m) : yTs m = yTs g := yTs_eq (h 2 2 (by omega) (by omega) (by omega) (by omega)) (fun j => h 18 j (by omega) (by omega) (by omega) (by omega))
/-- steps added -/
def yAp (q : Nat) (g m : yM) (c : List (Int × Int)) : Prop := m q 4 = g q 4 + (c.length : Int) ∧ (∀ j : Nat, (j : Int) < g q 4 → m (q + 21) j = g (q + 21) j ∧ m (q + 23) j = g (q + 23) j) ∧ ∀ j : Nat, j < c.length → c[j]? = some (m (q + 21) (Int.toNat (g q 4) + j), m (q + 23) (Int.toNat (g q 4) + j))
theorem yAp.nil {q : Nat} {g : yM} : yAp q g g [] := ⟨by show g q 4 = g q 4 + 0; omega, fun _ _ => ⟨rfl, rfl⟩, fun j hj => absurd hj (Nat.not_lt_zero j)⟩
theorem yAp.cat {q : Nat} {g m k : yM} {c d : List (Int × Int)} (h0 : 0 ≤ g q 4) (h1 : yAp q g m c) (h2 : yAp q m k d) : yAp q g k (c ++ d) := by
  obtain ⟨a1, a2, a3⟩ := h1
  obtain ⟨b1, b2, b3⟩ := h2
  refine ⟨by rw [b1, a1, List.length_append]; omega, fun j hj => ?_, fun j hj => ?_⟩
  · have e := b2 j (by omega)
    rw [e.1, e.2]
    exact a2 j hj
  · rw [List.length_append] at hj
    by_cases e : j < c.length
    · rw [List.getElem?_append_left e, a3 j e]
      have f := b2 (Int.toNat (g q 4) + j) (by omega)
      rw [f.1, f.2]
    · rw [List.getElem?_append_right (by omega), b3 (j - c.length) (by omega), show Int.toNat (m q 4) + (j - c.length) = Int.toNat (g q 4) + j by omega]
/-- one step more -/
def yAs (q : Nat) (g m : yM) (s n : Int) : Prop := yTy zpZ m ∧ (g q 4 < 61 → m = yset (yset (yset g (q + 21) (Int.toNat (g q 4)) s) (q + 23) (Int.toNat (g q 4)) n) q 4 (g q 4 + 1)) ∧ (g q 4 = 61 → m = g)
theorem yAs.fr {q : Nat} {g m : yM} {s n : Int} (hk : g q 4 ≤ 61) (h : yAs q g m s n) : ∀ a b : Nat, ¬ (a = q ∧ b = 4) → a ≠ q + 21 → a ≠ q + 23 → m a b = g a b := fun a b c1 c2 c3 => by
  by_cases e : g q 4 < 61
  · rw [h.2.1 e, yset_ne c1, yset_nc c3, yset_nc c2]
  · rw [h.2.2 (by omega)]
theorem yAs.ap {q : Nat} (hq : q = 10 ∨ q = 11) {g m : yM} {s n : Int} (h0 : 0 ≤ g q 4) (hk : g q 4 < 61) (h : yAs q g m s n) : yAp q g m [(s, n)] := by
  rw [h.2.1 hk]
  refine ⟨by rw [yset_eq]; rfl, fun j hj => ?_, fun j hj => ?_⟩
  · rw [yset_nc (by omega), yset_nc (by omega), yset_nj (by omega), yset_nc (by omega), yset_nj (by omega), yset_nc (by omega)]
    exact ⟨rfl, rfl⟩
  · have e : j = 0 := by
      have hj : j < 1 := hj
      omega
    rw [e, show Int.toNat (g q 4) + 0 = Int.toNat (g q 4) from rfl, yset_nc (by omega), yset_nc (by omega), yset_eq, yset_nc (by omega), yset_eq]
    rfl
theorem yAs.old {q : Nat} (hq : q = 10 ∨ q = 11) {g m : yM} {s n : Int} (hk : 0 ≤ g q 4 ∧ g q 4 ≤ 61) (h : yAs q g m s n) : g q 4 ≤ m q 4 ∧ ∀ j : Nat, (j : Int) < g q 4 → m (q + 21) j = g (q + 21) j := by
  by_cases e : g q 4 < 61
  · rw [h.2.1 e]
    refine ⟨by rw [yset_eq]; omega, fun j hj => ?_⟩
    rw [yset_nc (by omega), yset_nc (by omega), yset_nj (by omega)]
  · rw [h.2.2 (by omega)]
    exact ⟨Int.le_refl _, fun _ _ => rfl⟩
/-- ahead of a piece; behind it -/
def yPe (q : Nat) (g : yM) : Prop := yTy zpZ g ∧ g 2 3 = -1 ∧ (0 ≤ g 2 1 ∧ g 2 1 ≤ 60) ∧ g 2 2 ≤ 60 ∧ 0 ≤ g q 4 ∧ g q 4 ≤ g 2 1
def yPo (q : Nat) (g m : yM) (r : yR) : Prop := yTy zpZ m ∧ yXf q g m ∧ m 2 3 = r.1 ∧ (0 ≤ m 2 1 ∧ m 2 1 ≤ 60) ∧ (0 ≤ m q 4 ∧ m q 4 ≤ 61) ∧ (r.1 = -1 → m 2 1 = r.2.1 ∧ yAp q g m r.2.2) ∧ (g q 4 ≤ m q 4 ∧ ∀ j : Nat, (j : Int) < g q 4 → m (q + 21) j = g (q + 21) j)
theorem yPo.k {q : Nat} {g m : yM} {r : yR} (hp : yPe q g) (h : yPo q g m r) (hr : yGr (g 2 1) r) (h1 : r.1 = -1) : 0 ≤ m q 4 ∧ m q 4 ≤ m 2 1 := by
  obtain ⟨-, -, -, -, p5, p6⟩ := hp
  obtain ⟨e1, e2⟩ := h.2.2.2.2.2.1 h1
  obtain ⟨r1, r2, r3⟩ := hr.1 h1
  have e3 := e2.1
  omega
/-- a sign is taken behind a piece: ahead of the next one -/
theorem yPo.pe {q : Nat} (hq : q = 10 ∨ q = 11) {g m : yM} {r : yR} (hp : yPe q g) (h : yPo q g m r) (hr : yGr (g 2 1) r) (h1 : r.1 = -1) (h2 : r.2.1 < 60) : yPe q (yset m 2 1 (m 2 1 + 1)) := by
  have hk := yPo.k hp h hr h1
  obtain ⟨t, f, e3, e1, e4, e5, -⟩ := h
  have e6 := (e5 h1).1
  have e22 : m 2 2 = g 2 2 := f 2 2 (by omega) (by omega) (by omega) (by omega)
  refine ⟨t.sO (List.mem_of_getElem? (i := 2) rfl) rfl (by decide +kernel) ⟨by omega, by omega⟩, ?_, ?_, ?_, ?_⟩
  · rw [yset_nj (by decide), e3]
    exact h1
  · rw [yset_eq]
    omega
  · rw [yset_nj (by decide), e22]
    exact hp.2.2.2.1
  · rw [yset_nc (by omega), yset_eq]
    omega
/-- a sign, an operand, the step that joins them -/
theorem yPo.step {q : Nat} (hq : q = 10 ∨ q = 11) {g m g2 g3 : yM} {r x : yR} {c : Int} (hp : yPe q g) (h : yPo q g m r) (hr : yGr (g 2 1) r) (h1 : r.1 = -1) (h2 : r.2.1 < 60) (hx : yPo q (yset m 2 1 (m 2 1 + 1)) g2 x) (hxr : yGr (r.2.1 + 1) x) (ha : yAs q g2 g3 c 0) : yPo q g g3 (if x.1 = -1 then (-1, x.2.1, r.2.2 ++ x.2.2 ++ [(c, 0)]) else x) := by
  have hpe := yPo.pe hq hp h hr h1 h2
  have hk := yPo.k hp h hr h1
  obtain ⟨t, f, e3, e1, e4, e5, ea, eb⟩ := h
  obtain ⟨e6, e7⟩ := e5 h1
  obtain ⟨x1, x2, x3, x4, x5, x6, xa, xb⟩ := hx
  have y4 : (yset m 2 1 (m 2 1 + 1)) q 4 = m q 4 := yset_nc (by omega)
  have hf := ha.fr x5.2
  have f3 : yXf q g g3 := fun a b c1 c2 c3 c4 => ((hf a b c2 c3 c4).trans (x2 a b c1 c2 c3 c4)).trans ((yset_ne (by omega)).trans (f a b c1 c2 c3 c4))
  have k21 : g3 2 1 = g2 2 1 := hf 2 1 (by omega) (by omega) (by omega)
  have k23 : g3 2 3 = g2 2 3 := hf 2 3 (by omega) (by omega) (by omega)
  have k4 : 0 ≤ g3 q 4 ∧ g3 q 4 ≤ 61 := by
    by_cases e : g2 q 4 < 61
    · rw [ha.2.1 e, yset_eq]
      omega
    · rw [ha.2.2 (by omega)]
      exact x5
  have k8 : g q 4 ≤ g3 q 4 ∧ ∀ j : Nat, (j : Int) < g q 4 → g3 (q + 21) j = g (q + 21) j := by
    have z1 := ha.old hq x5
    refine ⟨by omega, fun j hj => ?_⟩
    rw [z1.2 j (by omega), xb j (by omega), yset_nc (by omega), eb j hj]
  by_cases e : x.1 = -1
  · rw [if_pos e]
    obtain ⟨x7, x8⟩ := x6 e
    obtain ⟨y1, y2, y3⟩ := hxr.1 e
    have e8 : yAp q g (yset m 2 1 (m 2 1 + 1)) r.2.2 := by
      obtain ⟨z1, z2, z3⟩ := e7
      refine ⟨by rw [y4]; exact z1, fun j hj => ?_, fun j hj => ?_⟩
      · rw [yset_nc (by omega), yset_nc (by omega)]
        exact z2 j hj
      · rw [yset_nc (by omega), yset_nc (by omega)]
        exact z3 j hj
    have k5 : g2 q 4 < 61 := by
      have := x8.1
      omega
    refine ⟨ha.1, f3, by rw [k23, x3]; exact e, by rw [k21]; exact x4, k4, fun _ => ⟨by rw [k21]; exact x7, ?_⟩, k8⟩
    have g4 : 0 ≤ g q 4 := hp.2.2.2.2.1
    have c1 := yAp.cat g4 e8 x8
    exact yAp.cat g4 c1 (ha.ap hq x5.1 k5)
  · rw [if_neg e]
    exact ⟨ha.1, f3, by rw [k23]; exact x3, by rw [k21]; exact x4, k4, fun z => absurd z e, k8⟩
