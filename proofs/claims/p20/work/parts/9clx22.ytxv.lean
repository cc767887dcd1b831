/-! TEXTS: WHAT THEY ARE WORTH, PURE -/
/-- a line; lines; a text: its fault, or -1 -/
def yLi (T : Int → Int) (p : Int) : Int × Int := if (yEit T (yOn T 6) p).1 = -1 then (if T (yEit T (yOn T 6) p).2.1 = 63 then ((yEit T (yOn T 6) ((yEit T (yOn T 6) p).2.1 + 1)).1, (yEit T (yOn T 6) ((yEit T (yOn T 6) p).2.1 + 1)).2.1) else (-1, (yEit T (yOn T 6) p).2.1)) else ((yEit T (yOn T 6) p).1, (yEit T (yOn T 6) p).2.1)
def yLs (T : Int → Int) : Nat → Int × Int → Int × Int
  | 0, r => r
  | n + 1, r => if r.1 = -1 ∧ T r.2 = 59 then yLs T n (yLi T (r.2 + 1)) else r
theorem yLs_0 {T : Int → Int} {r : Int × Int} (h : ¬ (r.1 = -1 ∧ T r.2 = 59)) : ∀ n : Nat, yLs T n r = r
  | 0 => rfl
  | n + 1 => if_neg h
theorem yLs_1 {T : Int → Int} {r : Int × Int} {n : Nat} (h : r.1 = -1 ∧ T r.2 = 59) : yLs T (n + 1) r = yLs T n (yLi T (r.2 + 1)) := if_pos h
def yTxE (e : Int) (r : Int × Int) : Int := if r.1 = -1 then (if r.2 < e then r.2 else -1) else r.1
def yTxF (T : Int → Int) (e : Int) : Int := yTxE e (yLs T 60 (yLi T 0))
def yLg (p : Int) (l : Int × Int) : Prop := (l.1 = -1 → p < l.2 ∧ l.2 ≤ 60) ∧ (l.1 ≠ -1 → 0 ≤ l.1 ∧ l.1 ≤ 60)
theorem yLi_g {T : Int → Int} (hT : yTg T) {p : Int} (h0 : 0 ≤ p) (h1 : p ≤ 60) : yLg p (yLi T p) := by
  have ha := yEit_gd hT (yOn_gd hT 6) p h0 h1
  unfold yLi
  by_cases c1 : (yEit T (yOn T 6) p).1 = -1
  · rw [if_pos c1]
    obtain ⟨a1, a2, -⟩ := ha.1 c1
    by_cases c2 : T (yEit T (yOn T 6) p).2.1 = 63
    · rw [if_pos c2]
      have h2 := hT (yEit T (yOn T 6) p).2.1 (by omega) (by omega)
      have hb := yEit_gd hT (yOn_gd hT 6) ((yEit T (yOn T 6) p).2.1 + 1) (by omega) (by omega)
      refine ⟨fun z => ?_, fun z => hb.2 z⟩
      obtain ⟨b1, b2, -⟩ := hb.1 z
      exact ⟨by show p < (yEit T (yOn T 6) ((yEit T (yOn T 6) p).2.1 + 1)).2.1; omega, b2⟩
    · rw [if_neg c2]
      exact ⟨fun _ => ⟨a1, a2⟩, fun z => absurd rfl z⟩
  · rw [if_neg c1]
    exact ⟨fun z => absurd z c1, fun z => ha.2 z⟩
theorem yLi_a {T : Int → Int} {p : Int} (h : (yEit T (yOn T 6) p).1 ≠ -1) : yLi T p = ((yEit T (yOn T 6) p).1, (yEit T (yOn T 6) p).2.1) := if_neg h
theorem yLi_b {T : Int → Int} {p : Int} (h : (yEit T (yOn T 6) p).1 = -1) (h2 : T (yEit T (yOn T 6) p).2.1 ≠ 63) : yLi T p = (-1, (yEit T (yOn T 6) p).2.1) := (if_pos h).trans (if_neg h2)
theorem yLi_c {T : Int → Int} {p : Int} (h : (yEit T (yOn T 6) p).1 = -1) (h2 : T (yEit T (yOn T 6) p).2.1 = 63) : yLi T p = ((yEit T (yOn T 6) ((yEit T (yOn T 6) p).2.1 + 1)).1, (yEit T (yOn T 6) ((yEit T (yOn T 6) p).2.1 + 1)).2.1) := (if_pos h).trans (if_pos h2)
/-- steps that make one value whatever the names; no line ends among them, names are names -/
def yWel (c : List (Int × Int)) : Prop := (∀ N : Nat → Int, ∃ v : Int, yVl N c v) ∧ ∀ x ∈ c, x.1 ≠ 59 ∧ x.1 ≠ 63
def yEv (N : Nat → Int) (c : List (Int × Int)) : Int := (yXe N c []).headD 0
theorem yVl.ev {N : Nat → Int} {c : List (Int × Int)} {v : Int} (h : yVl N c v) : yEv N c = v := by
  unfold yEv
  rw [h]
  rfl
theorem yWel.st {N : Nat → Int} {c : List (Int × Int)} (h : yWel c) (st : List Int) : yXe N c st = yEv N c :: st := by
  obtain ⟨v, hv⟩ := h.1 N
  rw [hv.ev]
  exact hv st
theorem yWel.bin {a b : List (Int × Int)} {s : Int} (ha : yWel a) (hb : yWel b) (h1 : s ≠ 86) (h2 : s ≠ 78) (h3 : s ≠ 77) (h4 : s ≠ 33) (h5 : s ≠ 59) (h6 : s ≠ 63) : yWel (a ++ b ++ [(s, 0)]) := by
  refine ⟨fun N => ?_, fun x hx => ?_⟩
  · obtain ⟨v, hv⟩ := ha.1 N
    obtain ⟨w, hw⟩ := hb.1 N
    exact ⟨_, hv.bin hw h1 h2 h3 h4⟩
  · rcases List.mem_append.mp hx with hx | hx
    · rcases List.mem_append.mp hx with hx | hx
      · exact ha.2 x hx
      · exact hb.2 x hx
    · rw [List.mem_singleton.mp hx]
      exact ⟨h5, h6⟩
theorem yWel.una {a : List (Int × Int)} {s : Int} (ha : yWel a) (h : s = 77 ∨ s = 33) : yWel (a ++ [(s, 0)]) := by
  refine ⟨fun N => ?_, fun x hx => ?_⟩
  · obtain ⟨v, hv⟩ := ha.1 N
    rcases h with h | h
    · rw [h]
      exact ⟨_, hv.neg⟩
    · rw [h]
      exact ⟨_, hv.no⟩
  · rcases List.mem_append.mp hx with hx | hx
    · exact ha.2 x hx
    · rw [List.mem_singleton.mp hx]
      show s ≠ 59 ∧ s ≠ 63
      omega
def yWd (X : Int → yR) : Prop := ∀ p : Int, 0 ≤ p → p ≤ 60 → (X p).1 = -1 → yWel (X p).2.2
theorem yLp_wd {T : Int → Int} {op : Int → Bool} {X : Int → yR} (hT : yTg T) (hop0 : ∀ c, op c = true → c ≠ 0) (hop : ∀ c, op c = true → c ≠ 86 ∧ c ≠ 78 ∧ c ≠ 77 ∧ c ≠ 33 ∧ c ≠ 59 ∧ c ≠ 63) (hG : yGd X) (hX : yWd X) {p : Int} (hp : 0 ≤ p) : ∀ (n : Nat) (r : yR), yGr p r → (r.1 = -1 → yWel r.2.2) → (yLp T op X n r).1 = -1 → yWel (yLp T op X n r).2.2
  | 0, _, _, h => h
  | n + 1, r, hr, h => by
    by_cases c : r.1 = -1 ∧ op (T r.2.1) = true
    · rw [yLp_1 c]
      refine yLp_wd hT hop0 hop hG hX hp n _ (hr.nx hT hop0 hG hp c) (fun z => ?_)
      obtain ⟨q1, q2, q3⟩ := hr.1 c.1
      have q4 := hT r.2.1 (by omega) (hop0 _ c.2)
      by_cases e : (X (r.2.1 + 1)).1 = -1
      · rw [if_pos e]
        obtain ⟨h1, h2, h3, h4, h5, h6⟩ := hop _ c.2
        exact (h c.1).bin (hX _ (by omega) (by omega) e) h1 h2 h3 h4 h5 h6
      · rw [if_neg e] at z
        exact absurd z e
    · rw [yLp_0 c]
      exact h
theorem yMu_s (c : Int) (h : yMu c = true) : c ≠ 86 ∧ c ≠ 78 ∧ c ≠ 77 ∧ c ≠ 33 ∧ c ≠ 59 ∧ c ≠ 63 := by have := of_decide_eq_true h; omega
theorem yPl_s (c : Int) (h : yPl c = true) : c ≠ 86 ∧ c ≠ 78 ∧ c ≠ 77 ∧ c ≠ 33 ∧ c ≠ 59 ∧ c ≠ 63 := by have := of_decide_eq_true h; omega
theorem yCq_s (c : Int) (h : yCq c = true) : c ≠ 86 ∧ c ≠ 78 ∧ c ≠ 77 ∧ c ≠ 33 ∧ c ≠ 59 ∧ c ≠ 63 := by have := of_decide_eq_true h; omega
theorem yAn_s (c : Int) (h : yAn c = true) : c ≠ 86 ∧ c ≠ 78 ∧ c ≠ 77 ∧ c ≠ 33 ∧ c ≠ 59 ∧ c ≠ 63 := by have := of_decide_eq_true h; omega
theorem yOo_s (c : Int) (h : yOo c = true) : c ≠ 86 ∧ c ≠ 78 ∧ c ≠ 77 ∧ c ≠ 33 ∧ c ≠ 59 ∧ c ≠ 63 := by have := of_decide_eq_true h; omega
theorem yEit_wd {T : Int → Int} {O : Int → yR} (hT : yTg T) (hG : yGd O) (h : yWd O) : yWd (yEit T O) := by
  have gP := yPro_gd hT hG
  have gS := ySum_gd hT hG
  have gC := yCmp_gd hT hG
  have gB := yBot_gd hT hG
  have hP : yWd (yPro T O) := fun p h0 h1 => yLp_wd hT yMu_0 yMu_s hG h h0 60 _ (hG p h0 h1) (h p h0 h1)
  have hS : yWd (ySum T O) := fun p h0 h1 => yLp_wd hT yPl_0 yPl_s gP hP h0 60 _ (gP p h0 h1) (hP p h0 h1)
  have hC : yWd (yCmp T O) := fun p h0 h1 => yLp_wd hT yCq_0 yCq_s gS hS h0 1 _ (gS p h0 h1) (hS p h0 h1)
  have hB : yWd (yBot T O) := fun p h0 h1 => yLp_wd hT yAn_0 yAn_s gC hC h0 60 _ (gC p h0 h1) (hC p h0 h1)
  exact fun p h0 h1 => yLp_wd hT yOo_0 yOo_s gB hB h0 60 _ (gB p h0 h1) (hB p h0 h1)
theorem yOp_wd {T : Int → Int} {O E : Int → yR} {last : Bool} (hT : yTg T) (hO : last = true ∨ yWd O) (hE : last = true ∨ yWd E) (hG : last = true ∨ yGd E) : yWd (yOp T last O E) := fun p h0 h1 => by
  unfold yOp
  by_cases c1 : 48 ≤ T p ∧ T p ≤ 57
  · rw [if_pos c1]
    exact fun _ => ⟨fun N => ⟨(yNm T 4 p 0).2, fun st => rfl⟩, fun x hx => by rw [List.mem_singleton.mp hx]; exact ⟨show (86 : Int) ≠ 59 by decide, show (86 : Int) ≠ 63 by decide⟩⟩
  · rw [if_neg c1]
    by_cases c2 : 0 ≤ yKx (T p)
    · rw [if_pos c2]
      exact fun _ => ⟨fun N => ⟨N (Int.toNat (yKx (T p))), fun st => rfl⟩, fun x hx => by rw [List.mem_singleton.mp hx]; exact ⟨show (78 : Int) ≠ 59 by decide, show (78 : Int) ≠ 63 by decide⟩⟩
    · rw [if_neg c2]
      have bad : ((p, p, []) : yR).1 = -1 → yWel ((p, p, []) : yR).2.2 := fun z => by
        have z : p = -1 := z
        omega
      by_cases c3 : last = true
      · rw [if_pos c3]
        exact bad
      · rw [if_neg c3]
        have hO := hO.resolve_left c3
        have hE := hE.resolve_left c3
        by_cases c4 : T p = 40
        · rw [if_pos c4]
          have h2 := hT p h0 (by omega)
          by_cases e : (E (p + 1)).1 = -1
          · rw [if_pos e]
            by_cases c5 : T (E (p + 1)).2.1 = 41
            · rw [if_pos c5]
              exact fun _ => hE (p + 1) (by omega) (by omega) e
            · rw [if_neg c5]
              have q := ((hG.resolve_left c3) (p + 1) (by omega) (by omega)).1 e
              intro z
              have z : (E (p + 1)).2.1 = -1 := z
              omega
          · rw [if_neg e]
            exact fun z => absurd z e
        · rw [if_neg c4]
          by_cases c6 : T p = 33 ∨ T p = 45
          · rw [if_pos c6]
            have h2 := hT p h0 (by omega)
            by_cases e : (O (p + 1)).1 = -1
            · rw [if_pos e]
              exact fun _ => (hO (p + 1) (by omega) (by omega) e).una (by
                by_cases c7 : T p = 45
                · rw [if_pos c7]
                  exact Or.inl rfl
                · rw [if_neg c7]
                  exact Or.inr (by omega))
            · rw [if_neg e]
              exact fun z => absurd z e
          · rw [if_neg c6]
            exact bad
theorem yOn_wd {T : Int → Int} (hT : yTg T) : ∀ n : Nat, yWd (yOn T n)
  | 0 => yOp_wd hT (Or.inl rfl) (Or.inl rfl) (Or.inl rfl)
  | n + 1 => yOp_wd hT (Or.inr (yOn_wd hT n)) (Or.inr (yEit_wd hT (yOn_gd hT n) (yOn_wd hT n))) (Or.inr (yEit_gd hT (yOn_gd hT n)))
/-- the machine that works out: steps by their places, how many, the names; fuel, place, stack -/
def yWk (S : Nat → Int × Int) (n : Int) (N : Nat → Int) : Nat → Int → List Int → Int
  | 0, _, _ => 0
  | f + 1, a, st => if a < n then (
      if (S (Int.toNat a)).1 = 59 ∧ st ≠ [] then st.headD 0
      else if (S (Int.toNat a)).1 = 63 ∧ st ≠ [] then yWk S n N f (if st.headD 0 = 0 then (S (Int.toNat a)).2 else a + 1) st.tail
      else yWk S n N f (a + 1) (yXs N (S (Int.toNat a)) st)) else 0
/-- a stretch of plain steps -/
theorem yWk_seg {S : Nat → Int × Int} {n : Int} {N : Nat → Int} : ∀ (c : List (Int × Int)) (a : Int) (f : Nat) (st : List Int), 0 ≤ a → a + (c.length : Int) ≤ n → (∀ j : Nat, j < c.length → c[j]? = some (S (Int.toNat a + j))) → (∀ x ∈ c, x.1 ≠ 59 ∧ x.1 ≠ 63) → yWk S n N (f + c.length) a st = yWk S n N f (a + (c.length : Int)) (yXe N c st)
  | [], a, f, st, _, _, _, _ => by
    show yWk S n N f a st = yWk S n N f (a + 0) st
    rw [Int.add_zero]
  | x :: c, a, f, st, h0, h1, h2, h3 => by
    have hl : ((x :: c).length : Int) = (c.length : Int) + 1 := by rw [List.length_cons]; omega
    have e0 : S (Int.toNat a) = x := by
      have h := h2 0 (by rw [List.length_cons]; omega)
      have h : some x = some (S (Int.toNat a + 0)) := h
      exact (Option.some.inj h).symm
    obtain ⟨n1, n2⟩ := h3 x (List.mem_cons_self)
    rw [show f + (x :: c).length = (f + c.length) + 1 by rw [List.length_cons]; omega]
    show (if a < n then (if (S (Int.toNat a)).1 = 59 ∧ st ≠ [] then st.headD 0 else if (S (Int.toNat a)).1 = 63 ∧ st ≠ [] then yWk S n N (f + c.length) (if st.headD 0 = 0 then (S (Int.toNat a)).2 else a + 1) st.tail else yWk S n N (f + c.length) (a + 1) (yXs N (S (Int.toNat a)) st)) else 0) = yWk S n N f (a + ((x :: c).length : Int)) (yXe N c (yXs N x st))
    rw [if_pos (by omega), e0, if_neg (fun z => n1 z.1), if_neg (fun z => n2 z.1)]
    rw [yWk_seg c (a + 1) f (yXs N x st) (by omega) (by omega) (fun j hj => by
      have h := h2 (j + 1) (by rw [List.length_cons]; omega)
      have h : c[j]? = some (S (Int.toNat a + (j + 1))) := h
      rw [h, show Int.toNat a + (j + 1) = Int.toNat (a + 1) + j by omega]) (fun y hy => h3 y (List.mem_cons_of_mem _ hy))]
    rw [show a + 1 + (c.length : Int) = a + ((x :: c).length : Int) by omega]
theorem yWk_end {S : Nat → Int × Int} {n : Int} {N : Nat → Int} {f : Nat} {a v : Int} {st : List Int} (h : a < n) (hs : (S (Int.toNat a)).1 = 59) : yWk S n N (f + 1) a (v :: st) = v := by
  show (if a < n then (if (S (Int.toNat a)).1 = 59 ∧ v :: st ≠ [] then v else _) else 0) = v
  rw [if_pos h, if_pos ⟨hs, by simp⟩]
theorem yWk_cond {S : Nat → Int × Int} {n : Int} {N : Nat → Int} {f : Nat} {a v : Int} {st : List Int} (h : a < n) (hs : (S (Int.toNat a)).1 = 63) : yWk S n N (f + 1) a (v :: st) = yWk S n N f (if v = 0 then (S (Int.toNat a)).2 else a + 1) st := by
  show (if a < n then (if (S (Int.toNat a)).1 = 59 ∧ v :: st ≠ [] then v else if (S (Int.toNat a)).1 = 63 ∧ v :: st ≠ [] then yWk S n N f (if v = 0 then (S (Int.toNat a)).2 else a + 1) st else _) else 0) = _
  rw [if_pos h, if_neg (fun z => by have := z.1; omega), if_pos ⟨hs, by simp⟩]
/-- a line's pieces, its steps when it begins with the k-th, what it is worth -/
def yLA (T : Int → Int) (p : Int) : yR := yEit T (yOn T 6) p
def yLB (T : Int → Int) (p : Int) : yR := yEit T (yOn T 6) ((yLA T p).2.1 + 1)
def yLc (T : Int → Int) (p k : Int) : List (Int × Int) := if T (yLA T p).2.1 = 63 then (yLA T p).2.2 ++ (63, k + (((yLA T p).2.2.length + (yLB T p).2.2.length + 2 : Nat) : Int)) :: ((yLB T p).2.2 ++ [(59, 0)]) else (yLA T p).2.2 ++ [(59, 0)]
def yLv (T : Int → Int) (N : Nat → Int) (p : Int) : Int := if T (yLA T p).2.1 = 63 then yEv N (yLB T p).2.2 else yEv N (yLA T p).2.2
def yLk (T : Int → Int) : Nat → Int → Int → List (Int × Int)
  | 0, p, k => yLc T p k
  | n + 1, p, k => if (yLi T p).1 = -1 ∧ T (yLi T p).2 = 59 then yLc T p k ++ yLk T n ((yLi T p).2 + 1) (k + ((yLc T p k).length : Int)) else yLc T p k
def yTv (T : Int → Int) (N : Nat → Int) : Nat → Int → Int
  | 0, p => if T (yLA T p).2.1 = 63 ∧ yEv N (yLA T p).2.2 = 0 then 0 else yLv T N p
  | n + 1, p => if T (yLA T p).2.1 = 63 ∧ yEv N (yLA T p).2.2 = 0 then (if (yLi T p).1 = -1 ∧ T (yLi T p).2 = 59 then yTv T N n ((yLi T p).2 + 1) else 0) else yLv T N p
theorem yWk_line {T : Int → Int} {S : Nat → Int × Int} {M : Int} {N : Nat → Int} (hT : yTg T) {p k : Int} {f : Nat} (h0 : 0 ≤ p) (h1 : p ≤ 60) (hk : 0 ≤ k) (hl : (yLi T p).1 = -1) (hM : k + ((yLc T p k).length : Int) ≤ M) (hS : ∀ j : Nat, j < (yLc T p k).length → (yLc T p k)[j]? = some (S (Int.toNat k + j))) (hf : (yLc T p k).length ≤ f) : (¬ (T (yLA T p).2.1 = 63 ∧ yEv N (yLA T p).2.2 = 0) → yWk S M N f k [] = yLv T N p) ∧ ((T (yLA T p).2.1 = 63 ∧ yEv N (yLA T p).2.2 = 0) → ∃ f' : Nat, f ≤ f' + (yLc T p k).length ∧ yWk S M N f k [] = yWk S M N f' (k + ((yLc T p k).length : Int)) []) := by
  have gA := yEit_gd hT (yOn_gd hT 6) p h0 h1
  have wE := yEit_wd hT (yOn_gd hT 6) (yOn_wd hT 6)
  have eA : (yLA T p).1 = -1 := by
    by_cases e : (yEit T (yOn T 6) p).1 = -1
    · exact e
    · rw [yLi_a e] at hl
      exact absurd hl e
  have wA : yWel (yLA T p).2.2 := wE p h0 h1 eA
  have pA : p < (yLA T p).2.1 ∧ (yLA T p).2.1 ≤ 60 := ⟨(gA.1 eA).1, (gA.1 eA).2.1⟩
  by_cases c : T (yLA T p).2.1 = 63
  · have ec : yLc T p k = (yLA T p).2.2 ++ (63, k + (((yLA T p).2.2.length + (yLB T p).2.2.length + 2 : Nat) : Int)) :: ((yLB T p).2.2 ++ [(59, 0)]) := if_pos c
    have q4 := hT (yLA T p).2.1 (by omega) (by omega)
    have eB : (yLB T p).1 = -1 := by
      rw [yLi_c eA c] at hl
      exact hl
    have wB : yWel (yLB T p).2.2 := wE ((yLA T p).2.1 + 1) (by omega) (by omega) eB
    have eL : (yLc T p k).length = (yLA T p).2.2.length + (yLB T p).2.2.length + 2 := by
      rw [ec, List.length_append, List.length_cons, List.length_append, List.length_singleton]
      omega
    have hA : ∀ j : Nat, j < (yLA T p).2.2.length → (yLA T p).2.2[j]? = some (S (Int.toNat k + j)) := fun j hj => by
      have h := hS j (by omega)
      rw [ec, List.getElem?_append_left hj] at h
      exact h
    have sA : S (Int.toNat (k + ((yLA T p).2.2.length : Int))) = (63, k + (((yLA T p).2.2.length + (yLB T p).2.2.length + 2 : Nat) : Int)) := by
      have h := hS (yLA T p).2.2.length (by omega)
      rw [ec, List.getElem?_append_right (Nat.le_refl _), Nat.sub_self] at h
      have h : some ((63 : Int), k + (((yLA T p).2.2.length + (yLB T p).2.2.length + 2 : Nat) : Int)) = some (S (Int.toNat k + (yLA T p).2.2.length)) := h
      rw [show Int.toNat (k + ((yLA T p).2.2.length : Int)) = Int.toNat k + (yLA T p).2.2.length by omega]
      exact (Option.some.inj h).symm
    have hB : ∀ j : Nat, j < (yLB T p).2.2.length + 1 → ((yLB T p).2.2 ++ [(59, 0)])[j]? = some (S (Int.toNat (k + ((yLA T p).2.2.length : Int) + 1) + j)) := fun j hj => by
      have h := hS ((yLA T p).2.2.length + (j + 1)) (by omega)
      rw [ec, List.getElem?_append_right (by omega), show (yLA T p).2.2.length + (j + 1) - (yLA T p).2.2.length = j + 1 by omega] at h
      have h : ((yLB T p).2.2 ++ [((59 : Int), (0 : Int))])[j]? = some (S (Int.toNat k + ((yLA T p).2.2.length + (j + 1)))) := h
      rw [h, show Int.toNat k + ((yLA T p).2.2.length + (j + 1)) = Int.toNat (k + ((yLA T p).2.2.length : Int) + 1) + j by omega]
    obtain ⟨f1, rfl⟩ : ∃ f1 : Nat, f = f1 + 1 + (yLA T p).2.2.length := ⟨f - 1 - (yLA T p).2.2.length, by omega⟩
    have s1 := yWk_seg (S := S) (n := M) (N := N) (yLA T p).2.2 k (f1 + 1) [] hk (by omega) hA wA.2
    rw [wA.st, yWk_cond (by omega) (by rw [sA]), sA] at s1
    rw [s1]
    refine ⟨fun hn => ?_, fun hc => ?_⟩
    · have hv : ¬ yEv N (yLA T p).2.2 = 0 := fun z => hn ⟨c, z⟩
      rw [if_neg hv]
      obtain ⟨f2, rfl⟩ : ∃ f2 : Nat, f1 = f2 + 1 + (yLB T p).2.2.length := ⟨f1 - 1 - (yLB T p).2.2.length, by omega⟩
      have s2 := yWk_seg (S := S) (n := M) (N := N) (yLB T p).2.2 (k + ((yLA T p).2.2.length : Int) + 1) (f2 + 1) [] (by omega) (by omega) (fun j hj => by
        have h := hB j (by omega)
        rw [List.getElem?_append_left hj] at h
        exact h) wB.2
      have sB : (S (Int.toNat (k + ((yLA T p).2.2.length : Int) + 1 + ((yLB T p).2.2.length : Int)))).1 = 59 := by
        have h := hB (yLB T p).2.2.length (by omega)
        rw [List.getElem?_append_right (Nat.le_refl _), Nat.sub_self] at h
        have h : some ((59 : Int), (0 : Int)) = some (S (Int.toNat (k + ((yLA T p).2.2.length : Int) + 1) + (yLB T p).2.2.length)) := h
        rw [show Int.toNat (k + ((yLA T p).2.2.length : Int) + 1 + ((yLB T p).2.2.length : Int)) = Int.toNat (k + ((yLA T p).2.2.length : Int) + 1) + (yLB T p).2.2.length by omega, ← Option.some.inj h]
      rw [wB.st, yWk_end (by omega) sB] at s2
      rw [s2]
      unfold yLv
      rw [if_pos c]
    · rw [if_pos hc.2]
      exact ⟨f1, by omega, by rw [eL]⟩
  · have ec : yLc T p k = (yLA T p).2.2 ++ [(59, 0)] := if_neg c
    have eL : (yLc T p k).length = (yLA T p).2.2.length + 1 := by rw [ec, List.length_append, List.length_singleton]
    obtain ⟨f1, rfl⟩ : ∃ f1 : Nat, f = f1 + 1 + (yLA T p).2.2.length := ⟨f - 1 - (yLA T p).2.2.length, by omega⟩
    have s1 := yWk_seg (S := S) (n := M) (N := N) (yLA T p).2.2 k (f1 + 1) [] hk (by omega) (fun j hj => by
      have h := hS j (by omega)
      rw [ec, List.getElem?_append_left hj] at h
      exact h) wA.2
    have sA : (S (Int.toNat (k + ((yLA T p).2.2.length : Int)))).1 = 59 := by
      have h := hS (yLA T p).2.2.length (by omega)
      rw [ec, List.getElem?_append_right (Nat.le_refl _), Nat.sub_self] at h
      have h : some ((59 : Int), (0 : Int)) = some (S (Int.toNat k + (yLA T p).2.2.length)) := h
      rw [show Int.toNat (k + ((yLA T p).2.2.length : Int)) = Int.toNat k + (yLA T p).2.2.length by omega, ← Option.some.inj h]
    rw [wA.st, yWk_end (by omega) sA] at s1
    refine ⟨fun _ => ?_, fun z => absurd z.1 c⟩
    rw [s1]
    unfold yLv
    rw [if_neg c]
theorem yWk_out {S : Nat → Int × Int} {n a : Int} {N : Nat → Int} {st : List Int} (h : ¬ a < n) : ∀ f : Nat, yWk S n N f a st = 0
  | 0 => rfl
  | _ + 1 => if_neg h
/-- a text that was read is worth what its first line that counts is worth -/
theorem yWk_text {T : Int → Int} (hT : yTg T) {S : Nat → Int × Int} {M : Int} {N : Nat → Int} : ∀ (n : Nat) (p k : Int) (f : Nat), 0 ≤ p → p ≤ 60 → 0 ≤ k → (yLs T n (yLi T p)).1 = -1 → M = k + ((yLk T n p k).length : Int) → (∀ j : Nat, j < (yLk T n p k).length → (yLk T n p k)[j]? = some (S (Int.toNat k + j))) → (yLk T n p k).length ≤ f → yWk S M N f k [] = yTv T N n p
  | 0, p, k, f, h0, h1, hk, hl, hM, hS, hf => by
    have hl : (yLi T p).1 = -1 := hl
    have hM : M = k + ((yLc T p k).length : Int) := hM
    have h := yWk_line (M := M) (N := N) hT h0 h1 hk hl (by omega) hS hf
    show yWk S M N f k [] = if T (yLA T p).2.1 = 63 ∧ yEv N (yLA T p).2.2 = 0 then 0 else yLv T N p
    by_cases c : T (yLA T p).2.1 = 63 ∧ yEv N (yLA T p).2.2 = 0
    · obtain ⟨f', -, e⟩ := h.2 c
      rw [if_pos c, e]
      exact yWk_out (by omega) f'
    · rw [if_neg c]
      exact h.1 c
  | n + 1, p, k, f, h0, h1, hk, hl, hM, hS, hf => by
    show yWk S M N f k [] = if T (yLA T p).2.1 = 63 ∧ yEv N (yLA T p).2.2 = 0 then (if (yLi T p).1 = -1 ∧ T (yLi T p).2 = 59 then yTv T N n ((yLi T p).2 + 1) else 0) else yLv T N p
    by_cases d : (yLi T p).1 = -1 ∧ T (yLi T p).2 = 59
    · have et : yLk T (n + 1) p k = yLc T p k ++ yLk T n ((yLi T p).2 + 1) (k + ((yLc T p k).length : Int)) := if_pos d
      rw [yLs_1 d] at hl
      rw [et, List.length_append] at hM hf
      rw [et, List.length_append] at hS
      have gl := (yLi_g hT h0 h1).1 d.1
      have q4 := hT (yLi T p).2 (by omega) (by omega)
      have h := yWk_line (M := M) (N := N) (f := f) hT h0 h1 hk d.1 (by omega) (fun j hj => by
        have h := hS j (by omega)
        rw [List.getElem?_append_left hj] at h
        exact h) (by omega)
      by_cases c : T (yLA T p).2.1 = 63 ∧ yEv N (yLA T p).2.2 = 0
      · obtain ⟨f', hf', e⟩ := h.2 c
        rw [if_pos c, if_pos d, e]
        refine yWk_text hT n ((yLi T p).2 + 1) (k + ((yLc T p k).length : Int)) f' (by omega) (by omega) (by omega) hl (by omega) (fun j hj => ?_) (by omega)
        have h := hS ((yLc T p k).length + j) (by omega)
        rw [List.getElem?_append_right (by omega), show (yLc T p k).length + j - (yLc T p k).length = j by omega] at h
        rw [h, show Int.toNat k + ((yLc T p k).length + j) = Int.toNat (k + ((yLc T p k).length : Int)) + j by omega]
      · rw [if_neg c]
        exact h.1 c
    · have et : yLk T (n + 1) p k = yLc T p k := if_neg d
      rw [yLs_0 d] at hl
      rw [et] at hM hf hS
      have h := yWk_line (M := M) (N := N) hT h0 h1 hk hl (by omega) hS hf
      by_cases c : T (yLA T p).2.1 = 63 ∧ yEv N (yLA T p).2.2 = 0
      · obtain ⟨f', -, e⟩ := h.2 c
        rw [if_pos c, if_neg d, e]
        exact yWk_out (by omega) f'
      · rw [if_neg c]
        exact h.1 c
/-- the steps of the lines behind one -/
def yTd (T : Int → Int) : Nat → Int × Int → Int → List (Int × Int)
  | 0, _, _ => []
  | n + 1, l, k => if l.1 = -1 ∧ T l.2 = 59 then yLc T (l.2 + 1) k ++ yTd T n (yLi T (l.2 + 1)) (k + ((yLc T (l.2 + 1) k).length : Int)) else []
theorem yTd_0 {T : Int → Int} {l : Int × Int} {k : Int} (h : ¬ (l.1 = -1 ∧ T l.2 = 59)) : ∀ n : Nat, yTd T n l k = []
  | 0 => rfl
  | _ + 1 => if_neg h
theorem yTd_1 {T : Int → Int} {l : Int × Int} {k : Int} {n : Nat} (h : l.1 = -1 ∧ T l.2 = 59) : yTd T (n + 1) l k = yLc T (l.2 + 1) k ++ yTd T n (yLi T (l.2 + 1)) (k + ((yLc T (l.2 + 1) k).length : Int)) := if_pos h
theorem yLk_d {T : Int → Int} : ∀ (n : Nat) (p k : Int), yLk T n p k = yLc T p k ++ yTd T n (yLi T p) (k + ((yLc T p k).length : Int))
  | 0, p, k => (List.append_nil _).symm
  | n + 1, p, k => by
    by_cases c : (yLi T p).1 = -1 ∧ T (yLi T p).2 = 59
    · have e : yLk T (n + 1) p k = yLc T p k ++ yLk T n ((yLi T p).2 + 1) (k + ((yLc T p k).length : Int)) := if_pos c
      rw [e, yTd_1 c, yLk_d n]
    · have e : yLk T (n + 1) p k = yLc T p k := if_neg c
      rw [e, yTd_0 c, List.append_nil]
/-- an object holds these steps -/
def yHc (q : Nat) (m : yM) (c : List (Int × Int)) : Prop := m q 4 = (c.length : Int) ∧ ∀ j : Nat, j < c.length → c[j]? = some (m (q + 21) j, m (q + 23) j)
theorem yHc.add {q : Nat} {g m : yM} {c d : List (Int × Int)} (h : yHc q g c) (h2 : yAp q g m d) : yHc q m (c ++ d) := by
  obtain ⟨a1, a2⟩ := h
  obtain ⟨b1, b2, b3⟩ := h2
  refine ⟨by rw [b1, a1, List.length_append]; omega, fun j hj => ?_⟩
  rw [List.length_append] at hj
  by_cases e : j < c.length
  · rw [List.getElem?_append_left e, a2 j e]
    have f := b2 j (by omega)
    rw [f.1, f.2]
  · rw [List.getElem?_append_right (by omega), b3 (j - c.length) (by omega), show Int.toNat (g q 4) + (j - c.length) = j by omega]
theorem yHc.of {q : Nat} {g m : yM} {c : List (Int × Int)} (h : yHc q g c) (h4 : m q 4 = g q 4) (h1 : ∀ j : Nat, m (q + 21) j = g (q + 21) j) (h2 : ∀ j : Nat, m (q + 23) j = g (q + 23) j) : yHc q m c := ⟨by rw [h4]; exact h.1, fun j hj => by rw [h1, h2]; exact h.2 j hj⟩
/-- an object that holds a text's steps works out what the text is worth -/
theorem yHc.wk {q : Nat} {m : yM} {T : Int → Int} {N : Nat → Int} (hT : yTg T) (hf : (yLs T 60 (yLi T 0)).1 = -1) (h : yHc q m (yLk T 60 0 0)) (h61 : m q 4 ≤ 61) : yWk (fun j => (m (q + 21) j, m (q + 23) j)) (m q 4) N 61 0 [] = yTv T N 60 0 := by
  obtain ⟨h1, h2⟩ := h
  refine yWk_text hT 60 0 0 61 (by decide) (by decide) (by decide) hf (by omega) (fun j hj => ?_) (by omega)
  rw [h2 j hj, show Int.toNat 0 + j = j by omega]
