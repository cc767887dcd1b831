/-! IDLE -/
/-- away at a minute, the class -/
def yaC (g : yM) (d t : Int) : Nat → Int
  | 0 => 0
  | n + 1 => if g 15 n = d ∧ g 16 n ≤ t ∧ t ≤ g 17 n then 1 else yaC g d t n
theorem yaC_1 {g : yM} {d t : Int} {n : Nat} (h : g 15 n = d ∧ g 16 n ≤ t ∧ t ≤ g 17 n) : yaC g d t (n + 1) = 1 := if_pos h
theorem yaC_0 {g : yM} {d t : Int} {n : Nat} (h : ¬ (g 15 n = d ∧ g 16 n ≤ t ∧ t ≤ g 17 n)) : yaC g d t (n + 1) = yaC g d t n := if_neg h
theorem yaC_b {g : yM} {d t : Int} : ∀ n : Nat, yaC g d t n = 0 ∨ yaC g d t n = 1
  | 0 => Or.inl rfl
  | n + 1 => by
    by_cases h : g 15 n = d ∧ g 16 n ≤ t ∧ t ≤ g 17 n
    · exact Or.inr (yaC_1 h)
    · rw [yaC_0 h]; exact yaC_b n
theorem yaC_up {g : yM} {d t : Int} {k : Nat} (h : yaC g d t k = 1) : ∀ n : Nat, k ≤ n → yaC g d t n = 1
  | 0, hn => by
    have : k = 0 := by omega
    subst this
    exact h
  | n + 1, hn => by
    by_cases e : k = n + 1
    · subst e
      exact h
    · have ih := yaC_up h n (by omega)
      by_cases c : g 15 n = d ∧ g 16 n ≤ t ∧ t ≤ g 17 n
      · exact yaC_1 c
      · rw [yaC_0 c]; exact ih
theorem yaC_al {g m : yM} {d t : Int} : ∀ n : Nat, (∀ j : Nat, j < n → m 95 j = g 15 j ∧ m 96 j = g 16 j ∧ m 97 j = g 17 j) → yaM m d t n = yaC g d t n
  | 0, _ => rfl
  | n + 1, h => by
    have ih := yaC_al (d := d) (t := t) n (fun j hj => h j (by omega))
    obtain ⟨e1, e2, e3⟩ := h n (by omega)
    by_cases c : g 15 n = d ∧ g 16 n ≤ t ∧ t ≤ g 17 n
    · rw [yaC_1 c, yaM_1 (by rw [e1, e2, e3]; exact c)]
    · rw [yaC_0 c, yaM_0 (by rw [e1, e2, e3]; exact c), ih]
/-- one who waits; someone does; a clerk is idle -/
def yWc (g : yM) (d e t : Int) (i : Nat) : Prop := g (50 + i) 0 = d ∧ yw (g (50 + i) 1 + g 1 9) ≤ t ∧ t < g (50 + i) 10 ∧ (g 1 10 = 0 ∨ g (50 + i) 7 = e)
def yWn (g : yM) (d e t : Int) (i : Nat) : Prop := g 101 i = d ∧ (g 90 11 = 0 ∨ g 107 i = e) ∧ t < g 110 i ∧ yw (g 91 i + g 91 52) ≤ t
def yWt (g : yM) (d e t : Int) : Prop := ∃ i : Nat, (i : Int) < g 1 1 ∧ yWc g d e t i
def yWm (g : yM) (d e t : Int) : Prop := ∃ i : Nat, (i : Int) < g 90 22 ∧ yWn g d e t i
def yIc (g : yM) (d e t : Int) : Prop := yaC g e t (Int.toNat (g 1 7)) ≠ 1 ∧ yWt g d e t
def yIn (g : yM) (d e t : Int) : Prop := yaM g e t (Int.toNat (g 90 6)) ≠ 1 ∧ yWm g d e t
def yFm (z t : Int) : Int := if z < 0 ∨ t < z then t else z
theorem yFm_1 {z t : Int} (h : z < 0 ∨ t < z) : yFm z t = t := if_pos h
theorem yFm_0 {z t : Int} (h : ¬ (z < 0 ∨ t < z)) : yFm z t = z := if_neg h
/-- how many minutes and the first, behind the first k of one; behind the first n comers -/
def yIt (P : Int → Prop) (t0 n0 f0 : Int) : Nat → Int → Int → Prop
  | 0, n, f => n = n0 ∧ f = f0
  | k + 1, n, f => ∃ u z : Int, yIt P t0 n0 f0 k u z ∧ ((P (t0 + (k : Int)) ∧ n = yw (u + 1) ∧ f = yFm z (t0 + (k : Int))) ∨ (¬ P (t0 + (k : Int)) ∧ n = u ∧ f = z))
def yIo (Q : Nat → Prop) (T0 T1 : Nat → Int) (P : Nat → Int → Prop) : Nat → Int → Int → Prop
  | 0, n, f => n = 0 ∧ f = -2
  | c + 1, n, f => ∃ u z : Int, yIo Q T0 T1 P c u z ∧ ((Q c ∧ yIt (P c) (T0 c) u z (Int.toNat (T1 c - T0 c)) n f) ∨ (¬ Q c ∧ n = u ∧ f = z))
theorem yIt_f {P : Int → Prop} {t0 n0 f0 : Int} (h0 : 0 ≤ t0) (hf : f0 = -2 ∨ 0 ≤ f0) : ∀ (k : Nat) (n f : Int), yIt P t0 n0 f0 k n f → f = -2 ∨ 0 ≤ f
  | 0, n, f, h => by
    rw [h.2]
    exact hf
  | k + 1, n, f, h => by
    obtain ⟨u, z, h1, h2⟩ := h
    have ih := yIt_f h0 hf k u z h1
    rcases h2 with ⟨-, -, h3⟩ | ⟨-, -, h3⟩
    · rw [h3]
      unfold yFm
      split <;> omega
    · rw [h3]
      exact ih
theorem yIt_u {P P' : Int → Prop} {t0 n0 f0 : Int} (hP : ∀ t, P t ↔ P' t) : ∀ (k : Nat) (n f n' f' : Int), yIt P t0 n0 f0 k n f → yIt P' t0 n0 f0 k n' f' → n = n' ∧ f = f'
  | 0, n, f, n', f', h1, h2 => ⟨h1.1.trans h2.1.symm, h1.2.trans h2.2.symm⟩
  | k + 1, n, f, n', f', h1, h2 => by
    obtain ⟨u, z, h3, h4⟩ := h1
    obtain ⟨u', z', h5, h6⟩ := h2
    obtain ⟨e1, e2⟩ := yIt_u hP k u z u' z' h3 h5
    have hp := hP (t0 + (k : Int))
    rcases h4 with ⟨q1, q2, q3⟩ | ⟨q1, q2, q3⟩
    · rcases h6 with ⟨t1, t2, t3⟩ | ⟨t1, t2, t3⟩
      · rw [q2, q3, t2, t3, e1, e2]
        exact ⟨rfl, rfl⟩
      · exact absurd (hp.mp q1) t1
    · rcases h6 with ⟨t1, t2, t3⟩ | ⟨t1, t2, t3⟩
      · exact absurd (hp.mpr t1) q1
      · rw [q2, q3, t2, t3]
        exact ⟨e1, e2⟩
theorem yIo_u {Q Q' : Nat → Prop} {T0 T1 T0' T1' : Nat → Int} {P P' : Nat → Int → Prop} : ∀ (c : Nat) (n f n' f' : Int), (∀ i : Nat, i < c → (Q i ↔ Q' i)) → (∀ i : Nat, i < c → Q i → T0 i = T0' i ∧ T1 i = T1' i ∧ ∀ t, P i t ↔ P' i t) → yIo Q T0 T1 P c n f → yIo Q' T0' T1' P' c n' f' → n = n' ∧ f = f'
  | 0, n, f, n', f', _, _, h1, h2 => ⟨h1.1.trans h2.1.symm, h1.2.trans h2.2.symm⟩
  | c + 1, n, f, n', f', hQ, hP, h1, h2 => by
    obtain ⟨u, z, h3, h4⟩ := h1
    obtain ⟨u', z', h5, h6⟩ := h2
    obtain ⟨e1, e2⟩ := yIo_u c u z u' z' (fun i hi => hQ i (by omega)) (fun i hi => hP i (by omega)) h3 h5
    have hq := hQ c (by omega)
    rcases h4 with ⟨q1, q2⟩ | ⟨q1, q2, q3⟩
    · rcases h6 with ⟨t1, t2⟩ | ⟨t1, t2⟩
      · obtain ⟨p1, p2, p3⟩ := hP c (by omega) q1
        rw [e1, e2, p1, p2] at q2
        exact yIt_u p3 _ n f n' f' q2 t2
      · exact absurd (hq.mp q1) t1
    · rcases h6 with ⟨t1, t2⟩ | ⟨t1, t2, t3⟩
      · exact absurd (hq.mpr t1) q1
      · rw [q2, q3, t2, t3]
        exact ⟨e1, e2⟩
/-- all but the two numbers that idle writes is as it was -/
def yIf (g m : yM) : Prop := ∀ a b : Nat, ¬ (a = 7 ∧ (b = 5 ∨ b = 6)) → m a b = g a b
theorem yIf.s {g m : yM} {j : Nat} {v : Int} (h : yIf g m) (hj : j = 5 ∨ j = 6) : yIf g (yset m 7 j v) := fun a b hn => by
  rw [yset_ne (fun z => hn (by omega))]
  exact h a b hn
theorem yaC_fi {g m : yM} (h : yIf g m) (d t : Int) : ∀ n : Nat, yaC m d t n = yaC g d t n
  | 0 => rfl
  | n + 1 => by
    have ih := yaC_fi h d t n
    have e1 : m 15 n = g 15 n := h 15 n (by omega)
    have e2 : m 16 n = g 16 n := h 16 n (by omega)
    have e3 : m 17 n = g 17 n := h 17 n (by omega)
    by_cases c : g 15 n = d ∧ g 16 n ≤ t ∧ t ≤ g 17 n
    · rw [yaC_1 c, yaC_1 (by rw [e1, e2, e3]; exact c)]
    · rw [yaC_0 c, yaC_0 (by rw [e1, e2, e3]; exact c), ih]
theorem yWt_fi {g m : yM} (h : yIf g m) (d e t : Int) : yWt m d e t = yWt g d e t := by
  have key : ∀ i : Nat, yWc m d e t i = yWc g d e t i := fun i => by
    unfold yWc
    rw [h (50 + i) 0 (by omega), h (50 + i) 1 (by omega), h 1 9 (by omega), h (50 + i) 10 (by omega), h 1 10 (by omega), h (50 + i) 7 (by omega)]
  unfold yWt
  rw [h 1 1 (by omega)]
  exact congrArg _ (funext fun i => by rw [key i])
theorem yIc_fi {g m : yM} (h : yIf g m) : yIc m = yIc g := funext fun d => funext fun e => funext fun t => by
  unfold yIc
  rw [yaC_fi h, yWt_fi h, h 1 7 (by omega)]
def yQk (g : yM) (t e : Int) (c : Nat) : Prop := g (50 + c) 0 = t ∧ g (50 + c) 3 = e ∧ g (50 + c) 10 ≠ -2 ∧ 0 ≤ g (50 + c) 9 ∧ g (50 + c) 9 < g 1 1
def yTc (g : yM) (c : Nat) : Int := g (50 + Int.toNat (g (50 + c) 9)) 2
def yIoc (g : yM) (t e : Int) : Nat → Int → Int → Prop := yIo (yQk g t e) (yTc g) (fun c => g (50 + c) 11) (fun c => yIc g (g (50 + c) 0) (g (50 + c) 3))
def yQi (g : yM) (t e : Int) (c : Nat) : Prop := g 101 c = t ∧ g 103 c = e ∧ 0 ≤ g 110 c ∧ 0 ≤ yMg g c (Int.toNat (g 90 22))
def yTi (g : yM) (c : Nat) : Int := g 102 (Int.toNat (yMg g c (Int.toNat (g 90 22))))
def yIom (g : yM) (t e : Int) : Nat → Int → Int → Prop := yIo (yQi g t e) (yTi g) (fun c => yMl g c) (fun _ => yIn g t e)
def yP_ISA : yPT := fun as g K => ∃ (d t : Int), as = [(3, 1), (1, d), (1, t)] ∧ (0 ≤ g 1 7 ∧ g 1 7 ≤ 12) ∧ (∀ (r : Int), (r = yaC g d t (Int.toNat (g 1 7))) → K [(1, r)] g)
def yC_ISA : yC := (124, (1, 40), yP_ISA)
set_option maxRecDepth 8000 in
theorem yl_ISA {K : List yV → yM → Prop} {Y : yNx} {g : yM} {d t : Int} (hY : yCl zpD124 (zpZ, zpRS, zpP11, zpMT, [], (1, 40), 2) K Y) (hs : 0 ≤ g 1 7 ∧ g 1 7 ≤ 12) (hK : K [(1, yaC g d t (Int.toNat (g 1 7)))] g) : ∀ (n : Nat) (i : Int), i + n = g 1 7 → 0 ≤ i → yaC g d t (Int.toNat i) = 0 → Y 2 [(3, 1), (1, d), (1, t), (1, i)] [] g := by
  intro n
  induction n with
  | zero =>
    intro i hd h0 hz
    refine yrun_ok (sp := fun pc => Nat.beq pc 2) hY 25 2 _ [] g ?_
    show (((g 1 7) ≤ i → (((0 : Int) ≤ 0 ∧ 0 ≤ (1 : Int)) ∧ (K [(1, 0)] g))) ∧ (¬ ((g 1 7) ≤ i) → (((0 : Int) ≤ i ∧ i < ((12 : Nat) : Int)) ∧ (((g 15 (Int.toNat i)) ≠ d → (Y 2 [(3, 1), (1, d), (1, t), (1, (yw (i + 1)))] [] g)) ∧ (¬ ((g 15 (Int.toNat i)) ≠ d) → (((0 : Int) ≤ i ∧ i < ((12 : Nat) : Int)) ∧ ((t < (g 16 (Int.toNat i)) → (Y 2 [(3, 1), (1, d), (1, t), (1, (yw (i + 1)))] [] g)) ∧ (¬ (t < (g 16 (Int.toNat i))) → (((0 : Int) ≤ i ∧ i < ((12 : Nat) : Int)) ∧ (((g 17 (Int.toNat i)) < t → (Y 2 [(3, 1), (1, d), (1, t), (1, (yw (i + 1)))] [] g)) ∧ (¬ ((g 17 (Int.toNat i)) < t) → (((0 : Int) ≤ 1 ∧ 1 ≤ (1 : Int)) ∧ (K [(1, 1)] g)))))))))))))
    refine ⟨fun h1 => ?_, fun h1 => ?_⟩
    · refine ⟨(by omega), ?_⟩
      obtain rfl : i = g 1 7 := by omega
      rw [hz] at hK
      exact hK
    · refine ⟨(by omega), ?_⟩
      refine ⟨fun h2 => ?_, fun h2 => ?_⟩
      · omega
      · refine ⟨(by omega), ?_⟩
        refine ⟨fun h3 => ?_, fun h3 => ?_⟩
        · omega
        · refine ⟨(by omega), ?_⟩
          refine ⟨fun h4 => ?_, fun h4 => ?_⟩
          · omega
          · refine ⟨(by omega), ?_⟩
            omega
  | succ n ih =>
    intro i hd h0 hz
    refine yrun_ok (sp := fun pc => Nat.beq pc 2) hY 25 2 _ [] g ?_
    show (((g 1 7) ≤ i → (((0 : Int) ≤ 0 ∧ 0 ≤ (1 : Int)) ∧ (K [(1, 0)] g))) ∧ (¬ ((g 1 7) ≤ i) → (((0 : Int) ≤ i ∧ i < ((12 : Nat) : Int)) ∧ (((g 15 (Int.toNat i)) ≠ d → (Y 2 [(3, 1), (1, d), (1, t), (1, (yw (i + 1)))] [] g)) ∧ (¬ ((g 15 (Int.toNat i)) ≠ d) → (((0 : Int) ≤ i ∧ i < ((12 : Nat) : Int)) ∧ ((t < (g 16 (Int.toNat i)) → (Y 2 [(3, 1), (1, d), (1, t), (1, (yw (i + 1)))] [] g)) ∧ (¬ (t < (g 16 (Int.toNat i))) → (((0 : Int) ≤ i ∧ i < ((12 : Nat) : Int)) ∧ (((g 17 (Int.toNat i)) < t → (Y 2 [(3, 1), (1, d), (1, t), (1, (yw (i + 1)))] [] g)) ∧ (¬ ((g 17 (Int.toNat i)) < t) → (((0 : Int) ≤ 1 ∧ 1 ≤ (1 : Int)) ∧ (K [(1, 1)] g)))))))))))))
    refine ⟨fun h1 => ?_, fun h1 => ?_⟩
    · refine ⟨(by omega), ?_⟩
      omega
    · refine ⟨(by omega), ?_⟩
      refine ⟨fun h2 => ?_, fun h2 => ?_⟩
      · have yi : yw (i + 1) = i + 1 := yw_s (i + 1) (by omega) (by omega)
        rw [yi]
        refine ih (i + 1) (by omega) (by omega) ?_
        rw [show Int.toNat (i + 1) = Int.toNat i + 1 by omega, yaC_0 (by omega)]
        exact hz
      · refine ⟨(by omega), ?_⟩
        refine ⟨fun h3 => ?_, fun h3 => ?_⟩
        · have yi : yw (i + 1) = i + 1 := yw_s (i + 1) (by omega) (by omega)
          rw [yi]
          refine ih (i + 1) (by omega) (by omega) ?_
          rw [show Int.toNat (i + 1) = Int.toNat i + 1 by omega, yaC_0 (by omega)]
          exact hz
        · refine ⟨(by omega), ?_⟩
          refine ⟨fun h4 => ?_, fun h4 => ?_⟩
          · have yi : yw (i + 1) = i + 1 := yw_s (i + 1) (by omega) (by omega)
            rw [yi]
            refine ih (i + 1) (by omega) (by omega) ?_
            rw [show Int.toNat (i + 1) = Int.toNat i + 1 by omega, yaC_0 (by omega)]
            exact hz
          · refine ⟨(by omega), ?_⟩
            have e : yaC g d t (Int.toNat i + 1) = 1 := yaC_1 (by omega)
            rw [yaC_up e (Int.toNat (g 1 7)) (by omega)] at hK
            exact hK
set_option maxRecDepth 8000 in
theorem yv_ISA {K : List yV → yM → Prop} {Y : yNx} {g : yM} {d t : Int} (hY : yCl zpD124 (zpZ, zpRS, zpP11, zpMT, [], (1, 40), 2) K Y) (hr_d : -2147483648 ≤ d ∧ d ≤ 2147483647) (hr_t : -2147483648 ≤ t ∧ t ≤ 2147483647) (hp0 : 0 ≤ g 1 7 ∧ g 1 7 ≤ 12) (hK : ∀ (r : Int), (r = yaC g d t (Int.toNat (g 1 7))) → K [(1, r)] g) : Y 0 [(3, 1), (1, d), (1, t), (0, 0)] [] g := by
  refine yrun_ok (sp := fun pc => Nat.beq pc 2) hY 3 0 _ [] g ?_
  show (Y 2 [(3, 1), (1, d), (1, t), (1, 0)] [] g)
  exact yl_ISA hY hp0 (hK _ rfl) (Int.toNat (g 1 7)) 0 (by omega) (by decide) rfl
theorem yM_ISA {l : Launch} {Ts : List Cond} {cl : List vw_C} {RO : zRO} (H : zHyp Ts cl RO) : yMet l Ts cl zpZ RO zpMT yC_ISA := ymet_of2 H.1 H.2.1 zpDj H.2.2.1 yRb H.p11 ymets_nil (zrc2 rfl) (plainFor_of_name zpy11) zpDk124 (fun as g K Y h hA hY => by
  obtain ⟨d, t, rfl, hp0, hK⟩ := h
  exact yv_ISA hY (yAr1 hA (by simp)) (yAr1 hA (by simp)) hp0 hK)
def yP_SAT : yPT := fun as g K => ∃ (w e : Int), as = [(3, 1), (141, w), (1, e)] ∧ (0 ≤ w ∧ w < 40) ∧ (∀ (r : Int), ((r = 1 ∧ (g 1 10 = 0 ∨ g (50 + Int.toNat w) 7 = e)) ∨ (r = 0 ∧ ¬ (g 1 10 = 0 ∨ g (50 + Int.toNat w) 7 = e))) → K [(1, r)] g)
def yC_SAT : yC := (130, (1, 40), yP_SAT)
set_option maxRecDepth 8000 in
theorem yv_SAT {K : List yV → yM → Prop} {Y : yNx} {g : yM} {w e : Int} (hY : yCl zpD130 (zpZ, zpRS, zpP11, zpMT, [], (1, 40), 2) K Y) (hr_e : -2147483648 ≤ e ∧ e ≤ 2147483647) (hp0 : 0 ≤ w ∧ w < 40) (hK : ∀ (r : Int), ((r = 1 ∧ (g 1 10 = 0 ∨ g (50 + Int.toNat w) 7 = e)) ∨ (r = 0 ∧ ¬ (g 1 10 = 0 ∨ g (50 + Int.toNat w) 7 = e))) → K [(1, r)] g) : Y 0 [(3, 1), (141, w), (1, e)] [] g := by
  refine yrun_ok (sp := fun pc => false) hY 10 0 _ [] g ?_
  show (((g 1 10) = 0 → (((0 : Int) ≤ 1 ∧ 1 ≤ (1 : Int)) ∧ (K [(1, 1)] g))) ∧ (¬ ((g 1 10) = 0) → (((g (50 + Int.toNat w) 7) ≠ e → (((0 : Int) ≤ 0 ∧ 0 ≤ (1 : Int)) ∧ (K [(1, 0)] g))) ∧ (¬ ((g (50 + Int.toNat w) 7) ≠ e) → (((0 : Int) ≤ 1 ∧ 1 ≤ (1 : Int)) ∧ (K [(1, 1)] g))))))
  refine ⟨fun h1 => ?_, fun h1 => ?_⟩
  · refine ⟨(by omega), ?_⟩
    exact hK _ (by first | omega | exact fun _ => rfl | exact fun h => absurd h (by omega) | exact rfl | exact fun _ _ => rfl | exact fun h _ => absurd h (by omega) | exact fun _ h => absurd h (by omega))
  · refine ⟨fun h2 => ?_, fun h2 => ?_⟩
    · refine ⟨(by omega), ?_⟩
      exact hK _ (by first | omega | exact fun _ => rfl | exact fun h => absurd h (by omega) | exact rfl | exact fun _ _ => rfl | exact fun h _ => absurd h (by omega) | exact fun _ h => absurd h (by omega))
    · refine ⟨(by omega), ?_⟩
      exact hK _ (by first | omega | exact fun _ => rfl | exact fun h => absurd h (by omega) | exact rfl | exact fun _ _ => rfl | exact fun h _ => absurd h (by omega) | exact fun _ h => absurd h (by omega))
theorem yM_SAT {l : Launch} {Ts : List Cond} {cl : List vw_C} {RO : zRO} (H : zHyp Ts cl RO) : yMet l Ts cl zpZ RO zpMT yC_SAT := ymet_of2 H.1 H.2.1 zpDj H.2.2.1 yRb H.p11 ymets_nil (zrc2 rfl) (plainFor_of_name zpy11) zpDk130 (fun as g K Y h hA hY => by
  obtain ⟨w, e, rfl, hp0, hK⟩ := h
  exact yv_SAT hY (yAr1 hA (by simp)) hp0 hK)
def yP_SWA : yPT := fun as g K => ∃ (t e x : Int), as = [(3, 7), (1, t), (1, e), (1, x)] ∧ (0 ≤ g 1 1 ∧ g 1 1 ≤ 40) ∧ (∀ (r : Int), ((r = 1 ∧ yWt g t e x) ∨ (r = 0 ∧ ¬ yWt g t e x)) → K [(1, r)] g)
def yC_SWA : yC := (98, (2, 62), yP_SWA)
set_option maxRecDepth 8000 in
theorem yl_SWA {K : List yV → yM → Prop} {Y : yNx} {g : yM} {t e x : Int} (hY : yCl zpD98 (zpZ, zpRS, zpP8, zpMT, [yC_SAT], (2, 62), 2) K Y) (hq0 : 0 ≤ g 1 1 ∧ g 1 1 ≤ 40) (hK1 : yWt g t e x → K [(1, 1)] g) (hK0 : ¬ yWt g t e x → K [(1, 0)] g) : ∀ (n : Nat) (i : Int), i + n = g 1 1 → 0 ≤ i → ∀ (w5 : yV), (∀ j : Nat, (j : Int) < i → ¬ yWc g t e x j) → Y 3 [(3, 7), (1, t), (1, e), (1, x), (1, i), w5] [] g := by
  intro n
  induction n with
  | zero =>
    intro i hd h0 w5 hu
    refine yrun_ok (sp := fun pc => Nat.beq pc 3) hY 36 3 _ [] g ?_
    show (((g 1 1) ≤ i → (((0 : Int) ≤ 0 ∧ 0 ≤ (1 : Int)) ∧ (K [(1, 0)] g))) ∧ (¬ ((g 1 1) ≤ i) → (((0 : Int) ≤ i ∧ i < ((40 : Nat) : Int)) ∧ (((g (50 + Int.toNat i) 0) ≠ t → (Y 3 [(3, 7), (1, t), (1, e), (1, x), (1, (yw (i + 1))), (141, i)] [] g)) ∧ (¬ ((g (50 + Int.toNat i) 0) ≠ t) → ((x < (yw ((g (50 + Int.toNat i) 1) + (g 1 9))) → (Y 3 [(3, 7), (1, t), (1, e), (1, x), (1, (yw (i + 1))), (141, i)] [] g)) ∧ (¬ (x < (yw ((g (50 + Int.toNat i) 1) + (g 1 9)))) → (((g (50 + Int.toNat i) 10) ≤ x → (Y 3 [(3, 7), (1, t), (1, e), (1, x), (1, (yw (i + 1))), (141, i)] [] g)) ∧ (¬ ((g (50 + Int.toNat i) 10) ≤ x) → (∃ (w5 e6 : Int), [(3, 1), (141, i), (1, e)] = [(3, 1), (141, w5), (1, e6)] ∧ (0 ≤ w5 ∧ w5 < 40) ∧ (∀ (r7 : Int), ((r7 = 1 ∧ (g 1 10 = 0 ∨ g (50 + Int.toNat w5) 7 = e6)) ∨ (r7 = 0 ∧ ¬ (g 1 10 = 0 ∨ g (50 + Int.toNat w5) 7 = e6))) → ((r7 = 0 → (Y 3 [(3, 7), (1, t), (1, e), (1, x), (1, (yw (i + 1))), (141, i)] [] g)) ∧ (¬ (r7 = 0) → (((0 : Int) ≤ 1 ∧ 1 ≤ (1 : Int)) ∧ (K [(1, 1)] g)))))))))))))))
    refine ⟨fun h1 => ?_, fun h1 => ?_⟩
    · refine ⟨(by omega), ?_⟩
      obtain rfl : i = g 1 1 := by omega
      exact hK0 (fun ⟨j, j1, j2⟩ => hu j j1 j2)
    · refine ⟨(by omega), ?_⟩
      refine ⟨fun h2 => ?_, fun h2 => ?_⟩
      · omega
      · refine ⟨fun h3 => ?_, fun h3 => ?_⟩
        · omega
        · refine ⟨fun h4 => ?_, fun h4 => ?_⟩
          · omega
          · refine ⟨_, _, rfl, (by omega), ?_⟩
            intro r7 p80
            refine ⟨fun h9 => ?_, fun h9 => ?_⟩
            · omega
            · refine ⟨(by omega), ?_⟩
              omega
  | succ n ih =>
    intro i hd h0 w5 hu
    refine yrun_ok (sp := fun pc => Nat.beq pc 3) hY 36 3 _ [] g ?_
    show (((g 1 1) ≤ i → (((0 : Int) ≤ 0 ∧ 0 ≤ (1 : Int)) ∧ (K [(1, 0)] g))) ∧ (¬ ((g 1 1) ≤ i) → (((0 : Int) ≤ i ∧ i < ((40 : Nat) : Int)) ∧ (((g (50 + Int.toNat i) 0) ≠ t → (Y 3 [(3, 7), (1, t), (1, e), (1, x), (1, (yw (i + 1))), (141, i)] [] g)) ∧ (¬ ((g (50 + Int.toNat i) 0) ≠ t) → ((x < (yw ((g (50 + Int.toNat i) 1) + (g 1 9))) → (Y 3 [(3, 7), (1, t), (1, e), (1, x), (1, (yw (i + 1))), (141, i)] [] g)) ∧ (¬ (x < (yw ((g (50 + Int.toNat i) 1) + (g 1 9)))) → (((g (50 + Int.toNat i) 10) ≤ x → (Y 3 [(3, 7), (1, t), (1, e), (1, x), (1, (yw (i + 1))), (141, i)] [] g)) ∧ (¬ ((g (50 + Int.toNat i) 10) ≤ x) → (∃ (w5 e6 : Int), [(3, 1), (141, i), (1, e)] = [(3, 1), (141, w5), (1, e6)] ∧ (0 ≤ w5 ∧ w5 < 40) ∧ (∀ (r7 : Int), ((r7 = 1 ∧ (g 1 10 = 0 ∨ g (50 + Int.toNat w5) 7 = e6)) ∨ (r7 = 0 ∧ ¬ (g 1 10 = 0 ∨ g (50 + Int.toNat w5) 7 = e6))) → ((r7 = 0 → (Y 3 [(3, 7), (1, t), (1, e), (1, x), (1, (yw (i + 1))), (141, i)] [] g)) ∧ (¬ (r7 = 0) → (((0 : Int) ≤ 1 ∧ 1 ≤ (1 : Int)) ∧ (K [(1, 1)] g)))))))))))))))
    refine ⟨fun h1 => ?_, fun h1 => ?_⟩
    · refine ⟨(by omega), ?_⟩
      omega
    · refine ⟨(by omega), ?_⟩
      refine ⟨fun h2 => ?_, fun h2 => ?_⟩
      · have yi : yw (i + 1) = i + 1 := yw_s (i + 1) (by omega) (by omega)
        rw [yi]
        refine ih (i + 1) (by omega) (by omega) (141, i) (fun j hj => ?_)
        by_cases hji : (j : Int) < i
        · exact hu j hji
        · obtain rfl : j = Int.toNat i := by omega
          unfold yWc
          omega
      · refine ⟨fun h3 => ?_, fun h3 => ?_⟩
        · have yi : yw (i + 1) = i + 1 := yw_s (i + 1) (by omega) (by omega)
          rw [yi]
          refine ih (i + 1) (by omega) (by omega) (141, i) (fun j hj => ?_)
          by_cases hji : (j : Int) < i
          · exact hu j hji
          · obtain rfl : j = Int.toNat i := by omega
            unfold yWc
            omega
        · refine ⟨fun h4 => ?_, fun h4 => ?_⟩
          · have yi : yw (i + 1) = i + 1 := yw_s (i + 1) (by omega) (by omega)
            rw [yi]
            refine ih (i + 1) (by omega) (by omega) (141, i) (fun j hj => ?_)
            by_cases hji : (j : Int) < i
            · exact hu j hji
            · obtain rfl : j = Int.toNat i := by omega
              unfold yWc
              omega
          · refine ⟨_, _, rfl, (by omega), ?_⟩
            intro r7 p80
            refine ⟨fun h9 => ?_, fun h9 => ?_⟩
            · have yi : yw (i + 1) = i + 1 := yw_s (i + 1) (by omega) (by omega)
              rw [yi]
              refine ih (i + 1) (by omega) (by omega) (141, i) (fun j hj => ?_)
              by_cases hji : (j : Int) < i
              · exact hu j hji
              · obtain rfl : j = Int.toNat i := by omega
                unfold yWc
                omega
            · refine ⟨(by omega), ?_⟩
              exact hK1 ⟨Int.toNat i, by omega, by unfold yWc; omega⟩
set_option maxRecDepth 8000 in
theorem yv_SWA {K : List yV → yM → Prop} {Y : yNx} {g : yM} {t e x : Int} (hY : yCl zpD98 (zpZ, zpRS, zpP8, zpMT, [yC_SAT], (2, 62), 2) K Y) (hr_t : -2147483648 ≤ t ∧ t ≤ 2147483647) (hr_e : -2147483648 ≤ e ∧ e ≤ 2147483647) (hr_x : -2147483648 ≤ x ∧ x ≤ 2147483647) (hp0 : 0 ≤ g 1 1 ∧ g 1 1 ≤ 40) (hK : ∀ (r : Int), ((r = 1 ∧ yWt g t e x) ∨ (r = 0 ∧ ¬ yWt g t e x)) → K [(1, r)] g) : Y 0 [(3, 7), (1, t), (1, e), (1, x), (0, 0), (0, 0)] [] g := by
  refine yrun_ok (sp := fun pc => Nat.beq pc 3) hY 3 0 _ [] g ?_
  show (Y 3 [(3, 7), (1, t), (1, e), (1, x), (1, 0), (0, 0)] [] g)
  exact yl_SWA hY hp0 (fun h => hK 1 (Or.inl ⟨rfl, h⟩)) (fun h => hK 0 (Or.inr ⟨rfl, h⟩)) (Int.toNat (g 1 1)) 0 (by omega) (by decide) _ (fun j hj => absurd hj (by omega))
theorem yM_SWA {l : Launch} {Ts : List Cond} {cl : List vw_C} {RO : zRO} (H : zHyp Ts cl RO) : yMet l Ts cl zpZ RO zpMT yC_SWA := ymet_of2 H.1 H.2.1 zpDj H.2.2.1 yRb H.p8 (ymets_cons (yM_SAT H) ymets_nil) (zrc2 rfl) (plainFor_of_name zpy8) zpDk98 (fun as g K Y h hA hY => by
  obtain ⟨t, e, x, rfl, hp0, hK⟩ := h
  exact yv_SWA hY (yAr1 hA (by simp)) (yAr1 hA (by simp)) (yAr1 hA (by simp)) hp0 hK)
def yP_LAH : yPT := fun as g K => ∃ (w : Int), as = [(3, 7), (141, w)] ∧ (0 ≤ w ∧ w < 40) ∧ (yTy zpZ g) ∧ (0 ≤ g (50 + Int.toNat w) 9 ∧ g (50 + Int.toNat w) 9 < 40) ∧ (0 ≤ g 1 7 ∧ g 1 7 ≤ 12) ∧ (0 ≤ g 1 1 ∧ g 1 1 ≤ 40) ∧ (0 ≤ g (50 + Int.toNat (g (50 + Int.toNat w) 9)) 2 ∧ g (50 + Int.toNat (g (50 + Int.toNat w) 9)) 2 ≤ 719) ∧ (g 7 6 = -2 ∨ 0 ≤ g 7 6) ∧ (∀ (g' : yM), (yTy zpZ g') → (yIf g g') → (yIt (yIc g (g (50 + Int.toNat w) 0) (g (50 + Int.toNat w) 3)) (g (50 + Int.toNat (g (50 + Int.toNat w) 9)) 2) (g 7 5) (g 7 6) (Int.toNat (g (50 + Int.toNat w) 11 - g (50 + Int.toNat (g (50 + Int.toNat w) 9)) 2)) (g' 7 5) (g' 7 6)) → K [] g')
def yC_LAH : yC := (95, (3, 87), yP_LAH)
set_option maxRecDepth 8000 in
theorem yl_LAH {K : List yV → yM → Prop} {Y : yNx} {g : yM} {w e : Int} (hY : yCl zpD95 (zpZ, zpRS, zpP8, zpMT, [yC_ISA, yC_SWA], (3, 87), 0) K Y) (hw : 0 ≤ w ∧ w < 40) (hL : g (50 + Int.toNat w) 11 ≤ 2147483647) (h7 : 0 ≤ g 1 7 ∧ g 1 7 ≤ 12) (hs : 0 ≤ g 1 1 ∧ g 1 1 ≤ 40) (he : 0 ≤ e ∧ e ≤ 719) (hK : ∀ g' : yM, yTy zpZ g' → yIf g g' → yIt (yIc g (g (50 + Int.toNat w) 0) (g (50 + Int.toNat w) 3)) e (g 7 5) (g 7 6) (Int.toNat (g (50 + Int.toNat w) 11 - e)) (g' 7 5) (g' 7 6) → K [] g') : ∀ (n k : Nat), k + n = (Int.toNat (g (50 + Int.toNat w) 11 - e)) → ∀ m : yM, yTy zpZ m → yIf g m → yIt (yIc g (g (50 + Int.toNat w) 0) (g (50 + Int.toNat w) 3)) e (g 7 5) (g 7 6) k (m 7 5) (m 7 6) → (m 7 6 = -2 ∨ 0 ≤ m 7 6) → Y 16 [(3, 7), (141, w), (1, (e + (k : Int)))] [] m := by
  intro n
  induction n with
  | zero =>
    intro k hd m hT hF hI hf
    refine yrun_ok (sp := fun pc => Nat.beq pc 16) hY 39 16 _ [] m ?_
    show (((m (50 + Int.toNat w) 11) ≤ (e + (k : Int)) → (K [] m)) ∧ (¬ ((m (50 + Int.toNat w) 11) ≤ (e + (k : Int))) → (∃ (d2 t3 : Int), [(3, 1), (1, (m (50 + Int.toNat w) 3)), (1, (e + (k : Int)))] = [(3, 1), (1, d2), (1, t3)] ∧ (0 ≤ m 1 7 ∧ m 1 7 ≤ 12) ∧ (∀ (r4 : Int), (r4 = yaC m d2 t3 (Int.toNat (m 1 7))) → ((r4 ≠ 0 → (Y 16 [(3, 7), (141, w), (1, (yw ((e + (k : Int)) + 1)))] [] m)) ∧ (¬ (r4 ≠ 0) → (∃ (t7 e8 x9 : Int), [(3, 7), (1, (m (50 + Int.toNat w) 0)), (1, (m (50 + Int.toNat w) 3)), (1, (e + (k : Int)))] = [(3, 7), (1, t7), (1, e8), (1, x9)] ∧ (0 ≤ m 1 1 ∧ m 1 1 ≤ 40) ∧ (∀ (r10 : Int), ((r10 = 1 ∧ yWt m t7 e8 x9) ∨ (r10 = 0 ∧ ¬ yWt m t7 e8 x9)) → ((r10 = 0 → (Y 16 [(3, 7), (141, w), (1, (yw ((e + (k : Int)) + 1)))] [] m)) ∧ (¬ (r10 = 0) → (((m 7 6) = (-2) → (Y 16 [(3, 7), (141, w), (1, (yw ((e + (k : Int)) + 1)))] [] (yset (yset m 7 5 (yw ((m 7 5) + 1))) 7 6 (e + (k : Int))))) ∧ (¬ ((m 7 6) = (-2)) → (((m 7 6) ≤ (e + (k : Int)) → (Y 16 [(3, 7), (141, w), (1, (yw ((e + (k : Int)) + 1)))] [] (yset m 7 5 (yw ((m 7 5) + 1))))) ∧ (¬ ((m 7 6) ≤ (e + (k : Int))) → (Y 16 [(3, 7), (141, w), (1, (yw ((e + (k : Int)) + 1)))] [] (yset (yset m 7 5 (yw ((m 7 5) + 1))) 7 6 (e + (k : Int))))))))))))))))))
    refine ⟨fun h1 => ?_, fun h1 => ?_⟩
    · have e11 : m (50 + Int.toNat w) 11 = g (50 + Int.toNat w) 11 := hF _ _ (by omega)
      have e0 : m (50 + Int.toNat w) 0 = g (50 + Int.toNat w) 0 := hF _ _ (by omega)
      have e3 : m (50 + Int.toNat w) 3 = g (50 + Int.toNat w) 3 := hF _ _ (by omega)
      have e7 : m 1 7 = g 1 7 := hF _ _ (by omega)
      have e1 : m 1 1 = g 1 1 := hF _ _ (by omega)
      obtain rfl : k = (Int.toNat (g (50 + Int.toNat w) 11 - e)) := by omega
      exact hK _ hT hF hI
    · refine ⟨_, _, rfl, (by have e11 : m (50 + Int.toNat w) 11 = g (50 + Int.toNat w) 11 := hF _ _ (by omega); have e0 : m (50 + Int.toNat w) 0 = g (50 + Int.toNat w) 0 := hF _ _ (by omega); have e3 : m (50 + Int.toNat w) 3 = g (50 + Int.toNat w) 3 := hF _ _ (by omega); have e7 : m 1 7 = g 1 7 := hF _ _ (by omega); have e1 : m 1 1 = g 1 1 := hF _ _ (by omega); omega), ?_⟩
      intro r4 p50
      refine ⟨fun h6 => ?_, fun h6 => ?_⟩
      · have e11 : m (50 + Int.toNat w) 11 = g (50 + Int.toNat w) 11 := hF _ _ (by omega)
        have e0 : m (50 + Int.toNat w) 0 = g (50 + Int.toNat w) 0 := hF _ _ (by omega)
        have e3 : m (50 + Int.toNat w) 3 = g (50 + Int.toNat w) 3 := hF _ _ (by omega)
        have e7 : m 1 7 = g 1 7 := hF _ _ (by omega)
        have e1 : m 1 1 = g 1 1 := hF _ _ (by omega)
        omega
      · refine ⟨_, _, _, rfl, (by have e11 : m (50 + Int.toNat w) 11 = g (50 + Int.toNat w) 11 := hF _ _ (by omega); have e0 : m (50 + Int.toNat w) 0 = g (50 + Int.toNat w) 0 := hF _ _ (by omega); have e3 : m (50 + Int.toNat w) 3 = g (50 + Int.toNat w) 3 := hF _ _ (by omega); have e7 : m 1 7 = g 1 7 := hF _ _ (by omega); have e1 : m 1 1 = g 1 1 := hF _ _ (by omega); omega), ?_⟩
        intro r10 p110
        refine ⟨fun h12 => ?_, fun h12 => ?_⟩
        · have e11 : m (50 + Int.toNat w) 11 = g (50 + Int.toNat w) 11 := hF _ _ (by omega)
          have e0 : m (50 + Int.toNat w) 0 = g (50 + Int.toNat w) 0 := hF _ _ (by omega)
          have e3 : m (50 + Int.toNat w) 3 = g (50 + Int.toNat w) 3 := hF _ _ (by omega)
          have e7 : m 1 7 = g 1 7 := hF _ _ (by omega)
          have e1 : m 1 1 = g 1 1 := hF _ _ (by omega)
          omega
        · refine ⟨fun h13 => ?_, fun h13 => ?_⟩
          · have e11 : m (50 + Int.toNat w) 11 = g (50 + Int.toNat w) 11 := hF _ _ (by omega)
            have e0 : m (50 + Int.toNat w) 0 = g (50 + Int.toNat w) 0 := hF _ _ (by omega)
            have e3 : m (50 + Int.toNat w) 3 = g (50 + Int.toNat w) 3 := hF _ _ (by omega)
            have e7 : m 1 7 = g 1 7 := hF _ _ (by omega)
            have e1 : m 1 1 = g 1 1 := hF _ _ (by omega)
            omega
          · refine ⟨fun h14 => ?_, fun h14 => ?_⟩
            · have e11 : m (50 + Int.toNat w) 11 = g (50 + Int.toNat w) 11 := hF _ _ (by omega)
              have e0 : m (50 + Int.toNat w) 0 = g (50 + Int.toNat w) 0 := hF _ _ (by omega)
              have e3 : m (50 + Int.toNat w) 3 = g (50 + Int.toNat w) 3 := hF _ _ (by omega)
              have e7 : m 1 7 = g 1 7 := hF _ _ (by omega)
              have e1 : m 1 1 = g 1 1 := hF _ _ (by omega)
              omega
            · have e11 : m (50 + Int.toNat w) 11 = g (50 + Int.toNat w) 11 := hF _ _ (by omega)
              have e0 : m (50 + Int.toNat w) 0 = g (50 + Int.toNat w) 0 := hF _ _ (by omega)
              have e3 : m (50 + Int.toNat w) 3 = g (50 + Int.toNat w) 3 := hF _ _ (by omega)
              have e7 : m 1 7 = g 1 7 := hF _ _ (by omega)
              have e1 : m 1 1 = g 1 1 := hF _ _ (by omega)
              omega
  | succ n ih =>
    intro k hd m hT hF hI hf
    refine yrun_ok (sp := fun pc => Nat.beq pc 16) hY 39 16 _ [] m ?_
    show (((m (50 + Int.toNat w) 11) ≤ (e + (k : Int)) → (K [] m)) ∧ (¬ ((m (50 + Int.toNat w) 11) ≤ (e + (k : Int))) → (∃ (d2 t3 : Int), [(3, 1), (1, (m (50 + Int.toNat w) 3)), (1, (e + (k : Int)))] = [(3, 1), (1, d2), (1, t3)] ∧ (0 ≤ m 1 7 ∧ m 1 7 ≤ 12) ∧ (∀ (r4 : Int), (r4 = yaC m d2 t3 (Int.toNat (m 1 7))) → ((r4 ≠ 0 → (Y 16 [(3, 7), (141, w), (1, (yw ((e + (k : Int)) + 1)))] [] m)) ∧ (¬ (r4 ≠ 0) → (∃ (t7 e8 x9 : Int), [(3, 7), (1, (m (50 + Int.toNat w) 0)), (1, (m (50 + Int.toNat w) 3)), (1, (e + (k : Int)))] = [(3, 7), (1, t7), (1, e8), (1, x9)] ∧ (0 ≤ m 1 1 ∧ m 1 1 ≤ 40) ∧ (∀ (r10 : Int), ((r10 = 1 ∧ yWt m t7 e8 x9) ∨ (r10 = 0 ∧ ¬ yWt m t7 e8 x9)) → ((r10 = 0 → (Y 16 [(3, 7), (141, w), (1, (yw ((e + (k : Int)) + 1)))] [] m)) ∧ (¬ (r10 = 0) → (((m 7 6) = (-2) → (Y 16 [(3, 7), (141, w), (1, (yw ((e + (k : Int)) + 1)))] [] (yset (yset m 7 5 (yw ((m 7 5) + 1))) 7 6 (e + (k : Int))))) ∧ (¬ ((m 7 6) = (-2)) → (((m 7 6) ≤ (e + (k : Int)) → (Y 16 [(3, 7), (141, w), (1, (yw ((e + (k : Int)) + 1)))] [] (yset m 7 5 (yw ((m 7 5) + 1))))) ∧ (¬ ((m 7 6) ≤ (e + (k : Int))) → (Y 16 [(3, 7), (141, w), (1, (yw ((e + (k : Int)) + 1)))] [] (yset (yset m 7 5 (yw ((m 7 5) + 1))) 7 6 (e + (k : Int))))))))))))))))))
    refine ⟨fun h1 => ?_, fun h1 => ?_⟩
    · have e11 : m (50 + Int.toNat w) 11 = g (50 + Int.toNat w) 11 := hF _ _ (by omega)
      have e0 : m (50 + Int.toNat w) 0 = g (50 + Int.toNat w) 0 := hF _ _ (by omega)
      have e3 : m (50 + Int.toNat w) 3 = g (50 + Int.toNat w) 3 := hF _ _ (by omega)
      have e7 : m 1 7 = g 1 7 := hF _ _ (by omega)
      have e1 : m 1 1 = g 1 1 := hF _ _ (by omega)
      omega
    · refine ⟨_, _, rfl, (by have e11 : m (50 + Int.toNat w) 11 = g (50 + Int.toNat w) 11 := hF _ _ (by omega); have e0 : m (50 + Int.toNat w) 0 = g (50 + Int.toNat w) 0 := hF _ _ (by omega); have e3 : m (50 + Int.toNat w) 3 = g (50 + Int.toNat w) 3 := hF _ _ (by omega); have e7 : m 1 7 = g 1 7 := hF _ _ (by omega); have e1 : m 1 1 = g 1 1 := hF _ _ (by omega); omega), ?_⟩
      intro r4 p50
      refine ⟨fun h6 => ?_, fun h6 => ?_⟩
      · have e11 : m (50 + Int.toNat w) 11 = g (50 + Int.toNat w) 11 := hF _ _ (by omega)
        have e0 : m (50 + Int.toNat w) 0 = g (50 + Int.toNat w) 0 := hF _ _ (by omega)
        have e3 : m (50 + Int.toNat w) 3 = g (50 + Int.toNat w) 3 := hF _ _ (by omega)
        have e7 : m 1 7 = g 1 7 := hF _ _ (by omega)
        have e1 : m 1 1 = g 1 1 := hF _ _ (by omega)
        rw [yaC_fi hF, e3, e7] at p50
        have yk : yw (e + (k : Int) + 1) = e + ((k + 1 : Nat) : Int) := by
          rw [yw_s (e + (k : Int) + 1) (by omega) (by omega)]
          omega
        rw [yk]
        have hb := @yaC_b g (g (50 + Int.toNat w) 3) (e + (k : Int)) (Int.toNat (g 1 7))
        have hP : ¬ (yIc g (g (50 + Int.toNat w) 0) (g (50 + Int.toNat w) 3)) (e + (k : Int)) := fun z => by
          have z1 := z.1
          omega
        exact ih (k + 1) (by omega) m hT hF ⟨_, _, hI, Or.inr ⟨hP, rfl, rfl⟩⟩ hf
      · refine ⟨_, _, _, rfl, (by have e11 : m (50 + Int.toNat w) 11 = g (50 + Int.toNat w) 11 := hF _ _ (by omega); have e0 : m (50 + Int.toNat w) 0 = g (50 + Int.toNat w) 0 := hF _ _ (by omega); have e3 : m (50 + Int.toNat w) 3 = g (50 + Int.toNat w) 3 := hF _ _ (by omega); have e7 : m 1 7 = g 1 7 := hF _ _ (by omega); have e1 : m 1 1 = g 1 1 := hF _ _ (by omega); omega), ?_⟩
        intro r10 p110
        refine ⟨fun h12 => ?_, fun h12 => ?_⟩
        · have e11 : m (50 + Int.toNat w) 11 = g (50 + Int.toNat w) 11 := hF _ _ (by omega)
          have e0 : m (50 + Int.toNat w) 0 = g (50 + Int.toNat w) 0 := hF _ _ (by omega)
          have e3 : m (50 + Int.toNat w) 3 = g (50 + Int.toNat w) 3 := hF _ _ (by omega)
          have e7 : m 1 7 = g 1 7 := hF _ _ (by omega)
          have e1 : m 1 1 = g 1 1 := hF _ _ (by omega)
          rw [yaC_fi hF, e3, e7] at p50
          rw [yWt_fi hF, e0, e3] at p110
          have yk : yw (e + (k : Int) + 1) = e + ((k + 1 : Nat) : Int) := by
            rw [yw_s (e + (k : Int) + 1) (by omega) (by omega)]
            omega
          rw [yk]
          have hb := @yaC_b g (g (50 + Int.toNat w) 3) (e + (k : Int)) (Int.toNat (g 1 7))
          have hP : ¬ (yIc g (g (50 + Int.toNat w) 0) (g (50 + Int.toNat w) 3)) (e + (k : Int)) := fun z => by
            rcases p110 with ⟨q1, q2⟩ | ⟨q1, q2⟩
            · omega
            · exact q2 z.2
          exact ih (k + 1) (by omega) m hT hF ⟨_, _, hI, Or.inr ⟨hP, rfl, rfl⟩⟩ hf
        · refine ⟨fun h13 => ?_, fun h13 => ?_⟩
          · have e11 : m (50 + Int.toNat w) 11 = g (50 + Int.toNat w) 11 := hF _ _ (by omega)
            have e0 : m (50 + Int.toNat w) 0 = g (50 + Int.toNat w) 0 := hF _ _ (by omega)
            have e3 : m (50 + Int.toNat w) 3 = g (50 + Int.toNat w) 3 := hF _ _ (by omega)
            have e7 : m 1 7 = g 1 7 := hF _ _ (by omega)
            have e1 : m 1 1 = g 1 1 := hF _ _ (by omega)
            rw [yaC_fi hF, e3, e7] at p50
            rw [yWt_fi hF, e0, e3] at p110
            have yk : yw (e + (k : Int) + 1) = e + ((k + 1 : Nat) : Int) := by
              rw [yw_s (e + (k : Int) + 1) (by omega) (by omega)]
              omega
            rw [yk]
            have hb := @yaC_b g (g (50 + Int.toNat w) 3) (e + (k : Int)) (Int.toNat (g 1 7))
            have hP : (yIc g (g (50 + Int.toNat w) 0) (g (50 + Int.toNat w) 3)) (e + (k : Int)) := by
              rcases p110 with ⟨q1, q2⟩ | ⟨q1, q2⟩
              · exact ⟨by omega, q2⟩
              · omega
            refine ih (k + 1) (by omega) _ ((hT.sO (List.mem_of_getElem? (i := 7) rfl) rfl (by decide +kernel) (yw_rng _)).sO (List.mem_of_getElem? (i := 7) rfl) rfl (by decide +kernel) ⟨by omega, by omega⟩) ((hF.s (Or.inl rfl)).s (Or.inr rfl)) ⟨_, _, hI, Or.inl ⟨hP, (yset_nj (by decide)).trans yset_eq, ?_⟩⟩ ?_
            · rw [yset_eq, yFm_1 (by omega)]
            · rw [yset_eq]
              omega
          · refine ⟨fun h14 => ?_, fun h14 => ?_⟩
            · have e11 : m (50 + Int.toNat w) 11 = g (50 + Int.toNat w) 11 := hF _ _ (by omega)
              have e0 : m (50 + Int.toNat w) 0 = g (50 + Int.toNat w) 0 := hF _ _ (by omega)
              have e3 : m (50 + Int.toNat w) 3 = g (50 + Int.toNat w) 3 := hF _ _ (by omega)
              have e7 : m 1 7 = g 1 7 := hF _ _ (by omega)
              have e1 : m 1 1 = g 1 1 := hF _ _ (by omega)
              rw [yaC_fi hF, e3, e7] at p50
              rw [yWt_fi hF, e0, e3] at p110
              have yk : yw (e + (k : Int) + 1) = e + ((k + 1 : Nat) : Int) := by
                rw [yw_s (e + (k : Int) + 1) (by omega) (by omega)]
                omega
              rw [yk]
              have hb := @yaC_b g (g (50 + Int.toNat w) 3) (e + (k : Int)) (Int.toNat (g 1 7))
              have hP : (yIc g (g (50 + Int.toNat w) 0) (g (50 + Int.toNat w) 3)) (e + (k : Int)) := by
                rcases p110 with ⟨q1, q2⟩ | ⟨q1, q2⟩
                · exact ⟨by omega, q2⟩
                · omega
              refine ih (k + 1) (by omega) _ (hT.sO (List.mem_of_getElem? (i := 7) rfl) rfl (by decide +kernel) (yw_rng _)) (hF.s (Or.inl rfl)) ⟨_, _, hI, Or.inl ⟨hP, yset_eq, ?_⟩⟩ ?_
              · rw [yset_nj (by decide), yFm_0 (by omega)]
              · rw [yset_nj (by decide)]
                exact hf
            · have e11 : m (50 + Int.toNat w) 11 = g (50 + Int.toNat w) 11 := hF _ _ (by omega)
              have e0 : m (50 + Int.toNat w) 0 = g (50 + Int.toNat w) 0 := hF _ _ (by omega)
              have e3 : m (50 + Int.toNat w) 3 = g (50 + Int.toNat w) 3 := hF _ _ (by omega)
              have e7 : m 1 7 = g 1 7 := hF _ _ (by omega)
              have e1 : m 1 1 = g 1 1 := hF _ _ (by omega)
              rw [yaC_fi hF, e3, e7] at p50
              rw [yWt_fi hF, e0, e3] at p110
              have yk : yw (e + (k : Int) + 1) = e + ((k + 1 : Nat) : Int) := by
                rw [yw_s (e + (k : Int) + 1) (by omega) (by omega)]
                omega
              rw [yk]
              have hb := @yaC_b g (g (50 + Int.toNat w) 3) (e + (k : Int)) (Int.toNat (g 1 7))
              have hP : (yIc g (g (50 + Int.toNat w) 0) (g (50 + Int.toNat w) 3)) (e + (k : Int)) := by
                rcases p110 with ⟨q1, q2⟩ | ⟨q1, q2⟩
                · exact ⟨by omega, q2⟩
                · omega
              refine ih (k + 1) (by omega) _ ((hT.sO (List.mem_of_getElem? (i := 7) rfl) rfl (by decide +kernel) (yw_rng _)).sO (List.mem_of_getElem? (i := 7) rfl) rfl (by decide +kernel) ⟨by omega, by omega⟩) ((hF.s (Or.inl rfl)).s (Or.inr rfl)) ⟨_, _, hI, Or.inl ⟨hP, (yset_nj (by decide)).trans yset_eq, ?_⟩⟩ ?_
              · rw [yset_eq, yFm_1 (by omega)]
              · rw [yset_eq]
                omega
set_option maxRecDepth 8000 in
theorem yv_LAH {K : List yV → yM → Prop} {Y : yNx} {g : yM} {w : Int} (hY : yCl zpD95 (zpZ, zpRS, zpP8, zpMT, [yC_ISA, yC_SWA], (3, 87), 0) K Y) (hp0 : 0 ≤ w ∧ w < 40) (hp1 : yTy zpZ g) (hp2 : 0 ≤ g (50 + Int.toNat w) 9 ∧ g (50 + Int.toNat w) 9 < 40) (hp3 : 0 ≤ g 1 7 ∧ g 1 7 ≤ 12) (hp4 : 0 ≤ g 1 1 ∧ g 1 1 ≤ 40) (hp5 : 0 ≤ g (50 + Int.toNat (g (50 + Int.toNat w) 9)) 2 ∧ g (50 + Int.toNat (g (50 + Int.toNat w) 9)) 2 ≤ 719) (hp6 : g 7 6 = -2 ∨ 0 ≤ g 7 6) (hK : ∀ (g' : yM), (yTy zpZ g') → (yIf g g') → (yIt (yIc g (g (50 + Int.toNat w) 0) (g (50 + Int.toNat w) 3)) (g (50 + Int.toNat (g (50 + Int.toNat w) 9)) 2) (g 7 5) (g 7 6) (Int.toNat (g (50 + Int.toNat w) 11 - g (50 + Int.toNat (g (50 + Int.toNat w) 9)) 2)) (g' 7 5) (g' 7 6)) → K [] g') : Y 0 [(3, 7), (141, w), (0, 0)] [] g := by
  refine yrun_ok (sp := fun pc => Nat.beq pc 16) hY 9 0 _ [] g ?_
  show (((0 : Int) ≤ (g (50 + Int.toNat w) 9) ∧ (g (50 + Int.toNat w) 9) < ((40 : Nat) : Int)) ∧ (Y 16 [(3, 7), (141, w), (1, (g (50 + Int.toNat (g (50 + Int.toNat w) 9)) 2))] [] g))
  refine ⟨(by omega), ?_⟩
  have hL := (hp1.fR (j := 11) (q := (50 + Int.toNat w)) (List.mem_of_getElem? (i := 41) rfl) (by omega) (by omega) rfl).2
  have h8 := yl_LAH (e := g (50 + Int.toNat (g (50 + Int.toNat w) 9)) 2) hY hp0 hL hp3 hp4 hp5 (fun g' q1 q2 q3 => hK g' q1 q2 q3) _ 0 (Nat.zero_add _) g hp1 (fun _ _ _ => rfl) ⟨rfl, rfl⟩ hp6
  rw [show ((0 : Nat) : Int) = 0 from rfl, Int.add_zero] at h8
  exact h8
theorem yM_LAH {l : Launch} {Ts : List Cond} {cl : List vw_C} {RO : zRO} (H : zHyp Ts cl RO) : yMet l Ts cl zpZ RO zpMT yC_LAH := ymet_of2 H.1 H.2.1 zpDj H.2.2.1 yRb H.p8 (ymets_cons (yM_ISA H) (ymets_cons (yM_SWA H) ymets_nil)) (zrc0 rfl) (plainFor_of_name zpy8) zpDk95 (fun as g K Y h hA hY => by
  obtain ⟨w, rfl, hp0, hp1, hp2, hp3, hp4, hp5, hp6, hK⟩ := h
  exact yv_LAH hY  hp0 hp1 hp2 hp3 hp4 hp5 hp6 hK)
def yP_LFI : yPT := fun as g K => ∃ (t e : Int), as = [(3, 7), (1, t), (1, e)] ∧ (yTy zpZ g) ∧ (∀ n : Nat, (n : Int) < g 1 1 → 0 ≤ g (50 + n) 2 ∧ g (50 + n) 2 ≤ 719) ∧ (∀ (g' : yM), (yTy zpZ g') → (yIf g g') → (yIoc g t e (Int.toNat (g 1 1)) (g' 7 5) (g' 7 6)) → K [] g')
def yC_LFI : yC := (96, (4, 109), yP_LFI)
set_option maxRecDepth 8000 in
theorem yl_LFI {K : List yV → yM → Prop} {Y : yNx} {g : yM} {t e : Int} (hY : yCl zpD96 (zpZ, zpRS, zpP8, zpMT, [yC_HST, yC_HC, yC_LAH], (4, 109), 0) K Y) (hs : 0 ≤ g 1 1 ∧ g 1 1 ≤ 40) (h7 : 0 ≤ g 1 7 ∧ g 1 7 ≤ 12) (hC : ∀ n : Nat, (n : Int) < g 1 1 → 0 ≤ g (50 + n) 2 ∧ g (50 + n) 2 ≤ 719) (hK : ∀ g' : yM, yTy zpZ g' → yIf g g' → yIoc g t e (Int.toNat (g 1 1)) (g' 7 5) (g' 7 6) → K [] g') : ∀ (n : Nat) (i : Int), i + n = g 1 1 → 0 ≤ i → ∀ (m : yM) (w4 : yV), yTy zpZ m → yIf g m → yIoc g t e (Int.toNat i) (m 7 5) (m 7 6) → (m 7 6 = -2 ∨ 0 ≤ m 7 6) → Y 13 [(3, 7), (1, t), (1, e), (1, i), w4] [] m := by
  intro n
  induction n with
  | zero =>
    intro i hd h0 m w4 hT hF hI hf
    refine yrun_ok (sp := fun pc => Nat.beq pc 13) hY 34 13 _ [] m ?_
    show (((m 1 1) ≤ i → (K [] m)) ∧ (¬ ((m 1 1) ≤ i) → (((0 : Int) ≤ i ∧ i < ((40 : Nat) : Int)) ∧ (((m (50 + Int.toNat i) 0) ≠ t → (Y 13 [(3, 7), (1, t), (1, e), (1, (yw (i + 1))), (141, i)] [] m)) ∧ (¬ ((m (50 + Int.toNat i) 0) ≠ t) → (((m (50 + Int.toNat i) 3) ≠ e → (Y 13 [(3, 7), (1, t), (1, e), (1, (yw (i + 1))), (141, i)] [] m)) ∧ (¬ ((m (50 + Int.toNat i) 3) ≠ e) → (∃ (w4 : Int), [(141, i)] = [(141, w4)] ∧ (0 ≤ w4 ∧ w4 < 40) ∧ (∀ (r5 : Int), ((r5 = 1 ∧ m (50 + Int.toNat w4) 10 ≠ -2) ∨ (r5 = 0 ∧ m (50 + Int.toNat w4) 10 = -2)) → ((r5 = 0 → (Y 13 [(3, 7), (1, t), (1, e), (1, (yw (i + 1))), (141, i)] [] m)) ∧ (¬ (r5 = 0) → (∃ (w8 : Int), [(3, 1), (1, (m (50 + Int.toNat i) 9))] = [(3, 1), (1, w8)] ∧ (∀ (r9 : Int), ((r9 = 1 ∧ 0 ≤ w8 ∧ w8 < m 1 1) ∨ (r9 = 0 ∧ (w8 < 0 ∨ m 1 1 ≤ w8))) → ((r9 = 0 → (Y 13 [(3, 7), (1, t), (1, e), (1, (yw (i + 1))), (141, i)] [] m)) ∧ (¬ (r9 = 0) → (∃ (w12 : Int), [(3, 7), (141, i)] = [(3, 7), (141, w12)] ∧ (0 ≤ w12 ∧ w12 < 40) ∧ (yTy zpZ m) ∧ (0 ≤ m (50 + Int.toNat w12) 9 ∧ m (50 + Int.toNat w12) 9 < 40) ∧ (0 ≤ m 1 7 ∧ m 1 7 ≤ 12) ∧ (0 ≤ m 1 1 ∧ m 1 1 ≤ 40) ∧ (0 ≤ m (50 + Int.toNat (m (50 + Int.toNat w12) 9)) 2 ∧ m (50 + Int.toNat (m (50 + Int.toNat w12) 9)) 2 ≤ 719) ∧ (m 7 6 = -2 ∨ 0 ≤ m 7 6) ∧ (∀ (g13 : yM), (yTy zpZ g13) → (yIf m g13) → (yIt (yIc m (m (50 + Int.toNat w12) 0) (m (50 + Int.toNat w12) 3)) (m (50 + Int.toNat (m (50 + Int.toNat w12) 9)) 2) (m 7 5) (m 7 6) (Int.toNat (m (50 + Int.toNat w12) 11 - m (50 + Int.toNat (m (50 + Int.toNat w12) 9)) 2)) (g13 7 5) (g13 7 6)) → (Y 13 [(3, 7), (1, t), (1, e), (1, (yw (i + 1))), (141, i)] [] g13))))))))))))))))))
    refine ⟨fun h1 => ?_, fun h1 => ?_⟩
    · have e1 : m 1 1 = g 1 1 := hF _ _ (by omega)
      have e7 : m 1 7 = g 1 7 := hF _ _ (by omega)
      have f0 : m (50 + Int.toNat i) 0 = g (50 + Int.toNat i) 0 := hF _ _ (by omega)
      have f3 : m (50 + Int.toNat i) 3 = g (50 + Int.toNat i) 3 := hF _ _ (by omega)
      have f9 : m (50 + Int.toNat i) 9 = g (50 + Int.toNat i) 9 := hF _ _ (by omega)
      have f10 : m (50 + Int.toNat i) 10 = g (50 + Int.toNat i) 10 := hF _ _ (by omega)
      have f11 : m (50 + Int.toNat i) 11 = g (50 + Int.toNat i) 11 := hF _ _ (by omega)
      obtain rfl : i = g 1 1 := by omega
      exact hK _ hT hF hI
    · refine ⟨(by have e1 : m 1 1 = g 1 1 := hF _ _ (by omega); have e7 : m 1 7 = g 1 7 := hF _ _ (by omega); have f0 : m (50 + Int.toNat i) 0 = g (50 + Int.toNat i) 0 := hF _ _ (by omega); have f3 : m (50 + Int.toNat i) 3 = g (50 + Int.toNat i) 3 := hF _ _ (by omega); have f9 : m (50 + Int.toNat i) 9 = g (50 + Int.toNat i) 9 := hF _ _ (by omega); have f10 : m (50 + Int.toNat i) 10 = g (50 + Int.toNat i) 10 := hF _ _ (by omega); have f11 : m (50 + Int.toNat i) 11 = g (50 + Int.toNat i) 11 := hF _ _ (by omega); omega), ?_⟩
      refine ⟨fun h2 => ?_, fun h2 => ?_⟩
      · have e1 : m 1 1 = g 1 1 := hF _ _ (by omega)
        have e7 : m 1 7 = g 1 7 := hF _ _ (by omega)
        have f0 : m (50 + Int.toNat i) 0 = g (50 + Int.toNat i) 0 := hF _ _ (by omega)
        have f3 : m (50 + Int.toNat i) 3 = g (50 + Int.toNat i) 3 := hF _ _ (by omega)
        have f9 : m (50 + Int.toNat i) 9 = g (50 + Int.toNat i) 9 := hF _ _ (by omega)
        have f10 : m (50 + Int.toNat i) 10 = g (50 + Int.toNat i) 10 := hF _ _ (by omega)
        have f11 : m (50 + Int.toNat i) 11 = g (50 + Int.toNat i) 11 := hF _ _ (by omega)
        omega
      · refine ⟨fun h3 => ?_, fun h3 => ?_⟩
        · have e1 : m 1 1 = g 1 1 := hF _ _ (by omega)
          have e7 : m 1 7 = g 1 7 := hF _ _ (by omega)
          have f0 : m (50 + Int.toNat i) 0 = g (50 + Int.toNat i) 0 := hF _ _ (by omega)
          have f3 : m (50 + Int.toNat i) 3 = g (50 + Int.toNat i) 3 := hF _ _ (by omega)
          have f9 : m (50 + Int.toNat i) 9 = g (50 + Int.toNat i) 9 := hF _ _ (by omega)
          have f10 : m (50 + Int.toNat i) 10 = g (50 + Int.toNat i) 10 := hF _ _ (by omega)
          have f11 : m (50 + Int.toNat i) 11 = g (50 + Int.toNat i) 11 := hF _ _ (by omega)
          omega
        · refine ⟨_, rfl, (by have e1 : m 1 1 = g 1 1 := hF _ _ (by omega); have e7 : m 1 7 = g 1 7 := hF _ _ (by omega); have f0 : m (50 + Int.toNat i) 0 = g (50 + Int.toNat i) 0 := hF _ _ (by omega); have f3 : m (50 + Int.toNat i) 3 = g (50 + Int.toNat i) 3 := hF _ _ (by omega); have f9 : m (50 + Int.toNat i) 9 = g (50 + Int.toNat i) 9 := hF _ _ (by omega); have f10 : m (50 + Int.toNat i) 10 = g (50 + Int.toNat i) 10 := hF _ _ (by omega); have f11 : m (50 + Int.toNat i) 11 = g (50 + Int.toNat i) 11 := hF _ _ (by omega); omega), ?_⟩
          intro r5 p60
          refine ⟨fun h7 => ?_, fun h7 => ?_⟩
          · have e1 : m 1 1 = g 1 1 := hF _ _ (by omega)
            have e7 : m 1 7 = g 1 7 := hF _ _ (by omega)
            have f0 : m (50 + Int.toNat i) 0 = g (50 + Int.toNat i) 0 := hF _ _ (by omega)
            have f3 : m (50 + Int.toNat i) 3 = g (50 + Int.toNat i) 3 := hF _ _ (by omega)
            have f9 : m (50 + Int.toNat i) 9 = g (50 + Int.toNat i) 9 := hF _ _ (by omega)
            have f10 : m (50 + Int.toNat i) 10 = g (50 + Int.toNat i) 10 := hF _ _ (by omega)
            have f11 : m (50 + Int.toNat i) 11 = g (50 + Int.toNat i) 11 := hF _ _ (by omega)
            omega
          · refine ⟨_, rfl, ?_⟩
            intro r9 p100
            refine ⟨fun h11 => ?_, fun h11 => ?_⟩
            · have e1 : m 1 1 = g 1 1 := hF _ _ (by omega)
              have e7 : m 1 7 = g 1 7 := hF _ _ (by omega)
              have f0 : m (50 + Int.toNat i) 0 = g (50 + Int.toNat i) 0 := hF _ _ (by omega)
              have f3 : m (50 + Int.toNat i) 3 = g (50 + Int.toNat i) 3 := hF _ _ (by omega)
              have f9 : m (50 + Int.toNat i) 9 = g (50 + Int.toNat i) 9 := hF _ _ (by omega)
              have f10 : m (50 + Int.toNat i) 10 = g (50 + Int.toNat i) 10 := hF _ _ (by omega)
              have f11 : m (50 + Int.toNat i) 11 = g (50 + Int.toNat i) 11 := hF _ _ (by omega)
              omega
            · refine ⟨_, rfl, (by have e1 : m 1 1 = g 1 1 := hF _ _ (by omega); have e7 : m 1 7 = g 1 7 := hF _ _ (by omega); have f0 : m (50 + Int.toNat i) 0 = g (50 + Int.toNat i) 0 := hF _ _ (by omega); have f3 : m (50 + Int.toNat i) 3 = g (50 + Int.toNat i) 3 := hF _ _ (by omega); have f9 : m (50 + Int.toNat i) 9 = g (50 + Int.toNat i) 9 := hF _ _ (by omega); have f10 : m (50 + Int.toNat i) 10 = g (50 + Int.toNat i) 10 := hF _ _ (by omega); have f11 : m (50 + Int.toNat i) 11 = g (50 + Int.toNat i) 11 := hF _ _ (by omega); omega), (by have e1 : m 1 1 = g 1 1 := hF _ _ (by omega); have e7 : m 1 7 = g 1 7 := hF _ _ (by omega); have f0 : m (50 + Int.toNat i) 0 = g (50 + Int.toNat i) 0 := hF _ _ (by omega); have f3 : m (50 + Int.toNat i) 3 = g (50 + Int.toNat i) 3 := hF _ _ (by omega); have f9 : m (50 + Int.toNat i) 9 = g (50 + Int.toNat i) 9 := hF _ _ (by omega); have f10 : m (50 + Int.toNat i) 10 = g (50 + Int.toNat i) 10 := hF _ _ (by omega); have f11 : m (50 + Int.toNat i) 11 = g (50 + Int.toNat i) 11 := hF _ _ (by omega); omega), (by have e1 : m 1 1 = g 1 1 := hF _ _ (by omega); have e7 : m 1 7 = g 1 7 := hF _ _ (by omega); have f0 : m (50 + Int.toNat i) 0 = g (50 + Int.toNat i) 0 := hF _ _ (by omega); have f3 : m (50 + Int.toNat i) 3 = g (50 + Int.toNat i) 3 := hF _ _ (by omega); have f9 : m (50 + Int.toNat i) 9 = g (50 + Int.toNat i) 9 := hF _ _ (by omega); have f10 : m (50 + Int.toNat i) 10 = g (50 + Int.toNat i) 10 := hF _ _ (by omega); have f11 : m (50 + Int.toNat i) 11 = g (50 + Int.toNat i) 11 := hF _ _ (by omega); omega), (by have e1 : m 1 1 = g 1 1 := hF _ _ (by omega); have e7 : m 1 7 = g 1 7 := hF _ _ (by omega); have f0 : m (50 + Int.toNat i) 0 = g (50 + Int.toNat i) 0 := hF _ _ (by omega); have f3 : m (50 + Int.toNat i) 3 = g (50 + Int.toNat i) 3 := hF _ _ (by omega); have f9 : m (50 + Int.toNat i) 9 = g (50 + Int.toNat i) 9 := hF _ _ (by omega); have f10 : m (50 + Int.toNat i) 10 = g (50 + Int.toNat i) 10 := hF _ _ (by omega); have f11 : m (50 + Int.toNat i) 11 = g (50 + Int.toNat i) 11 := hF _ _ (by omega); omega), (by have e1 : m 1 1 = g 1 1 := hF _ _ (by omega); have e7 : m 1 7 = g 1 7 := hF _ _ (by omega); have f0 : m (50 + Int.toNat i) 0 = g (50 + Int.toNat i) 0 := hF _ _ (by omega); have f3 : m (50 + Int.toNat i) 3 = g (50 + Int.toNat i) 3 := hF _ _ (by omega); have f9 : m (50 + Int.toNat i) 9 = g (50 + Int.toNat i) 9 := hF _ _ (by omega); have f10 : m (50 + Int.toNat i) 10 = g (50 + Int.toNat i) 10 := hF _ _ (by omega); have f11 : m (50 + Int.toNat i) 11 = g (50 + Int.toNat i) 11 := hF _ _ (by omega); omega), (by have e1 : m 1 1 = g 1 1 := hF _ _ (by omega); have e7 : m 1 7 = g 1 7 := hF _ _ (by omega); have f0 : m (50 + Int.toNat i) 0 = g (50 + Int.toNat i) 0 := hF _ _ (by omega); have f3 : m (50 + Int.toNat i) 3 = g (50 + Int.toNat i) 3 := hF _ _ (by omega); have f9 : m (50 + Int.toNat i) 9 = g (50 + Int.toNat i) 9 := hF _ _ (by omega); have f10 : m (50 + Int.toNat i) 10 = g (50 + Int.toNat i) 10 := hF _ _ (by omega); have f11 : m (50 + Int.toNat i) 11 = g (50 + Int.toNat i) 11 := hF _ _ (by omega); omega), (by have e1 : m 1 1 = g 1 1 := hF _ _ (by omega); have e7 : m 1 7 = g 1 7 := hF _ _ (by omega); have f0 : m (50 + Int.toNat i) 0 = g (50 + Int.toNat i) 0 := hF _ _ (by omega); have f3 : m (50 + Int.toNat i) 3 = g (50 + Int.toNat i) 3 := hF _ _ (by omega); have f9 : m (50 + Int.toNat i) 9 = g (50 + Int.toNat i) 9 := hF _ _ (by omega); have f10 : m (50 + Int.toNat i) 10 = g (50 + Int.toNat i) 10 := hF _ _ (by omega); have f11 : m (50 + Int.toNat i) 11 = g (50 + Int.toNat i) 11 := hF _ _ (by omega); omega), ?_⟩
              intro g13 p140 p141 p142
              have e1 : m 1 1 = g 1 1 := hF _ _ (by omega)
              have e7 : m 1 7 = g 1 7 := hF _ _ (by omega)
              have f0 : m (50 + Int.toNat i) 0 = g (50 + Int.toNat i) 0 := hF _ _ (by omega)
              have f3 : m (50 + Int.toNat i) 3 = g (50 + Int.toNat i) 3 := hF _ _ (by omega)
              have f9 : m (50 + Int.toNat i) 9 = g (50 + Int.toNat i) 9 := hF _ _ (by omega)
              have f10 : m (50 + Int.toNat i) 10 = g (50 + Int.toNat i) 10 := hF _ _ (by omega)
              have f11 : m (50 + Int.toNat i) 11 = g (50 + Int.toNat i) 11 := hF _ _ (by omega)
              omega
  | succ n ih =>
    intro i hd h0 m w4 hT hF hI hf
    refine yrun_ok (sp := fun pc => Nat.beq pc 13) hY 34 13 _ [] m ?_
    show (((m 1 1) ≤ i → (K [] m)) ∧ (¬ ((m 1 1) ≤ i) → (((0 : Int) ≤ i ∧ i < ((40 : Nat) : Int)) ∧ (((m (50 + Int.toNat i) 0) ≠ t → (Y 13 [(3, 7), (1, t), (1, e), (1, (yw (i + 1))), (141, i)] [] m)) ∧ (¬ ((m (50 + Int.toNat i) 0) ≠ t) → (((m (50 + Int.toNat i) 3) ≠ e → (Y 13 [(3, 7), (1, t), (1, e), (1, (yw (i + 1))), (141, i)] [] m)) ∧ (¬ ((m (50 + Int.toNat i) 3) ≠ e) → (∃ (w4 : Int), [(141, i)] = [(141, w4)] ∧ (0 ≤ w4 ∧ w4 < 40) ∧ (∀ (r5 : Int), ((r5 = 1 ∧ m (50 + Int.toNat w4) 10 ≠ -2) ∨ (r5 = 0 ∧ m (50 + Int.toNat w4) 10 = -2)) → ((r5 = 0 → (Y 13 [(3, 7), (1, t), (1, e), (1, (yw (i + 1))), (141, i)] [] m)) ∧ (¬ (r5 = 0) → (∃ (w8 : Int), [(3, 1), (1, (m (50 + Int.toNat i) 9))] = [(3, 1), (1, w8)] ∧ (∀ (r9 : Int), ((r9 = 1 ∧ 0 ≤ w8 ∧ w8 < m 1 1) ∨ (r9 = 0 ∧ (w8 < 0 ∨ m 1 1 ≤ w8))) → ((r9 = 0 → (Y 13 [(3, 7), (1, t), (1, e), (1, (yw (i + 1))), (141, i)] [] m)) ∧ (¬ (r9 = 0) → (∃ (w12 : Int), [(3, 7), (141, i)] = [(3, 7), (141, w12)] ∧ (0 ≤ w12 ∧ w12 < 40) ∧ (yTy zpZ m) ∧ (0 ≤ m (50 + Int.toNat w12) 9 ∧ m (50 + Int.toNat w12) 9 < 40) ∧ (0 ≤ m 1 7 ∧ m 1 7 ≤ 12) ∧ (0 ≤ m 1 1 ∧ m 1 1 ≤ 40) ∧ (0 ≤ m (50 + Int.toNat (m (50 + Int.toNat w12) 9)) 2 ∧ m (50 + Int.toNat (m (50 + Int.toNat w12) 9)) 2 ≤ 719) ∧ (m 7 6 = -2 ∨ 0 ≤ m 7 6) ∧ (∀ (g13 : yM), (yTy zpZ g13) → (yIf m g13) → (yIt (yIc m (m (50 + Int.toNat w12) 0) (m (50 + Int.toNat w12) 3)) (m (50 + Int.toNat (m (50 + Int.toNat w12) 9)) 2) (m 7 5) (m 7 6) (Int.toNat (m (50 + Int.toNat w12) 11 - m (50 + Int.toNat (m (50 + Int.toNat w12) 9)) 2)) (g13 7 5) (g13 7 6)) → (Y 13 [(3, 7), (1, t), (1, e), (1, (yw (i + 1))), (141, i)] [] g13))))))))))))))))))
    refine ⟨fun h1 => ?_, fun h1 => ?_⟩
    · have e1 : m 1 1 = g 1 1 := hF _ _ (by omega)
      have e7 : m 1 7 = g 1 7 := hF _ _ (by omega)
      have f0 : m (50 + Int.toNat i) 0 = g (50 + Int.toNat i) 0 := hF _ _ (by omega)
      have f3 : m (50 + Int.toNat i) 3 = g (50 + Int.toNat i) 3 := hF _ _ (by omega)
      have f9 : m (50 + Int.toNat i) 9 = g (50 + Int.toNat i) 9 := hF _ _ (by omega)
      have f10 : m (50 + Int.toNat i) 10 = g (50 + Int.toNat i) 10 := hF _ _ (by omega)
      have f11 : m (50 + Int.toNat i) 11 = g (50 + Int.toNat i) 11 := hF _ _ (by omega)
      omega
    · refine ⟨(by have e1 : m 1 1 = g 1 1 := hF _ _ (by omega); have e7 : m 1 7 = g 1 7 := hF _ _ (by omega); have f0 : m (50 + Int.toNat i) 0 = g (50 + Int.toNat i) 0 := hF _ _ (by omega); have f3 : m (50 + Int.toNat i) 3 = g (50 + Int.toNat i) 3 := hF _ _ (by omega); have f9 : m (50 + Int.toNat i) 9 = g (50 + Int.toNat i) 9 := hF _ _ (by omega); have f10 : m (50 + Int.toNat i) 10 = g (50 + Int.toNat i) 10 := hF _ _ (by omega); have f11 : m (50 + Int.toNat i) 11 = g (50 + Int.toNat i) 11 := hF _ _ (by omega); omega), ?_⟩
      refine ⟨fun h2 => ?_, fun h2 => ?_⟩
      · have e1 : m 1 1 = g 1 1 := hF _ _ (by omega)
        have e7 : m 1 7 = g 1 7 := hF _ _ (by omega)
        have f0 : m (50 + Int.toNat i) 0 = g (50 + Int.toNat i) 0 := hF _ _ (by omega)
        have f3 : m (50 + Int.toNat i) 3 = g (50 + Int.toNat i) 3 := hF _ _ (by omega)
        have f9 : m (50 + Int.toNat i) 9 = g (50 + Int.toNat i) 9 := hF _ _ (by omega)
        have f10 : m (50 + Int.toNat i) 10 = g (50 + Int.toNat i) 10 := hF _ _ (by omega)
        have f11 : m (50 + Int.toNat i) 11 = g (50 + Int.toNat i) 11 := hF _ _ (by omega)
        have yi : yw (i + 1) = i + 1 := yw_s (i + 1) (by omega) (by omega)
        rw [yi]
        refine ih (i + 1) (by omega) (by omega) m (141, i) hT hF ?_ hf
        rw [show Int.toNat (i + 1) = Int.toNat i + 1 by omega]
        exact ⟨_, _, hI, Or.inr ⟨fun z => by unfold yQk at z; omega, rfl, rfl⟩⟩
      · refine ⟨fun h3 => ?_, fun h3 => ?_⟩
        · have e1 : m 1 1 = g 1 1 := hF _ _ (by omega)
          have e7 : m 1 7 = g 1 7 := hF _ _ (by omega)
          have f0 : m (50 + Int.toNat i) 0 = g (50 + Int.toNat i) 0 := hF _ _ (by omega)
          have f3 : m (50 + Int.toNat i) 3 = g (50 + Int.toNat i) 3 := hF _ _ (by omega)
          have f9 : m (50 + Int.toNat i) 9 = g (50 + Int.toNat i) 9 := hF _ _ (by omega)
          have f10 : m (50 + Int.toNat i) 10 = g (50 + Int.toNat i) 10 := hF _ _ (by omega)
          have f11 : m (50 + Int.toNat i) 11 = g (50 + Int.toNat i) 11 := hF _ _ (by omega)
          have yi : yw (i + 1) = i + 1 := yw_s (i + 1) (by omega) (by omega)
          rw [yi]
          refine ih (i + 1) (by omega) (by omega) m (141, i) hT hF ?_ hf
          rw [show Int.toNat (i + 1) = Int.toNat i + 1 by omega]
          exact ⟨_, _, hI, Or.inr ⟨fun z => by unfold yQk at z; omega, rfl, rfl⟩⟩
        · refine ⟨_, rfl, (by have e1 : m 1 1 = g 1 1 := hF _ _ (by omega); have e7 : m 1 7 = g 1 7 := hF _ _ (by omega); have f0 : m (50 + Int.toNat i) 0 = g (50 + Int.toNat i) 0 := hF _ _ (by omega); have f3 : m (50 + Int.toNat i) 3 = g (50 + Int.toNat i) 3 := hF _ _ (by omega); have f9 : m (50 + Int.toNat i) 9 = g (50 + Int.toNat i) 9 := hF _ _ (by omega); have f10 : m (50 + Int.toNat i) 10 = g (50 + Int.toNat i) 10 := hF _ _ (by omega); have f11 : m (50 + Int.toNat i) 11 = g (50 + Int.toNat i) 11 := hF _ _ (by omega); omega), ?_⟩
          intro r5 p60
          refine ⟨fun h7 => ?_, fun h7 => ?_⟩
          · have e1 : m 1 1 = g 1 1 := hF _ _ (by omega)
            have e7 : m 1 7 = g 1 7 := hF _ _ (by omega)
            have f0 : m (50 + Int.toNat i) 0 = g (50 + Int.toNat i) 0 := hF _ _ (by omega)
            have f3 : m (50 + Int.toNat i) 3 = g (50 + Int.toNat i) 3 := hF _ _ (by omega)
            have f9 : m (50 + Int.toNat i) 9 = g (50 + Int.toNat i) 9 := hF _ _ (by omega)
            have f10 : m (50 + Int.toNat i) 10 = g (50 + Int.toNat i) 10 := hF _ _ (by omega)
            have f11 : m (50 + Int.toNat i) 11 = g (50 + Int.toNat i) 11 := hF _ _ (by omega)
            have yi : yw (i + 1) = i + 1 := yw_s (i + 1) (by omega) (by omega)
            rw [yi]
            refine ih (i + 1) (by omega) (by omega) m (141, i) hT hF ?_ hf
            rw [show Int.toNat (i + 1) = Int.toNat i + 1 by omega]
            exact ⟨_, _, hI, Or.inr ⟨fun z => by unfold yQk at z; omega, rfl, rfl⟩⟩
          · refine ⟨_, rfl, ?_⟩
            intro r9 p100
            refine ⟨fun h11 => ?_, fun h11 => ?_⟩
            · have e1 : m 1 1 = g 1 1 := hF _ _ (by omega)
              have e7 : m 1 7 = g 1 7 := hF _ _ (by omega)
              have f0 : m (50 + Int.toNat i) 0 = g (50 + Int.toNat i) 0 := hF _ _ (by omega)
              have f3 : m (50 + Int.toNat i) 3 = g (50 + Int.toNat i) 3 := hF _ _ (by omega)
              have f9 : m (50 + Int.toNat i) 9 = g (50 + Int.toNat i) 9 := hF _ _ (by omega)
              have f10 : m (50 + Int.toNat i) 10 = g (50 + Int.toNat i) 10 := hF _ _ (by omega)
              have f11 : m (50 + Int.toNat i) 11 = g (50 + Int.toNat i) 11 := hF _ _ (by omega)
              have yi : yw (i + 1) = i + 1 := yw_s (i + 1) (by omega) (by omega)
              rw [yi]
              refine ih (i + 1) (by omega) (by omega) m (141, i) hT hF ?_ hf
              rw [show Int.toNat (i + 1) = Int.toNat i + 1 by omega]
              exact ⟨_, _, hI, Or.inr ⟨fun z => by unfold yQk at z; omega, rfl, rfl⟩⟩
            · refine ⟨_, rfl, (by have e1 : m 1 1 = g 1 1 := hF _ _ (by omega); have e7 : m 1 7 = g 1 7 := hF _ _ (by omega); have f0 : m (50 + Int.toNat i) 0 = g (50 + Int.toNat i) 0 := hF _ _ (by omega); have f3 : m (50 + Int.toNat i) 3 = g (50 + Int.toNat i) 3 := hF _ _ (by omega); have f9 : m (50 + Int.toNat i) 9 = g (50 + Int.toNat i) 9 := hF _ _ (by omega); have f10 : m (50 + Int.toNat i) 10 = g (50 + Int.toNat i) 10 := hF _ _ (by omega); have f11 : m (50 + Int.toNat i) 11 = g (50 + Int.toNat i) 11 := hF _ _ (by omega); omega), (hT), (by have e1 : m 1 1 = g 1 1 := hF _ _ (by omega); have e7 : m 1 7 = g 1 7 := hF _ _ (by omega); have f0 : m (50 + Int.toNat i) 0 = g (50 + Int.toNat i) 0 := hF _ _ (by omega); have f3 : m (50 + Int.toNat i) 3 = g (50 + Int.toNat i) 3 := hF _ _ (by omega); have f9 : m (50 + Int.toNat i) 9 = g (50 + Int.toNat i) 9 := hF _ _ (by omega); have f10 : m (50 + Int.toNat i) 10 = g (50 + Int.toNat i) 10 := hF _ _ (by omega); have f11 : m (50 + Int.toNat i) 11 = g (50 + Int.toNat i) 11 := hF _ _ (by omega); omega), (by have e1 : m 1 1 = g 1 1 := hF _ _ (by omega); have e7 : m 1 7 = g 1 7 := hF _ _ (by omega); have f0 : m (50 + Int.toNat i) 0 = g (50 + Int.toNat i) 0 := hF _ _ (by omega); have f3 : m (50 + Int.toNat i) 3 = g (50 + Int.toNat i) 3 := hF _ _ (by omega); have f9 : m (50 + Int.toNat i) 9 = g (50 + Int.toNat i) 9 := hF _ _ (by omega); have f10 : m (50 + Int.toNat i) 10 = g (50 + Int.toNat i) 10 := hF _ _ (by omega); have f11 : m (50 + Int.toNat i) 11 = g (50 + Int.toNat i) 11 := hF _ _ (by omega); omega), (by have e1 : m 1 1 = g 1 1 := hF _ _ (by omega); have e7 : m 1 7 = g 1 7 := hF _ _ (by omega); have f0 : m (50 + Int.toNat i) 0 = g (50 + Int.toNat i) 0 := hF _ _ (by omega); have f3 : m (50 + Int.toNat i) 3 = g (50 + Int.toNat i) 3 := hF _ _ (by omega); have f9 : m (50 + Int.toNat i) 9 = g (50 + Int.toNat i) 9 := hF _ _ (by omega); have f10 : m (50 + Int.toNat i) 10 = g (50 + Int.toNat i) 10 := hF _ _ (by omega); have f11 : m (50 + Int.toNat i) 11 = g (50 + Int.toNat i) 11 := hF _ _ (by omega); omega), (by have e1 : m 1 1 = g 1 1 := hF _ _ (by omega); have e7 : m 1 7 = g 1 7 := hF _ _ (by omega); have f0 : m (50 + Int.toNat i) 0 = g (50 + Int.toNat i) 0 := hF _ _ (by omega); have f3 : m (50 + Int.toNat i) 3 = g (50 + Int.toNat i) 3 := hF _ _ (by omega); have f9 : m (50 + Int.toNat i) 9 = g (50 + Int.toNat i) 9 := hF _ _ (by omega); have f10 : m (50 + Int.toNat i) 10 = g (50 + Int.toNat i) 10 := hF _ _ (by omega); have f11 : m (50 + Int.toNat i) 11 = g (50 + Int.toNat i) 11 := hF _ _ (by omega); have f2 : m (50 + Int.toNat (m (50 + Int.toNat i) 9)) 2 = g (50 + Int.toNat (g (50 + Int.toNat i) 9)) 2 := (by rw [f9]; exact hF _ _ (by omega)); have hc := hC (Int.toNat (g (50 + Int.toNat i) 9)) (by omega); omega), (by have e1 : m 1 1 = g 1 1 := hF _ _ (by omega); have e7 : m 1 7 = g 1 7 := hF _ _ (by omega); have f0 : m (50 + Int.toNat i) 0 = g (50 + Int.toNat i) 0 := hF _ _ (by omega); have f3 : m (50 + Int.toNat i) 3 = g (50 + Int.toNat i) 3 := hF _ _ (by omega); have f9 : m (50 + Int.toNat i) 9 = g (50 + Int.toNat i) 9 := hF _ _ (by omega); have f10 : m (50 + Int.toNat i) 10 = g (50 + Int.toNat i) 10 := hF _ _ (by omega); have f11 : m (50 + Int.toNat i) 11 = g (50 + Int.toNat i) 11 := hF _ _ (by omega); omega), ?_⟩
              intro g13 p140 p141 p142
              have e1 : m 1 1 = g 1 1 := hF _ _ (by omega)
              have e7 : m 1 7 = g 1 7 := hF _ _ (by omega)
              have f0 : m (50 + Int.toNat i) 0 = g (50 + Int.toNat i) 0 := hF _ _ (by omega)
              have f3 : m (50 + Int.toNat i) 3 = g (50 + Int.toNat i) 3 := hF _ _ (by omega)
              have f9 : m (50 + Int.toNat i) 9 = g (50 + Int.toNat i) 9 := hF _ _ (by omega)
              have f10 : m (50 + Int.toNat i) 10 = g (50 + Int.toNat i) 10 := hF _ _ (by omega)
              have f11 : m (50 + Int.toNat i) 11 = g (50 + Int.toNat i) 11 := hF _ _ (by omega)
              have yi : yw (i + 1) = i + 1 := yw_s (i + 1) (by omega) (by omega)
              rw [yi]
              have f2 : m (50 + Int.toNat (m (50 + Int.toNat i) 9)) 2 = g (50 + Int.toNat (g (50 + Int.toNat i) 9)) 2 := (by rw [f9]; exact hF _ _ (by omega))
              have hc := hC (Int.toNat (g (50 + Int.toNat i) 9)) (by omega)
              rw [yIc_fi hF, f0, f3, f2, f11] at p142
              have hF2 : yIf g g13 := fun a b hn => (p141 a b hn).trans (hF a b hn)
              refine ih (i + 1) (by omega) (by omega) _ (141, i) p140 hF2 ?_ (yIt_f hc.1 hf _ _ _ p142)
              rw [show Int.toNat (i + 1) = Int.toNat i + 1 by omega]
              exact ⟨_, _, hI, Or.inl ⟨by unfold yQk; omega, p142⟩⟩
set_option maxRecDepth 8000 in
theorem yv_LFI {K : List yV → yM → Prop} {Y : yNx} {g : yM} {t e : Int} (hY : yCl zpD96 (zpZ, zpRS, zpP8, zpMT, [yC_HST, yC_HC, yC_LAH], (4, 109), 0) K Y) (hr_t : -2147483648 ≤ t ∧ t ≤ 2147483647) (hr_e : -2147483648 ≤ e ∧ e ≤ 2147483647) (hp0 : yTy zpZ g) (hp1 : ∀ n : Nat, (n : Int) < g 1 1 → 0 ≤ g (50 + n) 2 ∧ g (50 + n) 2 ≤ 719) (hK : ∀ (g' : yM), (yTy zpZ g') → (yIf g g') → (yIoc g t e (Int.toNat (g 1 1)) (g' 7 5) (g' 7 6)) → K [] g') : Y 0 [(3, 7), (1, t), (1, e), (0, 0), (0, 0)] [] g := by
  refine yrun_ok (sp := fun pc => Nat.beq pc 13) hY 9 0 _ [] g ?_
  show (Y 13 [(3, 7), (1, t), (1, e), (1, 0), (0, 0)] [] (yset (yset g 7 5 0) 7 6 (-2)))
  have hz := hp0.sz
  have h7 := hp0.fO (q := 1) (j := 7) (List.mem_of_getElem? (i := 1) rfl) rfl
  exact yl_LFI hY hz h7 hp1 (fun g' q1 q2 q3 => hK g' q1 q2 q3) (Int.toNat (g 1 1)) 0 (by omega) (by decide) _ _ ((hp0.sO (List.mem_of_getElem? (i := 7) rfl) rfl (by decide +kernel) ⟨by decide, by decide⟩).sO (List.mem_of_getElem? (i := 7) rfl) rfl (by decide +kernel) ⟨by decide, by decide⟩) (yIf.s (yIf.s (fun _ _ _ => rfl) (Or.inl rfl)) (Or.inr rfl)) ⟨(yset_nj (by decide)).trans yset_eq, yset_eq⟩ (Or.inl yset_eq)
theorem yM_LFI {l : Launch} {Ts : List Cond} {cl : List vw_C} {RO : zRO} (H : zHyp Ts cl RO) : yMet l Ts cl zpZ RO zpMT yC_LFI := ymet_of2 H.1 H.2.1 zpDj H.2.2.1 yRb H.p8 (ymets_cons (yM_HST H) (ymets_cons (yM_HC H) (ymets_cons (yM_LAH H) ymets_nil))) (zrc0 rfl) (plainFor_of_name zpy8) zpDk96 (fun as g K Y h hA hY => by
  obtain ⟨t, e, rfl, hp0, hp1, hK⟩ := h
  exact yv_LFI hY (yAr1 hA (by simp)) (yAr1 hA (by simp)) hp0 hp1 hK)
def yP_CID : yPT := fun as g K => ∃ (s h : Int), as = [(3, 0), (1, s), (1, h)] ∧ (yTy zpZ g) ∧ (∀ n : Nat, (n : Int) < g 1 1 → 0 ≤ g (50 + n) 2 ∧ g (50 + n) 2 ≤ 719) ∧ (∀ (r : Int) (g' : yM), (¬ (0 ≤ (yb (fun x y => x / y) s 10) ∧ (yb (fun x y => x / y) s 10) < 4 ∧ 0 ≤ (yb (fun x y => x - x / y * y) s 10) ∧ (yb (fun x y => x - x / y * y) s 10) < 4 ∧ 0 ≤ h ∧ h < 2) → r = -1 ∧ g' = g) → ((0 ≤ (yb (fun x y => x / y) s 10) ∧ (yb (fun x y => x / y) s 10) < 4 ∧ 0 ≤ (yb (fun x y => x - x / y * y) s 10) ∧ (yb (fun x y => x - x / y * y) s 10) < 4 ∧ 0 ≤ h ∧ h < 2) → yTy zpZ g' ∧ yIf g g' ∧ ∃ n f : Int, yIoc g (yb (fun x y => x / y) s 10) (yb (fun x y => x - x / y * y) s 10) (Int.toNat (g 1 1)) n f ∧ (h = 0 → r = n) ∧ (h = 1 → r = f)) → K [(1, r)] g')
def yC_CID : yC := (14, (5, 133), yP_CID)
set_option maxRecDepth 8000 in
theorem yv_CID {K : List yV → yM → Prop} {Y : yNx} {g : yM} {s h : Int} (hY : yCl zpD14 (zpZ, zpRS, zpP0, zpMT, [yC_W, yC_LFI], (5, 133), 1) K Y) (hr_s : -2147483648 ≤ s ∧ s ≤ 2147483647) (hr_h : -2147483648 ≤ h ∧ h ≤ 2147483647) (hp0 : yTy zpZ g) (hp1 : ∀ n : Nat, (n : Int) < g 1 1 → 0 ≤ g (50 + n) 2 ∧ g (50 + n) 2 ≤ 719) (hK : ∀ (r : Int) (g' : yM), (¬ (0 ≤ (yb (fun x y => x / y) s 10) ∧ (yb (fun x y => x / y) s 10) < 4 ∧ 0 ≤ (yb (fun x y => x - x / y * y) s 10) ∧ (yb (fun x y => x - x / y * y) s 10) < 4 ∧ 0 ≤ h ∧ h < 2) → r = -1 ∧ g' = g) → ((0 ≤ (yb (fun x y => x / y) s 10) ∧ (yb (fun x y => x / y) s 10) < 4 ∧ 0 ≤ (yb (fun x y => x - x / y * y) s 10) ∧ (yb (fun x y => x - x / y * y) s 10) < 4 ∧ 0 ≤ h ∧ h < 2) → yTy zpZ g' ∧ yIf g g' ∧ ∃ n f : Int, yIoc g (yb (fun x y => x / y) s 10) (yb (fun x y => x - x / y * y) s 10) (Int.toNat (g 1 1)) n f ∧ (h = 0 → r = n) ∧ (h = 1 → r = f)) → K [(1, r)] g') : Y 0 [(3, 0), (1, s), (1, h), (0, 0), (0, 0)] [] g := by
  refine yrun_ok (sp := fun pc => false) hY 32 0 _ [] g ?_
  show ((10 : Int) ≠ 0 ∧ ((10 : Int) ≠ 0 ∧ (∃ (v1 b2 : Int), [(1, (yb (fun x y => x / y) s 10)), (1, 4)] = [(1, v1), (1, b2)] ∧ (∀ (r3 : Int), ((r3 = 1 ∧ 0 ≤ v1 ∧ v1 < b2) ∨ (r3 = 0 ∧ (v1 < 0 ∨ b2 ≤ v1))) → ((r3 = 0 → (K [(1, (-1))] g)) ∧ (¬ (r3 = 0) → (∃ (v6 b7 : Int), [(1, (yb (fun x y => x - x / y * y) s 10)), (1, 4)] = [(1, v6), (1, b7)] ∧ (∀ (r8 : Int), ((r8 = 1 ∧ 0 ≤ v6 ∧ v6 < b7) ∨ (r8 = 0 ∧ (v6 < 0 ∨ b7 ≤ v6))) → ((r8 = 0 → (K [(1, (-1))] g)) ∧ (¬ (r8 = 0) → (∃ (v11 b12 : Int), [(1, h), (1, 2)] = [(1, v11), (1, b12)] ∧ (∀ (r13 : Int), ((r13 = 1 ∧ 0 ≤ v11 ∧ v11 < b12) ∨ (r13 = 0 ∧ (v11 < 0 ∨ b12 ≤ v11))) → ((r13 ≠ 0 → (∃ (t16 e17 : Int), [(3, 7), (1, (yb (fun x y => x / y) s 10)), (1, (yb (fun x y => x - x / y * y) s 10))] = [(3, 7), (1, t16), (1, e17)] ∧ (yTy zpZ g) ∧ (∀ n : Nat, (n : Int) < g 1 1 → 0 ≤ g (50 + n) 2 ∧ g (50 + n) 2 ≤ 719) ∧ (∀ (g18 : yM), (yTy zpZ g18) → (yIf g g18) → (yIoc g t16 e17 (Int.toNat (g 1 1)) (g18 7 5) (g18 7 6)) → ((h ≠ 0 → (K [(1, (g18 7 6))] g18)) ∧ (¬ (h ≠ 0) → (K [(1, (g18 7 5))] g18)))))) ∧ (¬ (r13 ≠ 0) → (K [(1, (-1))] g)))))))))))))))
  refine ⟨(by have q1 := yb_rng (fun x y => x / y) s 10; have q2 := yb_rng (fun x y => x - x / y * y) s 10; have q3 := yq10 hr_s; omega), ?_⟩
  refine ⟨(by have q1 := yb_rng (fun x y => x / y) s 10; have q2 := yb_rng (fun x y => x - x / y * y) s 10; have q3 := yq10 hr_s; omega), ?_⟩
  refine ⟨_, _, rfl, ?_⟩
  intro r3 p40
  refine ⟨fun h5 => ?_, fun h5 => ?_⟩
  · have q1 := yb_rng (fun x y => x / y) s 10
    have q2 := yb_rng (fun x y => x - x / y * y) s 10
    have q3 := yq10 hr_s
    exact hK _ _ (fun _ => ⟨rfl, rfl⟩) (fun h => absurd h (by omega))
  · refine ⟨_, _, rfl, ?_⟩
    intro r8 p90
    refine ⟨fun h10 => ?_, fun h10 => ?_⟩
    · have q1 := yb_rng (fun x y => x / y) s 10
      have q2 := yb_rng (fun x y => x - x / y * y) s 10
      have q3 := yq10 hr_s
      exact hK _ _ (fun _ => ⟨rfl, rfl⟩) (fun h => absurd h (by omega))
    · refine ⟨_, _, rfl, ?_⟩
      intro r13 p140
      refine ⟨fun h15 => ?_, fun h15 => ?_⟩
      · refine ⟨_, _, rfl, (hp0), (hp1), ?_⟩
        intro g18 p190 p191 p192
        refine ⟨fun h20 => ?_, fun h20 => ?_⟩
        · have q1 := yb_rng (fun x y => x / y) s 10
          have q2 := yb_rng (fun x y => x - x / y * y) s 10
          have q3 := yq10 hr_s
          exact hK _ _ (fun h => absurd (by omega) h) (fun _ => ⟨p190, p191, _, _, p192, fun h => absurd h (by omega), fun _ => rfl⟩)
        · have q1 := yb_rng (fun x y => x / y) s 10
          have q2 := yb_rng (fun x y => x - x / y * y) s 10
          have q3 := yq10 hr_s
          exact hK _ _ (fun h => absurd (by omega) h) (fun _ => ⟨p190, p191, _, _, p192, fun _ => rfl, fun h => absurd h (by omega)⟩)
      · have q1 := yb_rng (fun x y => x / y) s 10
        have q2 := yb_rng (fun x y => x - x / y * y) s 10
        have q3 := yq10 hr_s
        exact hK _ _ (fun _ => ⟨rfl, rfl⟩) (fun h => absurd h (by omega))
theorem yM_CID {l : Launch} {Ts : List Cond} {cl : List vw_C} {RO : zRO} (H : zHyp Ts cl RO) : yMet l Ts cl zpZ RO zpMT yC_CID := ymet_of2 H.1 H.2.1 zpDj H.2.2.1 yRb H.p0 (ymets_cons (yM_W H) (ymets_cons (yM_LFI H) ymets_nil)) (zrc1 rfl) (plainFor_of_name zpy0) zpDk14 (fun as g K Y h hA hY => by
  obtain ⟨s, h, rfl, hp0, hp1, hK⟩ := h
  exact yv_CID hY (yAr1 hA (by simp)) (yAr1 hA (by simp)) hp0 hp1 hK)
def yP_WTS : yPT := fun as g K => ∃ (t e x : Int), as = [(3, 90), (1, t), (1, e), (1, x)] ∧ (0 ≤ g 90 22 ∧ g 90 22 ≤ 40) ∧ (∀ (r : Int), ((r = 1 ∧ yWm g t e x) ∨ (r = 0 ∧ ¬ yWm g t e x)) → K [(1, r)] g)
def yC_WTS : yC := (208, (1, 40), yP_WTS)
set_option maxRecDepth 8000 in
theorem yl_WTS {K : List yV → yM → Prop} {Y : yNx} {g : yM} {t e x : Int} (hY : yCl zpD208 (zpZ, zpRS, zpP12, zpMT, [], (1, 40), 2) K Y) (hq0 : 0 ≤ g 90 22 ∧ g 90 22 ≤ 40) (hK1 : yWm g t e x → K [(1, 1)] g) (hK0 : ¬ yWm g t e x → K [(1, 0)] g) : ∀ (n : Nat) (i : Int), i + n = g 90 22 → 0 ≤ i → ∀ (w5 : yV), (∀ j : Nat, (j : Int) < i → ¬ yWn g t e x j) → Y 3 [(3, 90), (1, t), (1, e), (1, x), (1, i), w5] [] g := by
  intro n
  induction n with
  | zero =>
    intro i hd h0 w5 hu
    refine yrun_ok (sp := fun pc => Nat.beq pc 3) hY 43 3 _ [] g ?_
    show (((g 90 22) ≤ i → (((0 : Int) ≤ 0 ∧ 0 ≤ (1 : Int)) ∧ (K [(1, 0)] g))) ∧ (¬ ((g 90 22) ≤ i) → (((0 : Int) ≤ i ∧ i < ((40 : Nat) : Int)) ∧ (((g 101 (Int.toNat i)) ≠ t → (((0 : Int) = 0 → (Y 3 [(3, 90), (1, t), (1, e), (1, x), (1, (yw (i + 1))), (1, 0)] [] g)) ∧ (¬ (0 : Int) = 0 → _))) ∧ (¬ ((g 101 (Int.toNat i)) ≠ t) → (((g 90 11) = 0 → (((0 : Int) ≤ i ∧ i < ((40 : Nat) : Int)) ∧ (((g 110 (Int.toNat i)) ≤ x → (((0 : Int) = 0 → (Y 3 [(3, 90), (1, t), (1, e), (1, x), (1, (yw (i + 1))), (1, 0)] [] g)) ∧ (¬ (0 : Int) = 0 → _))) ∧ (¬ ((g 110 (Int.toNat i)) ≤ x) → (((0 : Int) ≤ i ∧ i < ((53 : Nat) : Int)) ∧ (((0 : Int) ≤ 52 ∧ 52 < ((53 : Nat) : Int)) ∧ ((x < (yw ((g 91 (Int.toNat i)) + (g 91 52))) → (((0 : Int) = 0 → (Y 3 [(3, 90), (1, t), (1, e), (1, x), (1, (yw (i + 1))), (1, 0)] [] g)) ∧ (¬ (0 : Int) = 0 → _))) ∧ (¬ (x < (yw ((g 91 (Int.toNat i)) + (g 91 52)))) → (((1 : Int) = 0 → _) ∧ (¬ (1 : Int) = 0 → (((0 : Int) ≤ 1 ∧ 1 ≤ (1 : Int)) ∧ (K [(1, 1)] g)))))))))))) ∧ (¬ ((g 90 11) = 0) → (((0 : Int) ≤ i ∧ i < ((40 : Nat) : Int)) ∧ (((g 107 (Int.toNat i)) ≠ e → (((0 : Int) = 0 → (Y 3 [(3, 90), (1, t), (1, e), (1, x), (1, (yw (i + 1))), (1, 0)] [] g)) ∧ (¬ (0 : Int) = 0 → _))) ∧ (¬ ((g 107 (Int.toNat i)) ≠ e) → (((0 : Int) ≤ i ∧ i < ((40 : Nat) : Int)) ∧ (((g 110 (Int.toNat i)) ≤ x → (((0 : Int) = 0 → (Y 3 [(3, 90), (1, t), (1, e), (1, x), (1, (yw (i + 1))), (1, 0)] [] g)) ∧ (¬ (0 : Int) = 0 → _))) ∧ (¬ ((g 110 (Int.toNat i)) ≤ x) → (((0 : Int) ≤ i ∧ i < ((53 : Nat) : Int)) ∧ (((0 : Int) ≤ 52 ∧ 52 < ((53 : Nat) : Int)) ∧ ((x < (yw ((g 91 (Int.toNat i)) + (g 91 52))) → (((0 : Int) = 0 → (Y 3 [(3, 90), (1, t), (1, e), (1, x), (1, (yw (i + 1))), (1, 0)] [] g)) ∧ (¬ (0 : Int) = 0 → _))) ∧ (¬ (x < (yw ((g 91 (Int.toNat i)) + (g 91 52)))) → (((1 : Int) = 0 → _) ∧ (¬ (1 : Int) = 0 → (((0 : Int) ≤ 1 ∧ 1 ≤ (1 : Int)) ∧ (K [(1, 1)] g)))))))))))))))))))))
    refine ⟨fun h1 => ?_, fun h1 => ?_⟩
    · refine ⟨(by omega), ?_⟩
      obtain rfl : i = g 90 22 := by omega
      exact hK0 (fun ⟨j, j1, j2⟩ => hu j j1 j2)
    · refine ⟨(by omega), ?_⟩
      refine ⟨fun h2 => ?_, fun h2 => ?_⟩
      · refine ⟨fun _ => ?_, fun h3 => absurd (by decide) h3⟩
        omega
      · refine ⟨fun h4 => ?_, fun h4 => ?_⟩
        · refine ⟨(by omega), ?_⟩
          refine ⟨fun h5 => ?_, fun h5 => ?_⟩
          · refine ⟨fun _ => ?_, fun h6 => absurd (by decide) h6⟩
            omega
          · refine ⟨(by omega), ?_⟩
            refine ⟨(by omega), ?_⟩
            refine ⟨fun h7 => ?_, fun h7 => ?_⟩
            · refine ⟨fun _ => ?_, fun h8 => absurd (by decide) h8⟩
              omega
            · refine ⟨fun h9 => absurd h9 (by decide), fun _ => ?_⟩
              refine ⟨(by omega), ?_⟩
              omega
        · refine ⟨(by omega), ?_⟩
          refine ⟨fun h10 => ?_, fun h10 => ?_⟩
          · refine ⟨fun _ => ?_, fun h11 => absurd (by decide) h11⟩
            omega
          · refine ⟨(by omega), ?_⟩
            refine ⟨fun h12 => ?_, fun h12 => ?_⟩
            · refine ⟨fun _ => ?_, fun h13 => absurd (by decide) h13⟩
              omega
            · refine ⟨(by omega), ?_⟩
              refine ⟨(by omega), ?_⟩
              refine ⟨fun h14 => ?_, fun h14 => ?_⟩
              · refine ⟨fun _ => ?_, fun h15 => absurd (by decide) h15⟩
                omega
              · refine ⟨fun h16 => absurd h16 (by decide), fun _ => ?_⟩
                refine ⟨(by omega), ?_⟩
                omega
  | succ n ih =>
    intro i hd h0 w5 hu
    refine yrun_ok (sp := fun pc => Nat.beq pc 3) hY 43 3 _ [] g ?_
    show (((g 90 22) ≤ i → (((0 : Int) ≤ 0 ∧ 0 ≤ (1 : Int)) ∧ (K [(1, 0)] g))) ∧ (¬ ((g 90 22) ≤ i) → (((0 : Int) ≤ i ∧ i < ((40 : Nat) : Int)) ∧ (((g 101 (Int.toNat i)) ≠ t → (((0 : Int) = 0 → (Y 3 [(3, 90), (1, t), (1, e), (1, x), (1, (yw (i + 1))), (1, 0)] [] g)) ∧ (¬ (0 : Int) = 0 → _))) ∧ (¬ ((g 101 (Int.toNat i)) ≠ t) → (((g 90 11) = 0 → (((0 : Int) ≤ i ∧ i < ((40 : Nat) : Int)) ∧ (((g 110 (Int.toNat i)) ≤ x → (((0 : Int) = 0 → (Y 3 [(3, 90), (1, t), (1, e), (1, x), (1, (yw (i + 1))), (1, 0)] [] g)) ∧ (¬ (0 : Int) = 0 → _))) ∧ (¬ ((g 110 (Int.toNat i)) ≤ x) → (((0 : Int) ≤ i ∧ i < ((53 : Nat) : Int)) ∧ (((0 : Int) ≤ 52 ∧ 52 < ((53 : Nat) : Int)) ∧ ((x < (yw ((g 91 (Int.toNat i)) + (g 91 52))) → (((0 : Int) = 0 → (Y 3 [(3, 90), (1, t), (1, e), (1, x), (1, (yw (i + 1))), (1, 0)] [] g)) ∧ (¬ (0 : Int) = 0 → _))) ∧ (¬ (x < (yw ((g 91 (Int.toNat i)) + (g 91 52)))) → (((1 : Int) = 0 → _) ∧ (¬ (1 : Int) = 0 → (((0 : Int) ≤ 1 ∧ 1 ≤ (1 : Int)) ∧ (K [(1, 1)] g)))))))))))) ∧ (¬ ((g 90 11) = 0) → (((0 : Int) ≤ i ∧ i < ((40 : Nat) : Int)) ∧ (((g 107 (Int.toNat i)) ≠ e → (((0 : Int) = 0 → (Y 3 [(3, 90), (1, t), (1, e), (1, x), (1, (yw (i + 1))), (1, 0)] [] g)) ∧ (¬ (0 : Int) = 0 → _))) ∧ (¬ ((g 107 (Int.toNat i)) ≠ e) → (((0 : Int) ≤ i ∧ i < ((40 : Nat) : Int)) ∧ (((g 110 (Int.toNat i)) ≤ x → (((0 : Int) = 0 → (Y 3 [(3, 90), (1, t), (1, e), (1, x), (1, (yw (i + 1))), (1, 0)] [] g)) ∧ (¬ (0 : Int) = 0 → _))) ∧ (¬ ((g 110 (Int.toNat i)) ≤ x) → (((0 : Int) ≤ i ∧ i < ((53 : Nat) : Int)) ∧ (((0 : Int) ≤ 52 ∧ 52 < ((53 : Nat) : Int)) ∧ ((x < (yw ((g 91 (Int.toNat i)) + (g 91 52))) → (((0 : Int) = 0 → (Y 3 [(3, 90), (1, t), (1, e), (1, x), (1, (yw (i + 1))), (1, 0)] [] g)) ∧ (¬ (0 : Int) = 0 → _))) ∧ (¬ (x < (yw ((g 91 (Int.toNat i)) + (g 91 52)))) → (((1 : Int) = 0 → _) ∧ (¬ (1 : Int) = 0 → (((0 : Int) ≤ 1 ∧ 1 ≤ (1 : Int)) ∧ (K [(1, 1)] g)))))))))))))))))))))
    refine ⟨fun h1 => ?_, fun h1 => ?_⟩
    · refine ⟨(by omega), ?_⟩
      omega
    · refine ⟨(by omega), ?_⟩
      refine ⟨fun h2 => ?_, fun h2 => ?_⟩
      · refine ⟨fun _ => ?_, fun h3 => absurd (by decide) h3⟩
        have yi : yw (i + 1) = i + 1 := yw_s (i + 1) (by omega) (by omega)
        rw [yi]
        refine ih (i + 1) (by omega) (by omega) (1, 0) (fun j hj => ?_)
        by_cases hji : (j : Int) < i
        · exact hu j hji
        · obtain rfl : j = Int.toNat i := by omega
          unfold yWn
          omega
      · refine ⟨fun h4 => ?_, fun h4 => ?_⟩
        · refine ⟨(by omega), ?_⟩
          refine ⟨fun h5 => ?_, fun h5 => ?_⟩
          · refine ⟨fun _ => ?_, fun h6 => absurd (by decide) h6⟩
            have yi : yw (i + 1) = i + 1 := yw_s (i + 1) (by omega) (by omega)
            rw [yi]
            refine ih (i + 1) (by omega) (by omega) (1, 0) (fun j hj => ?_)
            by_cases hji : (j : Int) < i
            · exact hu j hji
            · obtain rfl : j = Int.toNat i := by omega
              unfold yWn
              omega
          · refine ⟨(by omega), ?_⟩
            refine ⟨(by omega), ?_⟩
            refine ⟨fun h7 => ?_, fun h7 => ?_⟩
            · refine ⟨fun _ => ?_, fun h8 => absurd (by decide) h8⟩
              have yi : yw (i + 1) = i + 1 := yw_s (i + 1) (by omega) (by omega)
              rw [yi]
              refine ih (i + 1) (by omega) (by omega) (1, 0) (fun j hj => ?_)
              by_cases hji : (j : Int) < i
              · exact hu j hji
              · obtain rfl : j = Int.toNat i := by omega
                unfold yWn
                omega
            · refine ⟨fun h9 => absurd h9 (by decide), fun _ => ?_⟩
              refine ⟨(by omega), ?_⟩
              exact hK1 ⟨Int.toNat i, by omega, by unfold yWn; omega⟩
        · refine ⟨(by omega), ?_⟩
          refine ⟨fun h10 => ?_, fun h10 => ?_⟩
          · refine ⟨fun _ => ?_, fun h11 => absurd (by decide) h11⟩
            have yi : yw (i + 1) = i + 1 := yw_s (i + 1) (by omega) (by omega)
            rw [yi]
            refine ih (i + 1) (by omega) (by omega) (1, 0) (fun j hj => ?_)
            by_cases hji : (j : Int) < i
            · exact hu j hji
            · obtain rfl : j = Int.toNat i := by omega
              unfold yWn
              omega
          · refine ⟨(by omega), ?_⟩
            refine ⟨fun h12 => ?_, fun h12 => ?_⟩
            · refine ⟨fun _ => ?_, fun h13 => absurd (by decide) h13⟩
              have yi : yw (i + 1) = i + 1 := yw_s (i + 1) (by omega) (by omega)
              rw [yi]
              refine ih (i + 1) (by omega) (by omega) (1, 0) (fun j hj => ?_)
              by_cases hji : (j : Int) < i
              · exact hu j hji
              · obtain rfl : j = Int.toNat i := by omega
                unfold yWn
                omega
            · refine ⟨(by omega), ?_⟩
              refine ⟨(by omega), ?_⟩
              refine ⟨fun h14 => ?_, fun h14 => ?_⟩
              · refine ⟨fun _ => ?_, fun h15 => absurd (by decide) h15⟩
                have yi : yw (i + 1) = i + 1 := yw_s (i + 1) (by omega) (by omega)
                rw [yi]
                refine ih (i + 1) (by omega) (by omega) (1, 0) (fun j hj => ?_)
                by_cases hji : (j : Int) < i
                · exact hu j hji
                · obtain rfl : j = Int.toNat i := by omega
                  unfold yWn
                  omega
              · refine ⟨fun h16 => absurd h16 (by decide), fun _ => ?_⟩
                refine ⟨(by omega), ?_⟩
                exact hK1 ⟨Int.toNat i, by omega, by unfold yWn; omega⟩
set_option maxRecDepth 8000 in
theorem yv_WTS {K : List yV → yM → Prop} {Y : yNx} {g : yM} {t e x : Int} (hY : yCl zpD208 (zpZ, zpRS, zpP12, zpMT, [], (1, 40), 2) K Y) (hr_t : -2147483648 ≤ t ∧ t ≤ 2147483647) (hr_e : -2147483648 ≤ e ∧ e ≤ 2147483647) (hr_x : -2147483648 ≤ x ∧ x ≤ 2147483647) (hp0 : 0 ≤ g 90 22 ∧ g 90 22 ≤ 40) (hK : ∀ (r : Int), ((r = 1 ∧ yWm g t e x) ∨ (r = 0 ∧ ¬ yWm g t e x)) → K [(1, r)] g) : Y 0 [(3, 90), (1, t), (1, e), (1, x), (0, 0), (0, 0)] [] g := by
  refine yrun_ok (sp := fun pc => Nat.beq pc 3) hY 3 0 _ [] g ?_
  show (Y 3 [(3, 90), (1, t), (1, e), (1, x), (1, 0), (0, 0)] [] g)
  exact yl_WTS hY hp0 (fun h => hK 1 (Or.inl ⟨rfl, h⟩)) (fun h => hK 0 (Or.inr ⟨rfl, h⟩)) (Int.toNat (g 90 22)) 0 (by omega) (by decide) _ (fun j hj => absurd hj (by omega))
theorem yM_WTS {l : Launch} {Ts : List Cond} {cl : List vw_C} {RO : zRO} (H : zHyp Ts cl RO) : yMet l Ts cl zpZ RO zpMT yC_WTS := ymet_of2 H.1 H.2.1 zpDj H.2.2.1 yRb H.p12 ymets_nil (zrc2 rfl) (plainFor_of_name zpy12) zpDk208 (fun as g K Y h hA hY => by
  obtain ⟨t, e, x, rfl, hp0, hK⟩ := h
  exact yv_WTS hY (yAr1 hA (by simp)) (yAr1 hA (by simp)) (yAr1 hA (by simp)) hp0 hK)
def yP_MID : yPT := fun as g K => ∃ (s h : Int), as = [(3, 90), (1, s), (1, h)] ∧ (yTy zpZ g) ∧ (0 ≤ g 90 22 ∧ g 90 22 ≤ 40) ∧ (0 ≤ g 90 6 ∧ g 90 6 ≤ 12) ∧ (∀ n : Nat, (n : Int) < g 90 22 → (0 ≤ g 104 n ∧ g 104 n ≤ 5) ∧ g 102 n ≤ 719) ∧ (∀ n : Nat, (n : Int) < g 90 22 → 0 ≤ g 102 n) ∧ (∀ (r : Int) (g' : yM), (¬ (0 ≤ (yb (fun x y => x / y) s 10) ∧ (yb (fun x y => x / y) s 10) < 4 ∧ 0 ≤ (yb (fun x y => x - x / y * y) s 10) ∧ (yb (fun x y => x - x / y * y) s 10) < 4 ∧ 0 ≤ h ∧ h < 2) → r = -1 ∧ g' = g) → ((0 ≤ (yb (fun x y => x / y) s 10) ∧ (yb (fun x y => x / y) s 10) < 4 ∧ 0 ≤ (yb (fun x y => x - x / y * y) s 10) ∧ (yb (fun x y => x - x / y * y) s 10) < 4 ∧ 0 ≤ h ∧ h < 2) → yFd g g' ∧ ∃ n f : Int, yIom g' (yb (fun x y => x / y) s 10) (yb (fun x y => x - x / y * y) s 10) (Int.toNat (g' 90 22)) n f ∧ (h = 0 → r = n) ∧ (h = 1 → r = f)) → K [(1, r)] g')
def yC_MID : yC := (162, (5, 134), yP_MID)
set_option maxRecDepth 8000 in
theorem yl_MIDj {K : List yV → yM → Prop} {Y : yNx} {g : yM} {s h i o e n0 f0 : Int} (hY : yCl zpD162 (zpZ, zpRS, zpP12, zpMT, [yC_IDY, yC_IDO, yC_WM, yC_FS, yC_AHO, yC_LTO, yC_IAW, yC_WTS], (5, 134), 1) K Y) (hs : 0 ≤ g 90 22 ∧ g 90 22 ≤ 40) (ha : 0 ≤ g 90 6 ∧ g 90 6 ≤ 12) (hi : 0 ≤ i ∧ i < g 90 22) (hm : 0 ≤ g 104 (Int.toNat i) ∧ g 104 (Int.toNat i) ≤ 5) (he : 0 ≤ e ∧ e ≤ 719) (hE : ∀ n f y : Int, yIt (yIn g (yb (fun x y => x / y) s 10) (yb (fun x y => x - x / y * y) s 10)) e n0 f0 (Int.toNat (yMl g (Int.toNat i) - e)) n f → Y 196 [(3, 90), (1, s), (1, h), (1, n), (1, f), (1, i), (1, o), (1, y)] [] g) : ∀ (d k : Nat), k + d = (Int.toNat (yMl g (Int.toNat i) - e)) → ∀ n f : Int, yIt (yIn g (yb (fun x y => x / y) s 10) (yb (fun x y => x - x / y * y) s 10)) e n0 f0 k n f → Y 125 [(3, 90), (1, s), (1, h), (1, n), (1, f), (1, i), (1, o), (1, (e + (k : Int)))] [] g := by
  have hL : -2147483648 ≤ yMl g (Int.toNat i) ∧ yMl g (Int.toNat i) ≤ 2147483647 := yw_rng _
  intro d
  induction d with
  | zero =>
    intro k hd n f hI
    refine yrun_ok (sp := fun pc => Nat.beq pc 125 || Nat.beq pc 196) hY 34 125 _ [] g ?_
    show (∃ (w1 : Int), [(3, 90), (1, i)] = [(3, 90), (1, w1)] ∧ (0 ≤ w1 ∧ w1 < 40) ∧ (0 ≤ g 104 (Int.toNat w1) ∧ g 104 (Int.toNat w1) ≤ 5) ∧ (∀ (r2 : Int), (r2 = yMl g (Int.toNat w1)) → ((r2 ≤ (e + (k : Int)) → (Y 196 [(3, 90), (1, s), (1, h), (1, n), (1, f), (1, i), (1, o), (1, (e + (k : Int)))] [] g)) ∧ (¬ (r2 ≤ (e + (k : Int))) → ((10 : Int) ≠ 0 ∧ (∃ (d5 t6 : Int), [(3, 90), (1, (yb (fun x y => x - x / y * y) s 10)), (1, (e + (k : Int)))] = [(3, 90), (1, d5), (1, t6)] ∧ (0 ≤ g 90 6 ∧ g 90 6 ≤ 12) ∧ (∀ (r7 : Int), (r7 = yaM g d5 t6 (Int.toNat (g 90 6))) → ((r7 ≠ 0 → (Y 125 [(3, 90), (1, s), (1, h), (1, n), (1, f), (1, i), (1, o), (1, (yw ((e + (k : Int)) + 1)))] [] g)) ∧ (¬ (r7 ≠ 0) → ((10 : Int) ≠ 0 ∧ ((10 : Int) ≠ 0 ∧ (∃ (t10 e11 x12 : Int), [(3, 90), (1, (yb (fun x y => x / y) s 10)), (1, (yb (fun x y => x - x / y * y) s 10)), (1, (e + (k : Int)))] = [(3, 90), (1, t10), (1, e11), (1, x12)] ∧ (0 ≤ g 90 22 ∧ g 90 22 ≤ 40) ∧ (∀ (r13 : Int), ((r13 = 1 ∧ yWm g t10 e11 x12) ∨ (r13 = 0 ∧ ¬ yWm g t10 e11 x12)) → ((r13 = 0 → (Y 125 [(3, 90), (1, s), (1, h), (1, n), (1, f), (1, i), (1, o), (1, (yw ((e + (k : Int)) + 1)))] [] g)) ∧ (¬ (r13 = 0) → ((f < 0 → (Y 125 [(3, 90), (1, s), (1, h), (1, (yw (n + 1))), (1, (e + (k : Int))), (1, i), (1, o), (1, (yw ((e + (k : Int)) + 1)))] [] g)) ∧ (¬ (f < 0) → ((f ≤ (e + (k : Int)) → (Y 125 [(3, 90), (1, s), (1, h), (1, (yw (n + 1))), (1, f), (1, i), (1, o), (1, (yw ((e + (k : Int)) + 1)))] [] g)) ∧ (¬ (f ≤ (e + (k : Int))) → (Y 125 [(3, 90), (1, s), (1, h), (1, (yw (n + 1))), (1, (e + (k : Int))), (1, i), (1, o), (1, (yw ((e + (k : Int)) + 1)))] [] g))))))))))))))))))))
    refine ⟨_, rfl, (by omega), (by omega), ?_⟩
    intro r2 p30
    refine ⟨fun h4 => ?_, fun h4 => ?_⟩
    · obtain rfl : k = (Int.toNat (yMl g (Int.toNat i) - e)) := by omega
      exact hE _ _ _ hI
    · refine ⟨(by omega), ?_⟩
      refine ⟨_, _, rfl, (by omega), ?_⟩
      intro r7 p80
      refine ⟨fun h9 => ?_, fun h9 => ?_⟩
      · omega
      · refine ⟨(by omega), ?_⟩
        refine ⟨(by omega), ?_⟩
        refine ⟨_, _, _, rfl, (by omega), ?_⟩
        intro r13 p140
        refine ⟨fun h15 => ?_, fun h15 => ?_⟩
        · omega
        · refine ⟨fun h16 => ?_, fun h16 => ?_⟩
          · omega
          · refine ⟨fun h17 => ?_, fun h17 => ?_⟩
            · omega
            · omega
  | succ d ih =>
    intro k hd n f hI
    refine yrun_ok (sp := fun pc => Nat.beq pc 125 || Nat.beq pc 196) hY 34 125 _ [] g ?_
    show (∃ (w1 : Int), [(3, 90), (1, i)] = [(3, 90), (1, w1)] ∧ (0 ≤ w1 ∧ w1 < 40) ∧ (0 ≤ g 104 (Int.toNat w1) ∧ g 104 (Int.toNat w1) ≤ 5) ∧ (∀ (r2 : Int), (r2 = yMl g (Int.toNat w1)) → ((r2 ≤ (e + (k : Int)) → (Y 196 [(3, 90), (1, s), (1, h), (1, n), (1, f), (1, i), (1, o), (1, (e + (k : Int)))] [] g)) ∧ (¬ (r2 ≤ (e + (k : Int))) → ((10 : Int) ≠ 0 ∧ (∃ (d5 t6 : Int), [(3, 90), (1, (yb (fun x y => x - x / y * y) s 10)), (1, (e + (k : Int)))] = [(3, 90), (1, d5), (1, t6)] ∧ (0 ≤ g 90 6 ∧ g 90 6 ≤ 12) ∧ (∀ (r7 : Int), (r7 = yaM g d5 t6 (Int.toNat (g 90 6))) → ((r7 ≠ 0 → (Y 125 [(3, 90), (1, s), (1, h), (1, n), (1, f), (1, i), (1, o), (1, (yw ((e + (k : Int)) + 1)))] [] g)) ∧ (¬ (r7 ≠ 0) → ((10 : Int) ≠ 0 ∧ ((10 : Int) ≠ 0 ∧ (∃ (t10 e11 x12 : Int), [(3, 90), (1, (yb (fun x y => x / y) s 10)), (1, (yb (fun x y => x - x / y * y) s 10)), (1, (e + (k : Int)))] = [(3, 90), (1, t10), (1, e11), (1, x12)] ∧ (0 ≤ g 90 22 ∧ g 90 22 ≤ 40) ∧ (∀ (r13 : Int), ((r13 = 1 ∧ yWm g t10 e11 x12) ∨ (r13 = 0 ∧ ¬ yWm g t10 e11 x12)) → ((r13 = 0 → (Y 125 [(3, 90), (1, s), (1, h), (1, n), (1, f), (1, i), (1, o), (1, (yw ((e + (k : Int)) + 1)))] [] g)) ∧ (¬ (r13 = 0) → ((f < 0 → (Y 125 [(3, 90), (1, s), (1, h), (1, (yw (n + 1))), (1, (e + (k : Int))), (1, i), (1, o), (1, (yw ((e + (k : Int)) + 1)))] [] g)) ∧ (¬ (f < 0) → ((f ≤ (e + (k : Int)) → (Y 125 [(3, 90), (1, s), (1, h), (1, (yw (n + 1))), (1, f), (1, i), (1, o), (1, (yw ((e + (k : Int)) + 1)))] [] g)) ∧ (¬ (f ≤ (e + (k : Int))) → (Y 125 [(3, 90), (1, s), (1, h), (1, (yw (n + 1))), (1, (e + (k : Int))), (1, i), (1, o), (1, (yw ((e + (k : Int)) + 1)))] [] g))))))))))))))))))))
    refine ⟨_, rfl, (by omega), (by omega), ?_⟩
    intro r2 p30
    refine ⟨fun h4 => ?_, fun h4 => ?_⟩
    · omega
    · refine ⟨(by omega), ?_⟩
      refine ⟨_, _, rfl, (by omega), ?_⟩
      intro r7 p80
      refine ⟨fun h9 => ?_, fun h9 => ?_⟩
      · have hb := @yaM_b g (yb (fun x y => x - x / y * y) s 10) (e + (k : Int)) (Int.toNat (g 90 6))
        have yk : yw (e + (k : Int) + 1) = e + ((k + 1 : Nat) : Int) := by
          rw [yw_s (e + (k : Int) + 1) (by omega) (by omega)]
          omega
        rw [yk]
        have hP : ¬ (yIn g (yb (fun x y => x / y) s 10) (yb (fun x y => x - x / y * y) s 10)) (e + (k : Int)) := fun z => by
          have z1 := z.1
          omega
        exact ih (k + 1) (by omega) _ _ ⟨_, _, hI, Or.inr ⟨hP, rfl, rfl⟩⟩
      · refine ⟨(by omega), ?_⟩
        refine ⟨(by omega), ?_⟩
        refine ⟨_, _, _, rfl, (by omega), ?_⟩
        intro r13 p140
        refine ⟨fun h15 => ?_, fun h15 => ?_⟩
        · have hb := @yaM_b g (yb (fun x y => x - x / y * y) s 10) (e + (k : Int)) (Int.toNat (g 90 6))
          have yk : yw (e + (k : Int) + 1) = e + ((k + 1 : Nat) : Int) := by
            rw [yw_s (e + (k : Int) + 1) (by omega) (by omega)]
            omega
          rw [yk]
          have hP : ¬ (yIn g (yb (fun x y => x / y) s 10) (yb (fun x y => x - x / y * y) s 10)) (e + (k : Int)) := fun z => by
            rcases p140 with ⟨q1, q2⟩ | ⟨q1, q2⟩
            · omega
            · exact q2 z.2
          exact ih (k + 1) (by omega) _ _ ⟨_, _, hI, Or.inr ⟨hP, rfl, rfl⟩⟩
        · refine ⟨fun h16 => ?_, fun h16 => ?_⟩
          · have hb := @yaM_b g (yb (fun x y => x - x / y * y) s 10) (e + (k : Int)) (Int.toNat (g 90 6))
            have yk : yw (e + (k : Int) + 1) = e + ((k + 1 : Nat) : Int) := by
              rw [yw_s (e + (k : Int) + 1) (by omega) (by omega)]
              omega
            rw [yk]
            have hP : (yIn g (yb (fun x y => x / y) s 10) (yb (fun x y => x - x / y * y) s 10)) (e + (k : Int)) := by
              rcases p140 with ⟨q1, q2⟩ | ⟨q1, q2⟩
              · exact ⟨by omega, q2⟩
              · omega
            exact ih (k + 1) (by omega) _ _ ⟨_, _, hI, Or.inl ⟨hP, rfl, (yFm_1 (by omega)).symm⟩⟩
          · refine ⟨fun h17 => ?_, fun h17 => ?_⟩
            · have hb := @yaM_b g (yb (fun x y => x - x / y * y) s 10) (e + (k : Int)) (Int.toNat (g 90 6))
              have yk : yw (e + (k : Int) + 1) = e + ((k + 1 : Nat) : Int) := by
                rw [yw_s (e + (k : Int) + 1) (by omega) (by omega)]
                omega
              rw [yk]
              have hP : (yIn g (yb (fun x y => x / y) s 10) (yb (fun x y => x - x / y * y) s 10)) (e + (k : Int)) := by
                rcases p140 with ⟨q1, q2⟩ | ⟨q1, q2⟩
                · exact ⟨by omega, q2⟩
                · omega
              exact ih (k + 1) (by omega) _ _ ⟨_, _, hI, Or.inl ⟨hP, rfl, (yFm_0 (by omega)).symm⟩⟩
            · have hb := @yaM_b g (yb (fun x y => x - x / y * y) s 10) (e + (k : Int)) (Int.toNat (g 90 6))
              have yk : yw (e + (k : Int) + 1) = e + ((k + 1 : Nat) : Int) := by
                rw [yw_s (e + (k : Int) + 1) (by omega) (by omega)]
                omega
              rw [yk]
              have hP : (yIn g (yb (fun x y => x / y) s 10) (yb (fun x y => x - x / y * y) s 10)) (e + (k : Int)) := by
                rcases p140 with ⟨q1, q2⟩ | ⟨q1, q2⟩
                · exact ⟨by omega, q2⟩
                · omega
              exact ih (k + 1) (by omega) _ _ ⟨_, _, hI, Or.inl ⟨hP, rfl, (yFm_1 (by omega)).symm⟩⟩
set_option maxRecDepth 8000 in
theorem yt_MID {K : List yV → yM → Prop} {Y : yNx} {g : yM} {s h n f i : Int} {a b : yV} (hY : yCl zpD162 (zpZ, zpRS, zpP12, zpMT, [yC_IDY, yC_IDO, yC_WM, yC_FS, yC_AHO, yC_LTO, yC_IAW, yC_WTS], (5, 134), 1) K Y) (hi : 0 ≤ i ∧ i < 40) (hE : Y 49 [(3, 90), (1, s), (1, h), (1, n), (1, f), (1, i + 1), a, b] [] g) : Y 196 [(3, 90), (1, s), (1, h), (1, n), (1, f), (1, i), a, b] [] g := by
  refine yrun_ok (sp := fun pc => Nat.beq pc 49) hY 3 196 _ [] g ?_
  show (Y 49 [(3, 90), (1, s), (1, h), (1, n), (1, f), (1, (yw (i + 1))), a, b] [] g)
  rw [show yw (i + 1) = i + 1 from yw_s (i + 1) (by omega) (by omega)]
  exact hE
set_option maxRecDepth 8000 in
theorem yl_MID {K : List yV → yM → Prop} {Y : yNx} {g : yM} {s h : Int} (hY : yCl zpD162 (zpZ, zpRS, zpP12, zpMT, [yC_IDY, yC_IDO, yC_WM, yC_FS, yC_AHO, yC_LTO, yC_IAW, yC_WTS], (5, 134), 1) K Y) (hh : 0 ≤ h ∧ h ≤ 1) (hs : 0 ≤ g 90 22 ∧ g 90 22 ≤ 40) (ha : 0 ≤ g 90 6 ∧ g 90 6 ≤ 12) (hm : ∀ n : Nat, (n : Int) < g 90 22 → (0 ≤ g 104 n ∧ g 104 n ≤ 5) ∧ g 102 n ≤ 719) (hp : ∀ n : Nat, (n : Int) < g 90 22 → 0 ≤ g 102 n) (hK : ∀ r n f : Int, yIom g (yb (fun x y => x / y) s 10) (yb (fun x y => x - x / y * y) s 10) (Int.toNat (g 90 22)) n f → (h = 0 → r = n) → (h = 1 → r = f) → K [(1, r)] g) : ∀ (d : Nat) (i : Int), i + d = g 90 22 → 0 ≤ i → ∀ (n f : Int) (a b : yV), yIom g (yb (fun x y => x / y) s 10) (yb (fun x y => x - x / y * y) s 10) (Int.toNat i) n f → Y 49 [(3, 90), (1, s), (1, h), (1, n), (1, f), (1, i), a, b] [] g := by
  intro d
  induction d with
  | zero =>
    intro i hd h0 n f a b hI
    refine yrun_ok (sp := fun pc => Nat.beq pc 49 || Nat.beq pc 125 || Nat.beq pc 196) hY 38 49 _ [] g ?_
    show (((g 90 22) ≤ i → ((h ≠ 0 → (K [(1, f)] g)) ∧ (¬ (h ≠ 0) → (K [(1, n)] g)))) ∧ (¬ ((g 90 22) ≤ i) → (((0 : Int) ≤ i ∧ i < ((40 : Nat) : Int)) ∧ ((10 : Int) ≠ 0 ∧ (((g 101 (Int.toNat i)) ≠ (yb (fun x y => x / y) s 10) → ((0 ≤ ((-1) : Int) → _) ∧ (¬ 0 ≤ ((-1) : Int) → (Y 196 [(3, 90), (1, s), (1, h), (1, n), (1, f), (1, i), (1, (-1)), b] [] g)))) ∧ (¬ ((g 101 (Int.toNat i)) ≠ (yb (fun x y => x / y) s 10)) → (((0 : Int) ≤ i ∧ i < ((40 : Nat) : Int)) ∧ ((10 : Int) ≠ 0 ∧ (((g 103 (Int.toNat i)) ≠ (yb (fun x y => x - x / y * y) s 10) → ((0 ≤ ((-1) : Int) → _) ∧ (¬ 0 ≤ ((-1) : Int) → (Y 196 [(3, 90), (1, s), (1, h), (1, n), (1, f), (1, i), (1, (-1)), b] [] g)))) ∧ (¬ ((g 103 (Int.toNat i)) ≠ (yb (fun x y => x - x / y * y) s 10)) → (((0 : Int) ≤ i ∧ i < ((40 : Nat) : Int)) ∧ (((g 110 (Int.toNat i)) < 0 → ((0 ≤ ((-1) : Int) → _) ∧ (¬ 0 ≤ ((-1) : Int) → (Y 196 [(3, 90), (1, s), (1, h), (1, n), (1, f), (1, i), (1, (-1)), b] [] g)))) ∧ (¬ ((g 110 (Int.toNat i)) < 0) → (∃ (w9 : Int), [(3, 90), (1, i)] = [(3, 90), (1, w9)] ∧ (0 ≤ w9 ∧ w9 < 40) ∧ (0 ≤ g 90 22 ∧ g 90 22 ≤ 40) ∧ (∀ (r10 : Int), (r10 = yMg g (Int.toNat w9) (Int.toNat (g 90 22))) → ((0 ≤ r10 → (((0 : Int) ≤ r10 ∧ r10 < ((40 : Nat) : Int)) ∧ (Y 125 [(3, 90), (1, s), (1, h), (1, n), (1, f), (1, i), (1, r10), (1, (g 102 (Int.toNat r10)))] [] g))) ∧ (¬ (0 ≤ r10) → (Y 196 [(3, 90), (1, s), (1, h), (1, n), (1, f), (1, i), (1, r10), b] [] g))))))))))))))))))
    refine ⟨fun h1 => ?_, fun h1 => ?_⟩
    · refine ⟨fun h2 => ?_, fun h2 => ?_⟩
      · obtain rfl : i = g 90 22 := by omega
        exact hK _ n f hI (fun h => absurd h (by omega)) (fun _ => rfl)
      · obtain rfl : i = g 90 22 := by omega
        exact hK _ n f hI (fun _ => rfl) (fun h => absurd h (by omega))
    · refine ⟨(by omega), ?_⟩
      refine ⟨(by omega), ?_⟩
      refine ⟨fun h3 => ?_, fun h3 => ?_⟩
      · refine ⟨fun h4 => absurd h4 (by decide), fun _ => ?_⟩
        omega
      · refine ⟨(by omega), ?_⟩
        refine ⟨(by omega), ?_⟩
        refine ⟨fun h5 => ?_, fun h5 => ?_⟩
        · refine ⟨fun h6 => absurd h6 (by decide), fun _ => ?_⟩
          omega
        · refine ⟨(by omega), ?_⟩
          refine ⟨fun h7 => ?_, fun h7 => ?_⟩
          · refine ⟨fun h8 => absurd h8 (by decide), fun _ => ?_⟩
            omega
          · refine ⟨_, rfl, (by omega), (by omega), ?_⟩
            intro r10 p110
            refine ⟨fun h12 => ?_, fun h12 => ?_⟩
            · refine ⟨(by omega), ?_⟩
              omega
            · omega
  | succ d ih =>
    intro i hd h0 n f a b hI
    refine yrun_ok (sp := fun pc => Nat.beq pc 49 || Nat.beq pc 125 || Nat.beq pc 196) hY 38 49 _ [] g ?_
    show (((g 90 22) ≤ i → ((h ≠ 0 → (K [(1, f)] g)) ∧ (¬ (h ≠ 0) → (K [(1, n)] g)))) ∧ (¬ ((g 90 22) ≤ i) → (((0 : Int) ≤ i ∧ i < ((40 : Nat) : Int)) ∧ ((10 : Int) ≠ 0 ∧ (((g 101 (Int.toNat i)) ≠ (yb (fun x y => x / y) s 10) → ((0 ≤ ((-1) : Int) → _) ∧ (¬ 0 ≤ ((-1) : Int) → (Y 196 [(3, 90), (1, s), (1, h), (1, n), (1, f), (1, i), (1, (-1)), b] [] g)))) ∧ (¬ ((g 101 (Int.toNat i)) ≠ (yb (fun x y => x / y) s 10)) → (((0 : Int) ≤ i ∧ i < ((40 : Nat) : Int)) ∧ ((10 : Int) ≠ 0 ∧ (((g 103 (Int.toNat i)) ≠ (yb (fun x y => x - x / y * y) s 10) → ((0 ≤ ((-1) : Int) → _) ∧ (¬ 0 ≤ ((-1) : Int) → (Y 196 [(3, 90), (1, s), (1, h), (1, n), (1, f), (1, i), (1, (-1)), b] [] g)))) ∧ (¬ ((g 103 (Int.toNat i)) ≠ (yb (fun x y => x - x / y * y) s 10)) → (((0 : Int) ≤ i ∧ i < ((40 : Nat) : Int)) ∧ (((g 110 (Int.toNat i)) < 0 → ((0 ≤ ((-1) : Int) → _) ∧ (¬ 0 ≤ ((-1) : Int) → (Y 196 [(3, 90), (1, s), (1, h), (1, n), (1, f), (1, i), (1, (-1)), b] [] g)))) ∧ (¬ ((g 110 (Int.toNat i)) < 0) → (∃ (w9 : Int), [(3, 90), (1, i)] = [(3, 90), (1, w9)] ∧ (0 ≤ w9 ∧ w9 < 40) ∧ (0 ≤ g 90 22 ∧ g 90 22 ≤ 40) ∧ (∀ (r10 : Int), (r10 = yMg g (Int.toNat w9) (Int.toNat (g 90 22))) → ((0 ≤ r10 → (((0 : Int) ≤ r10 ∧ r10 < ((40 : Nat) : Int)) ∧ (Y 125 [(3, 90), (1, s), (1, h), (1, n), (1, f), (1, i), (1, r10), (1, (g 102 (Int.toNat r10)))] [] g))) ∧ (¬ (0 ≤ r10) → (Y 196 [(3, 90), (1, s), (1, h), (1, n), (1, f), (1, i), (1, r10), b] [] g))))))))))))))))))
    refine ⟨fun h1 => ?_, fun h1 => ?_⟩
    · refine ⟨fun h2 => ?_, fun h2 => ?_⟩
      · omega
      · omega
    · refine ⟨(by have hb := @yMg_b g (Int.toNat i) (Int.toNat (g 90 22)); omega), ?_⟩
      refine ⟨(by have hb := @yMg_b g (Int.toNat i) (Int.toNat (g 90 22)); omega), ?_⟩
      refine ⟨fun h3 => ?_, fun h3 => ?_⟩
      · refine ⟨fun h4 => absurd h4 (by decide), fun _ => ?_⟩
        have hb := @yMg_b g (Int.toNat i) (Int.toNat (g 90 22))
        refine yt_MID hY ⟨h0, by omega⟩ (ih (i + 1) (by omega) (by omega) n f _ _ ?_)
        rw [show Int.toNat (i + 1) = Int.toNat i + 1 by omega]
        exact ⟨n, f, hI, Or.inr ⟨fun z => by unfold yQi at z; omega, rfl, rfl⟩⟩
      · refine ⟨(by have hb := @yMg_b g (Int.toNat i) (Int.toNat (g 90 22)); omega), ?_⟩
        refine ⟨(by have hb := @yMg_b g (Int.toNat i) (Int.toNat (g 90 22)); omega), ?_⟩
        refine ⟨fun h5 => ?_, fun h5 => ?_⟩
        · refine ⟨fun h6 => absurd h6 (by decide), fun _ => ?_⟩
          have hb := @yMg_b g (Int.toNat i) (Int.toNat (g 90 22))
          refine yt_MID hY ⟨h0, by omega⟩ (ih (i + 1) (by omega) (by omega) n f _ _ ?_)
          rw [show Int.toNat (i + 1) = Int.toNat i + 1 by omega]
          exact ⟨n, f, hI, Or.inr ⟨fun z => by unfold yQi at z; omega, rfl, rfl⟩⟩
        · refine ⟨(by have hb := @yMg_b g (Int.toNat i) (Int.toNat (g 90 22)); omega), ?_⟩
          refine ⟨fun h7 => ?_, fun h7 => ?_⟩
          · refine ⟨fun h8 => absurd h8 (by decide), fun _ => ?_⟩
            have hb := @yMg_b g (Int.toNat i) (Int.toNat (g 90 22))
            refine yt_MID hY ⟨h0, by omega⟩ (ih (i + 1) (by omega) (by omega) n f _ _ ?_)
            rw [show Int.toNat (i + 1) = Int.toNat i + 1 by omega]
            exact ⟨n, f, hI, Or.inr ⟨fun z => by unfold yQi at z; omega, rfl, rfl⟩⟩
          · refine ⟨_, rfl, (by have hb := @yMg_b g (Int.toNat i) (Int.toNat (g 90 22)); omega), (by have hb := @yMg_b g (Int.toNat i) (Int.toNat (g 90 22)); omega), ?_⟩
            intro r10 p110
            refine ⟨fun h12 => ?_, fun h12 => ?_⟩
            · refine ⟨(by have hb := @yMg_b g (Int.toNat i) (Int.toNat (g 90 22)); omega), ?_⟩
              have hb := @yMg_b g (Int.toNat i) (Int.toNat (g 90 22))
              have hc := hm (Int.toNat r10) (by omega)
              have hd2 := hp (Int.toNat r10) (by omega)
              have hi2 := hm (Int.toNat i) (by omega)
              have h8 := yl_MIDj (e := g 102 (Int.toNat r10)) (o := r10) (n0 := n) (f0 := f) hY hs ha ⟨h0, by omega⟩ hi2.1 ⟨hd2, hc.2⟩ (fun n2 f2 y hI2 => yt_MID hY ⟨h0, by omega⟩ (ih (i + 1) (by omega) (by omega) n2 f2 _ _ (by
                  rw [show Int.toNat (i + 1) = Int.toNat i + 1 by omega]
                  refine ⟨n, f, hI, Or.inl ⟨by unfold yQi; omega, ?_⟩⟩
                  unfold yTi
                  rw [← p110]
                  exact hI2))) _ 0 (Nat.zero_add _) n f ⟨rfl, rfl⟩
              rw [show ((0 : Nat) : Int) = 0 from rfl, Int.add_zero] at h8
              exact h8
            · have hb := @yMg_b g (Int.toNat i) (Int.toNat (g 90 22))
              refine yt_MID hY ⟨h0, by omega⟩ (ih (i + 1) (by omega) (by omega) n f _ _ ?_)
              rw [show Int.toNat (i + 1) = Int.toNat i + 1 by omega]
              exact ⟨n, f, hI, Or.inr ⟨fun z => by unfold yQi at z; omega, rfl, rfl⟩⟩
set_option maxRecDepth 8000 in
theorem yv_MID {K : List yV → yM → Prop} {Y : yNx} {g : yM} {s h : Int} (hY : yCl zpD162 (zpZ, zpRS, zpP12, zpMT, [yC_IDY, yC_IDO, yC_WM, yC_FS, yC_AHO, yC_LTO, yC_IAW, yC_WTS], (5, 134), 1) K Y) (hr_s : -2147483648 ≤ s ∧ s ≤ 2147483647) (hr_h : -2147483648 ≤ h ∧ h ≤ 2147483647) (hp0 : yTy zpZ g) (hp1 : 0 ≤ g 90 22 ∧ g 90 22 ≤ 40) (hp2 : 0 ≤ g 90 6 ∧ g 90 6 ≤ 12) (hp3 : ∀ n : Nat, (n : Int) < g 90 22 → (0 ≤ g 104 n ∧ g 104 n ≤ 5) ∧ g 102 n ≤ 719) (hp4 : ∀ n : Nat, (n : Int) < g 90 22 → 0 ≤ g 102 n) (hK : ∀ (r : Int) (g' : yM), (¬ (0 ≤ (yb (fun x y => x / y) s 10) ∧ (yb (fun x y => x / y) s 10) < 4 ∧ 0 ≤ (yb (fun x y => x - x / y * y) s 10) ∧ (yb (fun x y => x - x / y * y) s 10) < 4 ∧ 0 ≤ h ∧ h < 2) → r = -1 ∧ g' = g) → ((0 ≤ (yb (fun x y => x / y) s 10) ∧ (yb (fun x y => x / y) s 10) < 4 ∧ 0 ≤ (yb (fun x y => x - x / y * y) s 10) ∧ (yb (fun x y => x - x / y * y) s 10) < 4 ∧ 0 ≤ h ∧ h < 2) → yFd g g' ∧ ∃ n f : Int, yIom g' (yb (fun x y => x / y) s 10) (yb (fun x y => x - x / y * y) s 10) (Int.toNat (g' 90 22)) n f ∧ (h = 0 → r = n) ∧ (h = 1 → r = f)) → K [(1, r)] g') : Y 0 [(3, 90), (1, s), (1, h), (0, 0), (0, 0), (0, 0), (0, 0), (0, 0)] [] g := by
  refine yrun_ok (sp := fun pc => Nat.beq pc 49) hY 27 0 _ [] g ?_
  show ((s < 0 → (K [(1, (-1))] g)) ∧ (¬ (s < 0) → ((10 : Int) ≠ 0 ∧ (∃ (d2 : Int), [(1, (yb (fun x y => x / y) s 10))] = [(1, d2)] ∧ (∀ (r3 : Int), ((r3 = 1 ∧ 0 ≤ d2 ∧ d2 ≤ 3) ∨ (r3 = 0 ∧ (d2 < 0 ∨ 3 < d2))) → ((r3 = 0 → (K [(1, (-1))] g)) ∧ (¬ (r3 = 0) → ((10 : Int) ≠ 0 ∧ (∃ (d6 : Int), [(1, (yb (fun x y => x - x / y * y) s 10))] = [(1, d6)] ∧ (∀ (r7 : Int), ((r7 = 1 ∧ 0 ≤ d6 ∧ d6 < 4) ∨ (r7 = 0 ∧ (d6 < 0 ∨ 4 ≤ d6))) → ((r7 = 0 → (K [(1, (-1))] g)) ∧ (¬ (r7 = 0) → (∃ (v10 a11 b12 : Int), [(2, h), (2, 0), (2, 1)] = [(2, v10), (2, a11), (2, b12)] ∧ (∀ (r13 : Int), ((r13 = 1 ∧ a11 ≤ v10 ∧ v10 ≤ b12) ∨ (r13 = 0 ∧ (v10 < a11 ∨ b12 < v10))) → ((r13 ≠ 0 → ([(3, 90)] = [(3, 90)] ∧ (yTy zpZ g) ∧ (0 ≤ g 90 22 ∧ g 90 22 ≤ 40) ∧ (0 ≤ g 90 6 ∧ g 90 6 ≤ 12) ∧ (∀ n : Nat, (n : Int) < g 90 22 → (0 ≤ g 104 n ∧ g 104 n ≤ 5) ∧ g 102 n ≤ 719) ∧ (∀ (g16 : yM), (yFd g g16) → (Y 49 [(3, 90), (1, s), (1, h), (1, 0), (1, (-2)), (1, 0), (0, 0), (0, 0)] [] g16)))) ∧ (¬ (r13 ≠ 0) → (K [(1, (-1))] g)))))))))))))))))
  refine ⟨fun h1 => ?_, fun h1 => ?_⟩
  · have q1 := yb_rng (fun x y => x / y) s 10
    have q2 := yb_rng (fun x y => x - x / y * y) s 10
    have q3 := yq10 hr_s
    exact hK _ _ (fun _ => ⟨rfl, rfl⟩) (fun h => absurd h (by omega))
  · refine ⟨(by have q1 := yb_rng (fun x y => x / y) s 10; have q2 := yb_rng (fun x y => x - x / y * y) s 10; have q3 := yq10 hr_s; omega), ?_⟩
    refine ⟨_, rfl, ?_⟩
    intro r3 p40
    refine ⟨fun h5 => ?_, fun h5 => ?_⟩
    · have q1 := yb_rng (fun x y => x / y) s 10
      have q2 := yb_rng (fun x y => x - x / y * y) s 10
      have q3 := yq10 hr_s
      exact hK _ _ (fun _ => ⟨rfl, rfl⟩) (fun h => absurd h (by omega))
    · refine ⟨(by have q1 := yb_rng (fun x y => x / y) s 10; have q2 := yb_rng (fun x y => x - x / y * y) s 10; have q3 := yq10 hr_s; omega), ?_⟩
      refine ⟨_, rfl, ?_⟩
      intro r7 p80
      refine ⟨fun h9 => ?_, fun h9 => ?_⟩
      · have q1 := yb_rng (fun x y => x / y) s 10
        have q2 := yb_rng (fun x y => x - x / y * y) s 10
        have q3 := yq10 hr_s
        exact hK _ _ (fun _ => ⟨rfl, rfl⟩) (fun h => absurd h (by omega))
      · refine ⟨_, _, _, rfl, ?_⟩
        intro r13 p140
        refine ⟨fun h15 => ?_, fun h15 => ?_⟩
        · refine ⟨rfl, (hp0), (by have q1 := yb_rng (fun x y => x / y) s 10; have q2 := yb_rng (fun x y => x - x / y * y) s 10; have q3 := yq10 hr_s; omega), (by have q1 := yb_rng (fun x y => x / y) s 10; have q2 := yb_rng (fun x y => x - x / y * y) s 10; have q3 := yq10 hr_s; omega), (hp3), ?_⟩
          intro g16 p170
          have q1 := yb_rng (fun x y => x / y) s 10
          have q2 := yb_rng (fun x y => x - x / y * y) s 10
          have q3 := yq10 hr_s
          have ok : (0 ≤ (yb (fun x y => x / y) s 10) ∧ (yb (fun x y => x / y) s 10) < 4 ∧ 0 ≤ (yb (fun x y => x - x / y * y) s 10) ∧ (yb (fun x y => x - x / y * y) s 10) < 4 ∧ 0 ≤ h ∧ h < 2) := by omega
          have s22 : g16 90 22 = g 90 22 := p170.2.1 90 22 (by decide) (by decide)
          have s6 : g16 90 6 = g 90 6 := p170.2.1 90 6 (by decide) (by decide)
          refine yl_MID hY ⟨by omega, by omega⟩ (by omega) (by omega) (fun n hn => ?_) (fun n hn => ?_) (fun r n f q1 q2 q3 => hK r _ (fun h => absurd ok h) (fun _ => ⟨p170, n, f, q1, q2, q3⟩)) (Int.toNat (g16 90 22)) 0 (by omega) (by decide) 0 (-2) _ _ ⟨rfl, rfl⟩
          · rw [p170.2.1 104 n (by decide) (by decide), p170.2.1 102 n (by decide) (by decide)]
            exact hp3 n (by omega)
          · rw [p170.2.1 102 n (by decide) (by decide)]
            exact hp4 n (by omega)
        · have q1 := yb_rng (fun x y => x / y) s 10
          have q2 := yb_rng (fun x y => x - x / y * y) s 10
          have q3 := yq10 hr_s
          exact hK _ _ (fun _ => ⟨rfl, rfl⟩) (fun h => absurd h (by omega))
theorem yM_MID {l : Launch} {Ts : List Cond} {cl : List vw_C} {RO : zRO} (H : zHyp Ts cl RO) : yMet l Ts cl zpZ RO zpMT yC_MID := ymet_of2 H.1 H.2.1 zpDj H.2.2.1 yRb H.p12 (ymets_cons (yM_IDY H) (ymets_cons (yM_IDO H) (ymets_cons (yM_WM H) (ymets_cons (yM_FS H) (ymets_cons (yM_AHO H) (ymets_cons (yM_LTO H) (ymets_cons (yM_IAW H) (ymets_cons (yM_WTS H) ymets_nil)))))))) (zrc1 rfl) (plainFor_of_name zpy12) zpDk162 (fun as g K Y h hA hY => by
  obtain ⟨s, h, rfl, hp0, hp1, hp2, hp3, hp4, hK⟩ := h
  exact yv_MID hY (yAr1 hA (by simp)) (yAr1 hA (by simp)) hp0 hp1 hp2 hp3 hp4 hK)
