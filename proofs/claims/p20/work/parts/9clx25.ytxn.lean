/-! TEXTS: THE TAPE BECOMES THE TEXT, REFERENCE -/
/-- a text is worked out: how it begins -/
def yWo (g : yM) (b n : Int) : yM := yset (yset (yset (yset (yset g 90 16 b) 90 17 0) 90 18 n) 90 19 (-1)) 90 20 0
def yXw (g m : yM) : Prop := ∀ a c : Nat, ¬ (a = 90 ∧ 16 ≤ c ∧ c ≤ 20) → m a c = g a c
theorem yXw.of {g m : yM} {b n : Int} (h : yXm (yWo g b n) m) : yXw g m := fun a c hn => by
  by_cases e : a = 90 ∧ (c = 17 ∨ c = 19 ∨ c = 20)
  · exact absurd ⟨e.1, by omega, by omega⟩ hn
  · rw [h a c e]
    unfold yWo
    rw [yset_ne (by omega), yset_ne (by omega), yset_ne (by omega), yset_ne (by omega), yset_ne (by omega)]
/-- behind a line -/
def yLw (M m : yM) (l : Int × Int) : Prop := yTy zpZ m ∧ yXm M m ∧ m 90 19 = l.1 ∧ (0 ≤ m 90 17 ∧ m 90 17 ≤ 60) ∧ (l.1 = -1 → m 90 17 = l.2 ∧ m 90 20 = 0)
theorem yLw.a {M m g2 : yM} {v : Int} (hm : yXm M m) (h : yMo 0 m g2 (yEit (yTq m) (yOn (yTq m) 6) (m 90 17)) v) (hn : 0 ≤ g2 90 19 ∨ yTq g2 (g2 90 17) ≠ 63) : yLw M g2 (yLi (yTq M) (m 90 17)) := by
  rw [hm.tq] at h
  obtain ⟨x1, x2, x3, x4, x5, x6⟩ := h
  have t2 : yTq g2 = yTq M := x2.tq.trans hm.tq
  by_cases e1 : (yEit (yTq M) (yOn (yTq M) 6) (m 90 17)).1 = -1
  · obtain ⟨e2, e3, -⟩ := x6 e1
    rw [t2, e2] at hn
    rw [yLi_b e1 (by omega)]
    exact ⟨x1, hm.tr x2, x3.trans e1, x4, fun _ => ⟨e2, e3⟩⟩
  · rw [yLi_a e1]
    exact ⟨x1, hm.tr x2, x3, x4, fun z => absurd z e1⟩
theorem yLw.b {M m g2 g5 : yM} {v w : Int} (hm : yXm M m) (h : yMo 0 m g2 (yEit (yTq m) (yOn (yTq m) 6) (m 90 17)) v) (e1 : (yEit (yTq m) (yOn (yTq m) 6) (m 90 17)).1 = -1) (h2 : yTq m (yEit (yTq m) (yOn (yTq m) 6) (m 90 17)).2.1 = 63) (h5 : yMo 0 (yset g2 90 17 (g2 90 17 + 1)) g5 (yEit (yTq g2) (yOn (yTq g2) 6) (g2 90 17 + 1)) w) : yLw M g5 (yLi (yTq M) (m 90 17)) := by
  rw [hm.tq] at h e1 h2
  obtain ⟨x1, x2, x3, x4, x5, x6⟩ := h
  have t2 : yTq g2 = yTq M := x2.tq.trans hm.tq
  have e2 := (x6 e1).1
  rw [t2, e2] at h5
  obtain ⟨y1, y2, y3, y4, y5, y6⟩ := h5
  rw [yLi_c e1 h2]
  exact ⟨y1, ((hm.tr x2).st (Or.inl rfl)).tr y2, y3, y4, fun z => ⟨(y6 z).1, (y6 z).2.1⟩⟩
theorem yLw.av {M m g2 : yM} {v : Int} (hm : yXm M m) (h : yMo 0 m g2 (yEit (yTq m) (yOn (yTq m) 6) (m 90 17)) v) (hn : 0 ≤ g2 90 19 ∨ yTq g2 (g2 90 17) ≠ 63) (e : (yLi (yTq M) (m 90 17)).1 = -1) : ¬ yTq M (yLA (yTq M) (m 90 17)).2.1 = 63 ∧ yEv (yN8 (M 100)) (yLA (yTq M) (m 90 17)).2.2 = v := by
  rw [hm.tq] at h
  obtain ⟨x1, x2, x3, x4, x5, x6⟩ := h
  have t2 : yTq g2 = yTq M := x2.tq.trans hm.tq
  have m100 : m 100 = M 100 := funext fun q => hm 100 q (by omega)
  by_cases e1 : (yEit (yTq M) (yOn (yTq M) 6) (m 90 17)).1 = -1
  · obtain ⟨e2, e3, e4⟩ := x6 e1
    rw [t2, e2] at hn
    rw [m100] at e4
    refine ⟨fun z => ?_, e4.ev⟩
    have z : yTq M (yEit (yTq M) (yOn (yTq M) 6) (m 90 17)).2.1 = 63 := z
    have := x3.trans e1
    omega
  · rw [yLi_a e1] at e
    exact absurd e e1
theorem yLw.bv {M m g2 g5 : yM} {v w : Int} (hm : yXm M m) (h : yMo 0 m g2 (yEit (yTq m) (yOn (yTq m) 6) (m 90 17)) v) (e1 : (yEit (yTq m) (yOn (yTq m) 6) (m 90 17)).1 = -1) (h2 : yTq m (yEit (yTq m) (yOn (yTq m) 6) (m 90 17)).2.1 = 63) (h5 : yMo 0 (yset g2 90 17 (g2 90 17 + 1)) g5 (yEit (yTq g2) (yOn (yTq g2) 6) (g2 90 17 + 1)) w) (e : (yLi (yTq M) (m 90 17)).1 = -1) : yTq M (yLA (yTq M) (m 90 17)).2.1 = 63 ∧ yEv (yN8 (M 100)) (yLA (yTq M) (m 90 17)).2.2 = v ∧ yEv (yN8 (M 100)) (yLB (yTq M) (m 90 17)).2.2 = w := by
  rw [hm.tq] at h e1 h2
  obtain ⟨x1, x2, x3, x4, x5, x6⟩ := h
  have t2 : yTq g2 = yTq M := x2.tq.trans hm.tq
  have m100 : m 100 = M 100 := funext fun q => hm 100 q (by omega)
  obtain ⟨e2, -, e4⟩ := x6 e1
  rw [m100] at e4
  have k100 : (yset g2 90 17 ((yEit (yTq M) (yOn (yTq M) 6) (m 90 17)).2.1 + 1)) 100 = M 100 := funext fun q => (yset_nc (by decide)).trans ((x2 100 q (by omega)).trans (hm 100 q (by omega)))
  rw [t2, e2] at h5
  obtain ⟨y1, y2, y3, y4, y5, y6⟩ := h5
  rw [yLi_c e1 h2] at e
  have y7 := (y6 e).2.2
  rw [k100] at y7
  exact ⟨h2, e4.ev, y7.ev⟩
theorem yTxE_n {e : Int} {l : Int × Int} (h : yTxE e l = -1) : l.1 = -1 := by
  unfold yTxE at h
  by_cases c : l.1 = -1
  · exact c
  · rw [if_neg c] at h
    exact h
theorem yTv_v {T : Int → Int} {N : Nat → Int} {p : Int} (h : ¬ (T (yLA T p).2.1 = 63 ∧ yEv N (yLA T p).2.2 = 0)) : ∀ k : Nat, yTv T N k p = yLv T N p
  | 0 => if_neg h
  | _ + 1 => if_neg h
theorem yTv_c {T : Int → Int} {N : Nat → Int} {p : Int} {k : Nat} (h : T (yLA T p).2.1 = 63 ∧ yEv N (yLA T p).2.2 = 0) (h2 : (yLi T p).1 = -1 ∧ T (yLi T p).2 = 59) : yTv T N (k + 1) p = yTv T N k ((yLi T p).2 + 1) := (if_pos h).trans (if_pos h2)
theorem yTv_n {T : Int → Int} {N : Nat → Int} {p : Int} (h : T (yLA T p).2.1 = 63 ∧ yEv N (yLA T p).2.2 = 0) (h2 : ¬ ((yLi T p).1 = -1 ∧ T (yLi T p).2 = 59)) : ∀ k : Nat, yTv T N k p = 0
  | 0 => if_pos h
  | _ + 1 => (if_pos h).trans (if_neg h2)
def yP_WOf : yPT := fun as g K => ∃ (b n : Int), as = [(3, 90), (1, b), (1, n)] ∧ (yTy zpZ g) ∧ (b = -1 ∨ b = 0) ∧ (0 ≤ n ∧ n ≤ 60) ∧ (∀ (r : Int) (g' : yM), (yTy zpZ g') → (yXw g g') → (g' 90 19 = yTxF (yTq (yWo g b n)) n) → (g' 90 19 = -1 → r = yTv (yTq (yWo g b n)) (yN8 (g 100)) 60 0) → K [(1, r)] g')
def yC_WOf : yC := (213, (68, 2257), yP_WOf)
set_option maxRecDepth 8000 in
theorem yt_WOf {K : List yV → yM → Prop} {Y : yNx} {M m : yM} {l : Int × Int} {b n gi gv : Int} {w6 w7 : yV} (hY : yCl zpD213 (zpZ, zpRS, zpP12, zpMT, [yC_mE6, yC_TK3, yC_WR], (68, 2257), 1) K Y) (hn : M 90 18 = n ∧ n ≤ 60) (hbs : M 90 16 = -1 ∨ M 90 16 = 0) (hw : yLw M m l) (hl : l.1 = -1 ∨ 0 ≤ l.1) (hK : ∀ (r : Int) (g' : yM), yTy zpZ g' → yXm M g' → g' 90 19 = yTxE n l → (g' 90 19 = -1 → r = gv) → K [(1, r)] g') : Y 33 [(3, 90), (1, b), (1, n), (1, gi), (1, gv), (1, 0), w6, w7] [] m := by
  obtain ⟨w1, w2, w3, w4, w5⟩ := id hw
  have e18 : m 90 18 = n := (w2 90 18 (by omega)).trans hn.1
  refine yrun_ok (sp := fun pc => false) hY 13 33 _ [] m ?_
  show (((0 : Int) = 0 → ((0 ≤ (m 90 19) → (K [(1, gv)] m)) ∧ (¬ (0 ≤ (m 90 19)) → (((m 90 18) ≤ (m 90 17) → (K [(1, gv)] m)) ∧ (¬ ((m 90 18) ≤ (m 90 17)) → ([(3, 90)] = [(3, 90)] ∧ (0 ≤ m 90 17 ∧ m 90 17 ≤ 60) ∧ (-1 ≤ m 90 19) ∧ (∀ (r4 : Int) (g5 : yM), (r4 = 0) → (m 90 19 = -1 → g5 = yset m 90 19 (m 90 17)) → (m 90 19 ≠ -1 → g5 = m) → (K [(1, r4)] g5)))))))) ∧ (¬ (0 : Int) = 0 → _))
  refine ⟨fun _ => ?_, fun h1 => absurd (by decide) h1⟩
  refine ⟨fun h2 => ?_, fun h2 => ?_⟩
  · refine hK _ _ w1 w2 ?_ (fun _ => rfl)
    unfold yTxE
    rw [if_neg (by omega)]
    exact w3
  · refine ⟨fun h3 => ?_, fun h3 => ?_⟩
    · have e2 := (w5 (by omega)).1
      refine hK _ _ w1 w2 ?_ (fun _ => rfl)
      unfold yTxE
      rw [if_pos (by omega), if_neg (by omega)]
      omega
    · refine ⟨rfl, (w4), (by omega), ?_⟩
      intro r4 g5 p60 p61 p62
      have e := p61 (by omega)
      subst e
      have e2 := (w5 (by omega)).1
      refine hK _ _ (w1.sO (List.mem_of_getElem? (i := 42) rfl) rfl (by decide +kernel) ⟨by omega, by omega⟩) (w2.st (Or.inr (Or.inl rfl))) ?_ (fun z => ?_)
      · rw [yset_eq]
        unfold yTxE
        rw [if_pos (by omega), if_pos (by omega)]
        exact e2
      · rw [yset_eq] at z
        omega
set_option maxRecDepth 8000 in
theorem yl_WOf {K : List yV → yM → Prop} {Y : yNx} {M : yM} {b n : Int} (hY : yCl zpD213 (zpZ, zpRS, zpP12, zpMT, [yC_mE6, yC_TK3, yC_WR], (68, 2257), 1) K Y) (hn : M 90 18 = n ∧ n ≤ 60) (hbs : M 90 16 = -1 ∨ M 90 16 = 0) : ∀ (k : Nat) (m : yM) (gi gv : Int) (w6 w7 : yV) (hp : yMq 0 m) (hf : yXm M m) (hgv : gi = 0 → gv = 0) (hb : 60 - m 90 17 ≤ k) (hK : ∀ (r : Int) (g' : yM), yTy zpZ g' → yXm M g' → g' 90 19 = yTxE n (yLs (yTq M) k (yLi (yTq M) (m 90 17))) → (g' 90 19 = -1 → r = if gi = 0 then yTv (yTq M) (yN8 (M 100)) k (m 90 17) else gv) → K [(1, r)] g'), Y 33 [(3, 90), (1, b), (1, n), (1, gi), (1, gv), (1, 1), w6, w7] [] m := by
  intro k
  induction k using Nat.strongRecOn with
  | ind k ih =>
    intro m gi gv w6 w7 hp hf hgv hb hK
    obtain ⟨hT0, hf0, hpl, hle, hbs0, hop⟩ := id hp
    have tm : yTq m = yTq M := hf.tq
    have tgm : yTg (yTq m) := yTq_tg hle
    have tgM : yTg (yTq M) := yTq_tg (by omega)
    have hA := yEit_gd tgm (yOn_gd tgm 6) (m 90 17) hpl.1 hpl.2
    have hl := yLi_g tgM hpl.1 hpl.2
    refine yrun_ok (sp := fun pc => Nat.beq pc 33) hY 36 33 _ [] m ?_
    show (((1 : Int) = 0 → _) ∧ (¬ (1 : Int) = 0 → ([(3, 90)] = [(3, 90)] ∧ (yMq 0 m) ∧ (∀ (r2 : Int) (g3 : yM), (yMo 0 m g3 (yEit (yTq m) (yOn (yTq m) 6) (m 90 17)) r2) → (∃ (c5 : Int), [(3, 90), (1, 63)] = [(3, 90), (1, c5)] ∧ (0 ≤ g3 90 17) ∧ (g3 90 18 ≤ 60) ∧ (g3 90 16 = -1 ∨ g3 90 16 = 0) ∧ (g3 90 17 ≤ 60) ∧ (1 ≤ c5) ∧ (∀ (r6 : Int) (g7 : yM), ((r6 = 1 ∧ g3 90 19 < 0 ∧ yTq g3 (g3 90 17) = c5 ∧ g7 = yset g3 90 17 (g3 90 17 + 1)) ∨ (r6 = 0 ∧ (0 ≤ g3 90 19 ∨ yTq g3 (g3 90 17) ≠ c5) ∧ g7 = g3)) → ((r6 = 0 → ((0 ≤ (g7 90 19) → (∃ (c11 : Int), [(3, 90), (1, 59)] = [(3, 90), (1, c11)] ∧ (0 ≤ g7 90 17) ∧ (g7 90 18 ≤ 60) ∧ (g7 90 16 = -1 ∨ g7 90 16 = 0) ∧ (g7 90 17 ≤ 60) ∧ (1 ≤ c11) ∧ (∀ (r12 : Int) (g13 : yM), ((r12 = 1 ∧ g7 90 19 < 0 ∧ yTq g7 (g7 90 17) = c11 ∧ g13 = yset g7 90 17 (g7 90 17 + 1)) ∨ (r12 = 0 ∧ (0 ≤ g7 90 19 ∨ yTq g7 (g7 90 17) ≠ c11) ∧ g13 = g7)) → (Y 33 [(3, 90), (1, b), (1, n), (1, gi), (1, gv), (1, r12), (1, r2), (1, 1)] [] g13)))) ∧ (¬ (0 ≤ (g7 90 19)) → (((1 : Int) = 0 → _) ∧ (¬ (1 : Int) = 0 → ((gi ≠ 0 → (∃ (c17 : Int), [(3, 90), (1, 59)] = [(3, 90), (1, c17)] ∧ (0 ≤ g7 90 17) ∧ (g7 90 18 ≤ 60) ∧ (g7 90 16 = -1 ∨ g7 90 16 = 0) ∧ (g7 90 17 ≤ 60) ∧ (1 ≤ c17) ∧ (∀ (r18 : Int) (g19 : yM), ((r18 = 1 ∧ g7 90 19 < 0 ∧ yTq g7 (g7 90 17) = c17 ∧ g19 = yset g7 90 17 (g7 90 17 + 1)) ∨ (r18 = 0 ∧ (0 ≤ g7 90 19 ∨ yTq g7 (g7 90 17) ≠ c17) ∧ g19 = g7)) → (Y 33 [(3, 90), (1, b), (1, n), (1, gi), (1, gv), (1, r18), (1, r2), (1, 1)] [] g19)))) ∧ (¬ (gi ≠ 0) → (∃ (c21 : Int), [(3, 90), (1, 59)] = [(3, 90), (1, c21)] ∧ (0 ≤ g7 90 17) ∧ (g7 90 18 ≤ 60) ∧ (g7 90 16 = -1 ∨ g7 90 16 = 0) ∧ (g7 90 17 ≤ 60) ∧ (1 ≤ c21) ∧ (∀ (r22 : Int) (g23 : yM), ((r22 = 1 ∧ g7 90 19 < 0 ∧ yTq g7 (g7 90 17) = c21 ∧ g23 = yset g7 90 17 (g7 90 17 + 1)) ∨ (r22 = 0 ∧ (0 ≤ g7 90 19 ∨ yTq g7 (g7 90 17) ≠ c21) ∧ g23 = g7)) → (Y 33 [(3, 90), (1, b), (1, n), (1, 1), (1, r2), (1, r22), (1, r2), (1, 1)] [] g23)))))))))) ∧ (¬ (r6 = 0) → ((r2 = 0 → ([(3, 90)] = [(3, 90)] ∧ (yMq 0 g7) ∧ (∀ (r26 : Int) (g27 : yM), (yMo 0 g7 g27 (yEit (yTq g7) (yOn (yTq g7) 6) (g7 90 17)) r26) → ((0 ≤ (g27 90 19) → (∃ (c30 : Int), [(3, 90), (1, 59)] = [(3, 90), (1, c30)] ∧ (0 ≤ g27 90 17) ∧ (g27 90 18 ≤ 60) ∧ (g27 90 16 = -1 ∨ g27 90 16 = 0) ∧ (g27 90 17 ≤ 60) ∧ (1 ≤ c30) ∧ (∀ (r31 : Int) (g32 : yM), ((r31 = 1 ∧ g27 90 19 < 0 ∧ yTq g27 (g27 90 17) = c30 ∧ g32 = yset g27 90 17 (g27 90 17 + 1)) ∨ (r31 = 0 ∧ (0 ≤ g27 90 19 ∨ yTq g27 (g27 90 17) ≠ c30) ∧ g32 = g27)) → (Y 33 [(3, 90), (1, b), (1, n), (1, gi), (1, gv), (1, r31), (1, r26), (1, 0)] [] g32)))) ∧ (¬ (0 ≤ (g27 90 19)) → (((0 : Int) = 0 → (∃ (c35 : Int), [(3, 90), (1, 59)] = [(3, 90), (1, c35)] ∧ (0 ≤ g27 90 17) ∧ (g27 90 18 ≤ 60) ∧ (g27 90 16 = -1 ∨ g27 90 16 = 0) ∧ (g27 90 17 ≤ 60) ∧ (1 ≤ c35) ∧ (∀ (r36 : Int) (g37 : yM), ((r36 = 1 ∧ g27 90 19 < 0 ∧ yTq g27 (g27 90 17) = c35 ∧ g37 = yset g27 90 17 (g27 90 17 + 1)) ∨ (r36 = 0 ∧ (0 ≤ g27 90 19 ∨ yTq g27 (g27 90 17) ≠ c35) ∧ g37 = g27)) → (Y 33 [(3, 90), (1, b), (1, n), (1, gi), (1, gv), (1, r36), (1, r26), (1, 0)] [] g37)))) ∧ (¬ (0 : Int) = 0 → _))))))) ∧ (¬ (r2 = 0) → ([(3, 90)] = [(3, 90)] ∧ (yMq 0 g7) ∧ (∀ (r39 : Int) (g40 : yM), (yMo 0 g7 g40 (yEit (yTq g7) (yOn (yTq g7) 6) (g7 90 17)) r39) → ((0 ≤ (g40 90 19) → (∃ (c43 : Int), [(3, 90), (1, 59)] = [(3, 90), (1, c43)] ∧ (0 ≤ g40 90 17) ∧ (g40 90 18 ≤ 60) ∧ (g40 90 16 = -1 ∨ g40 90 16 = 0) ∧ (g40 90 17 ≤ 60) ∧ (1 ≤ c43) ∧ (∀ (r44 : Int) (g45 : yM), ((r44 = 1 ∧ g40 90 19 < 0 ∧ yTq g40 (g40 90 17) = c43 ∧ g45 = yset g40 90 17 (g40 90 17 + 1)) ∨ (r44 = 0 ∧ (0 ≤ g40 90 19 ∨ yTq g40 (g40 90 17) ≠ c43) ∧ g45 = g40)) → (Y 33 [(3, 90), (1, b), (1, n), (1, gi), (1, gv), (1, r44), (1, r39), (1, 1)] [] g45)))) ∧ (¬ (0 ≤ (g40 90 19)) → (((1 : Int) = 0 → _) ∧ (¬ (1 : Int) = 0 → ((gi ≠ 0 → (∃ (c49 : Int), [(3, 90), (1, 59)] = [(3, 90), (1, c49)] ∧ (0 ≤ g40 90 17) ∧ (g40 90 18 ≤ 60) ∧ (g40 90 16 = -1 ∨ g40 90 16 = 0) ∧ (g40 90 17 ≤ 60) ∧ (1 ≤ c49) ∧ (∀ (r50 : Int) (g51 : yM), ((r50 = 1 ∧ g40 90 19 < 0 ∧ yTq g40 (g40 90 17) = c49 ∧ g51 = yset g40 90 17 (g40 90 17 + 1)) ∨ (r50 = 0 ∧ (0 ≤ g40 90 19 ∨ yTq g40 (g40 90 17) ≠ c49) ∧ g51 = g40)) → (Y 33 [(3, 90), (1, b), (1, n), (1, gi), (1, gv), (1, r50), (1, r39), (1, 1)] [] g51)))) ∧ (¬ (gi ≠ 0) → (∃ (c53 : Int), [(3, 90), (1, 59)] = [(3, 90), (1, c53)] ∧ (0 ≤ g40 90 17) ∧ (g40 90 18 ≤ 60) ∧ (g40 90 16 = -1 ∨ g40 90 16 = 0) ∧ (g40 90 17 ≤ 60) ∧ (1 ≤ c53) ∧ (∀ (r54 : Int) (g55 : yM), ((r54 = 1 ∧ g40 90 19 < 0 ∧ yTq g40 (g40 90 17) = c53 ∧ g55 = yset g40 90 17 (g40 90 17 + 1)) ∨ (r54 = 0 ∧ (0 ≤ g40 90 19 ∨ yTq g40 (g40 90 17) ≠ c53) ∧ g55 = g40)) → (Y 33 [(3, 90), (1, b), (1, n), (1, 1), (1, r39), (1, r54), (1, r39), (1, 1)] [] g55)))))))))))))))))))))
    refine ⟨fun h1 => absurd h1 (by decide), fun _ => ?_⟩
    refine ⟨rfl, (hp), ?_⟩
    intro r2 g3 p40
    obtain ⟨x1_p40, x2_p40, x3_p40, x4_p40, x5_p40, x6_p40⟩ := id p40
    refine ⟨_, rfl, (by
      have x4 := x4_p40
      have f18_p40 := x2_p40 90 18 (by omega)
      have f16_p40 := x2_p40 90 16 (by omega)
      omega), (by
      have x4 := x4_p40
      have f18_p40 := x2_p40 90 18 (by omega)
      have f16_p40 := x2_p40 90 16 (by omega)
      omega), (by
      have x4 := x4_p40
      have f18_p40 := x2_p40 90 18 (by omega)
      have f16_p40 := x2_p40 90 16 (by omega)
      omega), (by
      have x4 := x4_p40
      have f18_p40 := x2_p40 90 18 (by omega)
      have f16_p40 := x2_p40 90 16 (by omega)
      omega), (by
      have x4 := x4_p40
      have f18_p40 := x2_p40 90 18 (by omega)
      have f16_p40 := x2_p40 90 16 (by omega)
      omega), ?_⟩
    intro r6 g7 p80
    refine ⟨fun h9 => ?_, fun h9 => ?_⟩
    · obtain ⟨bp80, ep80⟩ : (0 ≤ g3 90 19 ∨ yTq g3 (g3 90 17) ≠ 63) ∧ g3 = g7 := by
        rcases p80 with ⟨z, -⟩ | ⟨-, z1, z2⟩
        · omega
        · exact ⟨z1, z2.symm⟩
      subst ep80
      refine ⟨fun h10 => ?_, fun h10 => ?_⟩
      · refine ⟨_, rfl, (by
      have x4 := x4_p40
      have f18_p40 := x2_p40 90 18 (by omega)
      have f16_p40 := x2_p40 90 16 (by omega)
      omega), (by
      have x4 := x4_p40
      have f18_p40 := x2_p40 90 18 (by omega)
      have f16_p40 := x2_p40 90 16 (by omega)
      omega), (by
      have x4 := x4_p40
      have f18_p40 := x2_p40 90 18 (by omega)
      have f16_p40 := x2_p40 90 16 (by omega)
      omega), (by
      have x4 := x4_p40
      have f18_p40 := x2_p40 90 18 (by omega)
      have f16_p40 := x2_p40 90 16 (by omega)
      omega), (by
      have x4 := x4_p40
      have f18_p40 := x2_p40 90 18 (by omega)
      have f16_p40 := x2_p40 90 16 (by omega)
      omega), ?_⟩
        intro r12 g13 p140
        have hw : yLw M g3 (yLi (yTq M) (m 90 17)) := yLw.a hf p40 bp80
        have hz := yLw.av hf p40 bp80
        obtain ⟨w1, w2, w3, w4, w5⟩ := id hw
        have hv : (yLi (yTq M) (m 90 17)).1 = -1 → gi = 0 → yTq M (yLA (yTq M) (m 90 17)).2.1 = 63 ∧ yEv (yN8 (M 100)) (yLA (yTq M) (m 90 17)).2.2 = 0 := fun q1 gz => by
          have := w3.trans q1
          omega
        rcases p140 with ⟨z0, z1, z2, z3⟩ | ⟨z0, z1, z2⟩
        · have q1 : (yLi (yTq M) (m 90 17)).1 = -1 := by have := hl.2; omega
          obtain ⟨q2, q3⟩ := w5 q1
          rw [w2.tq, q2] at z2
          have q4 := hl.1 q1
          have q5 := tgM (yLi (yTq M) (m 90 17)).2 (by omega) (by omega)
          have f18 : g3 90 18 = n := (w2 90 18 (by omega)).trans hn.1
          have f16 : g3 90 16 = M 90 16 := w2 90 16 (by omega)
          have pe : yMq 0 (yset g3 90 17 (g3 90 17 + 1)) := ⟨w1.sO (List.mem_of_getElem? (i := 42) rfl) rfl (by decide +kernel) ⟨by omega, by omega⟩, by rw [yset_nj (by decide), w3]; exact q1, by rw [yset_eq]; omega, by rw [yset_nj (by decide)]; omega, by rw [yset_nj (by decide), f16]; exact hbs, by rw [yset_nj (by decide)]; exact q3⟩
          obtain ⟨j, rfl⟩ : ∃ j : Nat, k = j + 1 := ⟨k - 1, by omega⟩
          rw [yLs_1 ⟨q1, z2⟩] at hK
          rw [z0, z3]
          refine ih j (Nat.lt_succ_self j) _ _ _ _ _ pe (w2.st (Or.inl rfl)) hgv (by rw [yset_eq]; omega) (fun r g' p1 p2 p3 p4 => hK r g' p1 p2 ?_ (fun z => ?_))
          · rw [yset_eq, q2] at p3
            exact p3
          · skip
            have p5 := p4 z
            rw [yset_eq, q2] at p5
            by_cases gz : gi = 0
            · rw [if_pos gz] at p5 ⊢
              rw [yTv_c (hv q1 gz) ⟨q1, z2⟩]
              exact p5
            · rw [if_neg gz] at p5 ⊢
              exact p5
        · have cn : ¬ ((yLi (yTq M) (m 90 17)).1 = -1 ∧ yTq M (yLi (yTq M) (m 90 17)).2 = 59) := fun ⟨q1, q2⟩ => by
            have e2 := (w5 q1).1
            rw [w2.tq, e2] at z1
            omega
          rw [yLs_0 cn] at hK
          rw [z0, z2]
          refine yt_WOf hY hn hbs hw (by have := hl.2; omega) (fun r g' p1 p2 p3 p4 => hK r g' p1 p2 p3 (fun z => ?_))
          have q1 := yTxE_n (p3.symm.trans z)
          have p5 := p4 z
          by_cases gz : gi = 0
          · rw [if_pos gz, yTv_n (hv q1 gz) cn]
            exact p5.trans (hgv gz)
          · rw [if_neg gz]
            exact p5
      · refine ⟨fun h15 => absurd h15 (by decide), fun _ => ?_⟩
        refine ⟨fun h16 => ?_, fun h16 => ?_⟩
        · refine ⟨_, rfl, (by
      have x4 := x4_p40
      have f18_p40 := x2_p40 90 18 (by omega)
      have f16_p40 := x2_p40 90 16 (by omega)
      omega), (by
      have x4 := x4_p40
      have f18_p40 := x2_p40 90 18 (by omega)
      have f16_p40 := x2_p40 90 16 (by omega)
      omega), (by
      have x4 := x4_p40
      have f18_p40 := x2_p40 90 18 (by omega)
      have f16_p40 := x2_p40 90 16 (by omega)
      omega), (by
      have x4 := x4_p40
      have f18_p40 := x2_p40 90 18 (by omega)
      have f16_p40 := x2_p40 90 16 (by omega)
      omega), (by
      have x4 := x4_p40
      have f18_p40 := x2_p40 90 18 (by omega)
      have f16_p40 := x2_p40 90 16 (by omega)
      omega), ?_⟩
          intro r18 g19 p200
          have hw : yLw M g3 (yLi (yTq M) (m 90 17)) := yLw.a hf p40 bp80
          have hz := yLw.av hf p40 bp80
          obtain ⟨w1, w2, w3, w4, w5⟩ := id hw
          have hv : (yLi (yTq M) (m 90 17)).1 = -1 → gi = 0 → yTq M (yLA (yTq M) (m 90 17)).2.1 = 63 ∧ yEv (yN8 (M 100)) (yLA (yTq M) (m 90 17)).2.2 = 0 := fun q1 gz => by
            have := w3.trans q1
            omega
          rcases p200 with ⟨z0, z1, z2, z3⟩ | ⟨z0, z1, z2⟩
          · have q1 : (yLi (yTq M) (m 90 17)).1 = -1 := by have := hl.2; omega
            obtain ⟨q2, q3⟩ := w5 q1
            rw [w2.tq, q2] at z2
            have q4 := hl.1 q1
            have q5 := tgM (yLi (yTq M) (m 90 17)).2 (by omega) (by omega)
            have f18 : g3 90 18 = n := (w2 90 18 (by omega)).trans hn.1
            have f16 : g3 90 16 = M 90 16 := w2 90 16 (by omega)
            have pe : yMq 0 (yset g3 90 17 (g3 90 17 + 1)) := ⟨w1.sO (List.mem_of_getElem? (i := 42) rfl) rfl (by decide +kernel) ⟨by omega, by omega⟩, by rw [yset_nj (by decide), w3]; exact q1, by rw [yset_eq]; omega, by rw [yset_nj (by decide)]; omega, by rw [yset_nj (by decide), f16]; exact hbs, by rw [yset_nj (by decide)]; exact q3⟩
            obtain ⟨j, rfl⟩ : ∃ j : Nat, k = j + 1 := ⟨k - 1, by omega⟩
            rw [yLs_1 ⟨q1, z2⟩] at hK
            rw [z0, z3]
            refine ih j (Nat.lt_succ_self j) _ _ _ _ _ pe (w2.st (Or.inl rfl)) hgv (by rw [yset_eq]; omega) (fun r g' p1 p2 p3 p4 => hK r g' p1 p2 ?_ (fun z => ?_))
            · rw [yset_eq, q2] at p3
              exact p3
            · skip
              have p5 := p4 z
              rw [yset_eq, q2] at p5
              by_cases gz : gi = 0
              · rw [if_pos gz] at p5 ⊢
                rw [yTv_c (hv q1 gz) ⟨q1, z2⟩]
                exact p5
              · rw [if_neg gz] at p5 ⊢
                exact p5
          · have cn : ¬ ((yLi (yTq M) (m 90 17)).1 = -1 ∧ yTq M (yLi (yTq M) (m 90 17)).2 = 59) := fun ⟨q1, q2⟩ => by
              have e2 := (w5 q1).1
              rw [w2.tq, e2] at z1
              omega
            rw [yLs_0 cn] at hK
            rw [z0, z2]
            refine yt_WOf hY hn hbs hw (by have := hl.2; omega) (fun r g' p1 p2 p3 p4 => hK r g' p1 p2 p3 (fun z => ?_))
            have q1 := yTxE_n (p3.symm.trans z)
            have p5 := p4 z
            by_cases gz : gi = 0
            · rw [if_pos gz, yTv_n (hv q1 gz) cn]
              exact p5.trans (hgv gz)
            · rw [if_neg gz]
              exact p5
        · refine ⟨_, rfl, (by
      have x4 := x4_p40
      have f18_p40 := x2_p40 90 18 (by omega)
      have f16_p40 := x2_p40 90 16 (by omega)
      omega), (by
      have x4 := x4_p40
      have f18_p40 := x2_p40 90 18 (by omega)
      have f16_p40 := x2_p40 90 16 (by omega)
      omega), (by
      have x4 := x4_p40
      have f18_p40 := x2_p40 90 18 (by omega)
      have f16_p40 := x2_p40 90 16 (by omega)
      omega), (by
      have x4 := x4_p40
      have f18_p40 := x2_p40 90 18 (by omega)
      have f16_p40 := x2_p40 90 16 (by omega)
      omega), (by
      have x4 := x4_p40
      have f18_p40 := x2_p40 90 18 (by omega)
      have f16_p40 := x2_p40 90 16 (by omega)
      omega), ?_⟩
          intro r22 g23 p240
          have hw : yLw M g3 (yLi (yTq M) (m 90 17)) := yLw.a hf p40 bp80
          have hz := yLw.av hf p40 bp80
          obtain ⟨w1, w2, w3, w4, w5⟩ := id hw
          have hv : (yLi (yTq M) (m 90 17)).1 = -1 → ∀ k : Nat, yTv (yTq M) (yN8 (M 100)) k (m 90 17) = r2 := fun q1 k => by
            obtain ⟨z1, z2⟩ := hz q1
            rw [yTv_v (fun z => z1 z.1) k]
            exact (if_neg z1).trans z2
          rcases p240 with ⟨z0, z1, z2, z3⟩ | ⟨z0, z1, z2⟩
          · have q1 : (yLi (yTq M) (m 90 17)).1 = -1 := by have := hl.2; omega
            obtain ⟨q2, q3⟩ := w5 q1
            rw [w2.tq, q2] at z2
            have q4 := hl.1 q1
            have q5 := tgM (yLi (yTq M) (m 90 17)).2 (by omega) (by omega)
            have f18 : g3 90 18 = n := (w2 90 18 (by omega)).trans hn.1
            have f16 : g3 90 16 = M 90 16 := w2 90 16 (by omega)
            have pe : yMq 0 (yset g3 90 17 (g3 90 17 + 1)) := ⟨w1.sO (List.mem_of_getElem? (i := 42) rfl) rfl (by decide +kernel) ⟨by omega, by omega⟩, by rw [yset_nj (by decide), w3]; exact q1, by rw [yset_eq]; omega, by rw [yset_nj (by decide)]; omega, by rw [yset_nj (by decide), f16]; exact hbs, by rw [yset_nj (by decide)]; exact q3⟩
            obtain ⟨j, rfl⟩ : ∃ j : Nat, k = j + 1 := ⟨k - 1, by omega⟩
            rw [yLs_1 ⟨q1, z2⟩] at hK
            rw [z0, z3]
            refine ih j (Nat.lt_succ_self j) _ _ _ _ _ pe (w2.st (Or.inl rfl)) (fun z => absurd z (by decide)) (by rw [yset_eq]; omega) (fun r g' p1 p2 p3 p4 => hK r g' p1 p2 ?_ (fun z => ?_))
            · rw [yset_eq, q2] at p3
              exact p3
            · skip
              have p5 := p4 z
              rw [if_neg (by decide)] at p5
              rw [if_pos (by omega), hv q1]
              exact p5
          · have cn : ¬ ((yLi (yTq M) (m 90 17)).1 = -1 ∧ yTq M (yLi (yTq M) (m 90 17)).2 = 59) := fun ⟨q1, q2⟩ => by
              have e2 := (w5 q1).1
              rw [w2.tq, e2] at z1
              omega
            rw [yLs_0 cn] at hK
            rw [z0, z2]
            refine yt_WOf hY hn hbs hw (by have := hl.2; omega) (fun r g' p1 p2 p3 p4 => hK r g' p1 p2 p3 (fun z => ?_))
            have q1 := yTxE_n (p3.symm.trans z)
            rw [if_pos (by omega), hv q1]
            exact p4 z
    · obtain ⟨ap80, bp80, ep80⟩ : g3 90 19 < 0 ∧ yTq g3 (g3 90 17) = 63 ∧ g7 = (yset g3 90 17 (g3 90 17 + 1)) := by
        rcases p80 with ⟨-, z⟩ | ⟨z, -⟩
        · exact z
        · omega
      subst ep80
      refine ⟨fun h25 => ?_, fun h25 => ?_⟩
      · refine ⟨rfl, (by
      have e1 : (yEit (yTq m) (yOn (yTq m) 6) (m 90 17)).1 = -1 := by have := x3_p40; have := ap80; have := hA.2; omega
      have e2 := (x6_p40 e1).1
      have b2 := bp80
      rw [x2_p40.tq, e2] at b2
      have e3 := hA.1 e1
      have h60 := tgm (yEit (yTq m) (yOn (yTq m) 6) (m 90 17)).2.1 (by omega) (by omega)
      exact yMo.pe hp p40 e1 h60), ?_⟩
        intro r26 g27 p280
        rw [show yTq (yset g3 90 17 (g3 90 17 + 1)) = yTq g3 from (yXm.st (fun _ _ _ => rfl) (Or.inl rfl)).tq, yset_eq] at p280
        obtain ⟨x1_p280, x2_p280, x3_p280, x4_p280, x5_p280, x6_p280⟩ := id p280
        refine ⟨fun h29 => ?_, fun h29 => ?_⟩
        · refine ⟨_, rfl, (by
      have x4 := x4_p280
      have f18_p40 := x2_p40 90 18 (by omega)
      have f16_p40 := x2_p40 90 16 (by omega)
      have f18_p280 := x2_p280 90 18 (by omega)
      have f16_p280 := x2_p280 90 16 (by omega)
      rw [yset_nj (by decide)] at f18_p280 f16_p280
      omega), (by
      have x4 := x4_p280
      have f18_p40 := x2_p40 90 18 (by omega)
      have f16_p40 := x2_p40 90 16 (by omega)
      have f18_p280 := x2_p280 90 18 (by omega)
      have f16_p280 := x2_p280 90 16 (by omega)
      rw [yset_nj (by decide)] at f18_p280 f16_p280
      omega), (by
      have x4 := x4_p280
      have f18_p40 := x2_p40 90 18 (by omega)
      have f16_p40 := x2_p40 90 16 (by omega)
      have f18_p280 := x2_p280 90 18 (by omega)
      have f16_p280 := x2_p280 90 16 (by omega)
      rw [yset_nj (by decide)] at f18_p280 f16_p280
      omega), (by
      have x4 := x4_p280
      have f18_p40 := x2_p40 90 18 (by omega)
      have f16_p40 := x2_p40 90 16 (by omega)
      have f18_p280 := x2_p280 90 18 (by omega)
      have f16_p280 := x2_p280 90 16 (by omega)
      rw [yset_nj (by decide)] at f18_p280 f16_p280
      omega), (by
      have x4 := x4_p280
      have f18_p40 := x2_p40 90 18 (by omega)
      have f16_p40 := x2_p40 90 16 (by omega)
      have f18_p280 := x2_p280 90 18 (by omega)
      have f16_p280 := x2_p280 90 16 (by omega)
      rw [yset_nj (by decide)] at f18_p280 f16_p280
      omega), ?_⟩
          intro r31 g32 p330
          have e1 : (yEit (yTq m) (yOn (yTq m) 6) (m 90 17)).1 = -1 := by have := x3_p40; have := ap80; have := hA.2; omega
          have e2 := (x6_p40 e1).1
          have b2 := bp80
          rw [x2_p40.tq, e2] at b2
          have e3 := hA.1 e1
          have h60 := tgm (yEit (yTq m) (yOn (yTq m) 6) (m 90 17)).2.1 (by omega) (by omega)
          have hw : yLw M g27 (yLi (yTq M) (m 90 17)) := yLw.b hf p40 e1 b2 p280
          have hz := yLw.bv hf p40 e1 b2 p280
          obtain ⟨w1, w2, w3, w4, w5⟩ := id hw
          have hv : (yLi (yTq M) (m 90 17)).1 = -1 → gi = 0 → yTq M (yLA (yTq M) (m 90 17)).2.1 = 63 ∧ yEv (yN8 (M 100)) (yLA (yTq M) (m 90 17)).2.2 = 0 := fun q1 gz => by
            obtain ⟨z1, z2, z3⟩ := hz q1
            have := w3.trans q1
            exact ⟨z1, z2.trans (by omega)⟩
          rcases p330 with ⟨z0, z1, z2, z3⟩ | ⟨z0, z1, z2⟩
          · have q1 : (yLi (yTq M) (m 90 17)).1 = -1 := by have := hl.2; omega
            obtain ⟨q2, q3⟩ := w5 q1
            rw [w2.tq, q2] at z2
            have q4 := hl.1 q1
            have q5 := tgM (yLi (yTq M) (m 90 17)).2 (by omega) (by omega)
            have f18 : g27 90 18 = n := (w2 90 18 (by omega)).trans hn.1
            have f16 : g27 90 16 = M 90 16 := w2 90 16 (by omega)
            have pe : yMq 0 (yset g27 90 17 (g27 90 17 + 1)) := ⟨w1.sO (List.mem_of_getElem? (i := 42) rfl) rfl (by decide +kernel) ⟨by omega, by omega⟩, by rw [yset_nj (by decide), w3]; exact q1, by rw [yset_eq]; omega, by rw [yset_nj (by decide)]; omega, by rw [yset_nj (by decide), f16]; exact hbs, by rw [yset_nj (by decide)]; exact q3⟩
            obtain ⟨j, rfl⟩ : ∃ j : Nat, k = j + 1 := ⟨k - 1, by omega⟩
            rw [yLs_1 ⟨q1, z2⟩] at hK
            rw [z0, z3]
            refine ih j (Nat.lt_succ_self j) _ _ _ _ _ pe (w2.st (Or.inl rfl)) hgv (by rw [yset_eq]; omega) (fun r g' p1 p2 p3 p4 => hK r g' p1 p2 ?_ (fun z => ?_))
            · rw [yset_eq, q2] at p3
              exact p3
            · skip
              have p5 := p4 z
              rw [yset_eq, q2] at p5
              by_cases gz : gi = 0
              · rw [if_pos gz] at p5 ⊢
                rw [yTv_c (hv q1 gz) ⟨q1, z2⟩]
                exact p5
              · rw [if_neg gz] at p5 ⊢
                exact p5
          · have cn : ¬ ((yLi (yTq M) (m 90 17)).1 = -1 ∧ yTq M (yLi (yTq M) (m 90 17)).2 = 59) := fun ⟨q1, q2⟩ => by
              have e2 := (w5 q1).1
              rw [w2.tq, e2] at z1
              omega
            rw [yLs_0 cn] at hK
            rw [z0, z2]
            refine yt_WOf hY hn hbs hw (by have := hl.2; omega) (fun r g' p1 p2 p3 p4 => hK r g' p1 p2 p3 (fun z => ?_))
            have q1 := yTxE_n (p3.symm.trans z)
            have p5 := p4 z
            by_cases gz : gi = 0
            · rw [if_pos gz, yTv_n (hv q1 gz) cn]
              exact p5.trans (hgv gz)
            · rw [if_neg gz]
              exact p5
        · refine ⟨fun _ => ?_, fun h34 => absurd (by decide) h34⟩
          refine ⟨_, rfl, (by
      have x4 := x4_p280
      have f18_p40 := x2_p40 90 18 (by omega)
      have f16_p40 := x2_p40 90 16 (by omega)
      have f18_p280 := x2_p280 90 18 (by omega)
      have f16_p280 := x2_p280 90 16 (by omega)
      rw [yset_nj (by decide)] at f18_p280 f16_p280
      omega), (by
      have x4 := x4_p280
      have f18_p40 := x2_p40 90 18 (by omega)
      have f16_p40 := x2_p40 90 16 (by omega)
      have f18_p280 := x2_p280 90 18 (by omega)
      have f16_p280 := x2_p280 90 16 (by omega)
      rw [yset_nj (by decide)] at f18_p280 f16_p280
      omega), (by
      have x4 := x4_p280
      have f18_p40 := x2_p40 90 18 (by omega)
      have f16_p40 := x2_p40 90 16 (by omega)
      have f18_p280 := x2_p280 90 18 (by omega)
      have f16_p280 := x2_p280 90 16 (by omega)
      rw [yset_nj (by decide)] at f18_p280 f16_p280
      omega), (by
      have x4 := x4_p280
      have f18_p40 := x2_p40 90 18 (by omega)
      have f16_p40 := x2_p40 90 16 (by omega)
      have f18_p280 := x2_p280 90 18 (by omega)
      have f16_p280 := x2_p280 90 16 (by omega)
      rw [yset_nj (by decide)] at f18_p280 f16_p280
      omega), (by
      have x4 := x4_p280
      have f18_p40 := x2_p40 90 18 (by omega)
      have f16_p40 := x2_p40 90 16 (by omega)
      have f18_p280 := x2_p280 90 18 (by omega)
      have f16_p280 := x2_p280 90 16 (by omega)
      rw [yset_nj (by decide)] at f18_p280 f16_p280
      omega), ?_⟩
          intro r36 g37 p380
          have e1 : (yEit (yTq m) (yOn (yTq m) 6) (m 90 17)).1 = -1 := by have := x3_p40; have := ap80; have := hA.2; omega
          have e2 := (x6_p40 e1).1
          have b2 := bp80
          rw [x2_p40.tq, e2] at b2
          have e3 := hA.1 e1
          have h60 := tgm (yEit (yTq m) (yOn (yTq m) 6) (m 90 17)).2.1 (by omega) (by omega)
          have hw : yLw M g27 (yLi (yTq M) (m 90 17)) := yLw.b hf p40 e1 b2 p280
          have hz := yLw.bv hf p40 e1 b2 p280
          obtain ⟨w1, w2, w3, w4, w5⟩ := id hw
          have hv : (yLi (yTq M) (m 90 17)).1 = -1 → gi = 0 → yTq M (yLA (yTq M) (m 90 17)).2.1 = 63 ∧ yEv (yN8 (M 100)) (yLA (yTq M) (m 90 17)).2.2 = 0 := fun q1 gz => by
            obtain ⟨z1, z2, z3⟩ := hz q1
            have := w3.trans q1
            exact ⟨z1, z2.trans (by omega)⟩
          rcases p380 with ⟨z0, z1, z2, z3⟩ | ⟨z0, z1, z2⟩
          · have q1 : (yLi (yTq M) (m 90 17)).1 = -1 := by have := hl.2; omega
            obtain ⟨q2, q3⟩ := w5 q1
            rw [w2.tq, q2] at z2
            have q4 := hl.1 q1
            have q5 := tgM (yLi (yTq M) (m 90 17)).2 (by omega) (by omega)
            have f18 : g27 90 18 = n := (w2 90 18 (by omega)).trans hn.1
            have f16 : g27 90 16 = M 90 16 := w2 90 16 (by omega)
            have pe : yMq 0 (yset g27 90 17 (g27 90 17 + 1)) := ⟨w1.sO (List.mem_of_getElem? (i := 42) rfl) rfl (by decide +kernel) ⟨by omega, by omega⟩, by rw [yset_nj (by decide), w3]; exact q1, by rw [yset_eq]; omega, by rw [yset_nj (by decide)]; omega, by rw [yset_nj (by decide), f16]; exact hbs, by rw [yset_nj (by decide)]; exact q3⟩
            obtain ⟨j, rfl⟩ : ∃ j : Nat, k = j + 1 := ⟨k - 1, by omega⟩
            rw [yLs_1 ⟨q1, z2⟩] at hK
            rw [z0, z3]
            refine ih j (Nat.lt_succ_self j) _ _ _ _ _ pe (w2.st (Or.inl rfl)) hgv (by rw [yset_eq]; omega) (fun r g' p1 p2 p3 p4 => hK r g' p1 p2 ?_ (fun z => ?_))
            · rw [yset_eq, q2] at p3
              exact p3
            · skip
              have p5 := p4 z
              rw [yset_eq, q2] at p5
              by_cases gz : gi = 0
              · rw [if_pos gz] at p5 ⊢
                rw [yTv_c (hv q1 gz) ⟨q1, z2⟩]
                exact p5
              · rw [if_neg gz] at p5 ⊢
                exact p5
          · have cn : ¬ ((yLi (yTq M) (m 90 17)).1 = -1 ∧ yTq M (yLi (yTq M) (m 90 17)).2 = 59) := fun ⟨q1, q2⟩ => by
              have e2 := (w5 q1).1
              rw [w2.tq, e2] at z1
              omega
            rw [yLs_0 cn] at hK
            rw [z0, z2]
            refine yt_WOf hY hn hbs hw (by have := hl.2; omega) (fun r g' p1 p2 p3 p4 => hK r g' p1 p2 p3 (fun z => ?_))
            have q1 := yTxE_n (p3.symm.trans z)
            have p5 := p4 z
            by_cases gz : gi = 0
            · rw [if_pos gz, yTv_n (hv q1 gz) cn]
              exact p5.trans (hgv gz)
            · rw [if_neg gz]
              exact p5
      · refine ⟨rfl, (by
      have e1 : (yEit (yTq m) (yOn (yTq m) 6) (m 90 17)).1 = -1 := by have := x3_p40; have := ap80; have := hA.2; omega
      have e2 := (x6_p40 e1).1
      have b2 := bp80
      rw [x2_p40.tq, e2] at b2
      have e3 := hA.1 e1
      have h60 := tgm (yEit (yTq m) (yOn (yTq m) 6) (m 90 17)).2.1 (by omega) (by omega)
      exact yMo.pe hp p40 e1 h60), ?_⟩
        intro r39 g40 p410
        rw [show yTq (yset g3 90 17 (g3 90 17 + 1)) = yTq g3 from (yXm.st (fun _ _ _ => rfl) (Or.inl rfl)).tq, yset_eq] at p410
        obtain ⟨x1_p410, x2_p410, x3_p410, x4_p410, x5_p410, x6_p410⟩ := id p410
        refine ⟨fun h42 => ?_, fun h42 => ?_⟩
        · refine ⟨_, rfl, (by
      have x4 := x4_p410
      have f18_p40 := x2_p40 90 18 (by omega)
      have f16_p40 := x2_p40 90 16 (by omega)
      have f18_p410 := x2_p410 90 18 (by omega)
      have f16_p410 := x2_p410 90 16 (by omega)
      rw [yset_nj (by decide)] at f18_p410 f16_p410
      omega), (by
      have x4 := x4_p410
      have f18_p40 := x2_p40 90 18 (by omega)
      have f16_p40 := x2_p40 90 16 (by omega)
      have f18_p410 := x2_p410 90 18 (by omega)
      have f16_p410 := x2_p410 90 16 (by omega)
      rw [yset_nj (by decide)] at f18_p410 f16_p410
      omega), (by
      have x4 := x4_p410
      have f18_p40 := x2_p40 90 18 (by omega)
      have f16_p40 := x2_p40 90 16 (by omega)
      have f18_p410 := x2_p410 90 18 (by omega)
      have f16_p410 := x2_p410 90 16 (by omega)
      rw [yset_nj (by decide)] at f18_p410 f16_p410
      omega), (by
      have x4 := x4_p410
      have f18_p40 := x2_p40 90 18 (by omega)
      have f16_p40 := x2_p40 90 16 (by omega)
      have f18_p410 := x2_p410 90 18 (by omega)
      have f16_p410 := x2_p410 90 16 (by omega)
      rw [yset_nj (by decide)] at f18_p410 f16_p410
      omega), (by
      have x4 := x4_p410
      have f18_p40 := x2_p40 90 18 (by omega)
      have f16_p40 := x2_p40 90 16 (by omega)
      have f18_p410 := x2_p410 90 18 (by omega)
      have f16_p410 := x2_p410 90 16 (by omega)
      rw [yset_nj (by decide)] at f18_p410 f16_p410
      omega), ?_⟩
          intro r44 g45 p460
          have e1 : (yEit (yTq m) (yOn (yTq m) 6) (m 90 17)).1 = -1 := by have := x3_p40; have := ap80; have := hA.2; omega
          have e2 := (x6_p40 e1).1
          have b2 := bp80
          rw [x2_p40.tq, e2] at b2
          have e3 := hA.1 e1
          have h60 := tgm (yEit (yTq m) (yOn (yTq m) 6) (m 90 17)).2.1 (by omega) (by omega)
          have hw : yLw M g40 (yLi (yTq M) (m 90 17)) := yLw.b hf p40 e1 b2 p410
          have hz := yLw.bv hf p40 e1 b2 p410
          obtain ⟨w1, w2, w3, w4, w5⟩ := id hw
          have hv : (yLi (yTq M) (m 90 17)).1 = -1 → gi = 0 → yTq M (yLA (yTq M) (m 90 17)).2.1 = 63 ∧ yEv (yN8 (M 100)) (yLA (yTq M) (m 90 17)).2.2 = 0 := fun q1 gz => by
            obtain ⟨z1, z2, z3⟩ := hz q1
            have := w3.trans q1
            exact ⟨z1, z2.trans (by omega)⟩
          rcases p460 with ⟨z0, z1, z2, z3⟩ | ⟨z0, z1, z2⟩
          · have q1 : (yLi (yTq M) (m 90 17)).1 = -1 := by have := hl.2; omega
            obtain ⟨q2, q3⟩ := w5 q1
            rw [w2.tq, q2] at z2
            have q4 := hl.1 q1
            have q5 := tgM (yLi (yTq M) (m 90 17)).2 (by omega) (by omega)
            have f18 : g40 90 18 = n := (w2 90 18 (by omega)).trans hn.1
            have f16 : g40 90 16 = M 90 16 := w2 90 16 (by omega)
            have pe : yMq 0 (yset g40 90 17 (g40 90 17 + 1)) := ⟨w1.sO (List.mem_of_getElem? (i := 42) rfl) rfl (by decide +kernel) ⟨by omega, by omega⟩, by rw [yset_nj (by decide), w3]; exact q1, by rw [yset_eq]; omega, by rw [yset_nj (by decide)]; omega, by rw [yset_nj (by decide), f16]; exact hbs, by rw [yset_nj (by decide)]; exact q3⟩
            obtain ⟨j, rfl⟩ : ∃ j : Nat, k = j + 1 := ⟨k - 1, by omega⟩
            rw [yLs_1 ⟨q1, z2⟩] at hK
            rw [z0, z3]
            refine ih j (Nat.lt_succ_self j) _ _ _ _ _ pe (w2.st (Or.inl rfl)) hgv (by rw [yset_eq]; omega) (fun r g' p1 p2 p3 p4 => hK r g' p1 p2 ?_ (fun z => ?_))
            · rw [yset_eq, q2] at p3
              exact p3
            · skip
              have p5 := p4 z
              rw [yset_eq, q2] at p5
              by_cases gz : gi = 0
              · rw [if_pos gz] at p5 ⊢
                rw [yTv_c (hv q1 gz) ⟨q1, z2⟩]
                exact p5
              · rw [if_neg gz] at p5 ⊢
                exact p5
          · have cn : ¬ ((yLi (yTq M) (m 90 17)).1 = -1 ∧ yTq M (yLi (yTq M) (m 90 17)).2 = 59) := fun ⟨q1, q2⟩ => by
              have e2 := (w5 q1).1
              rw [w2.tq, e2] at z1
              omega
            rw [yLs_0 cn] at hK
            rw [z0, z2]
            refine yt_WOf hY hn hbs hw (by have := hl.2; omega) (fun r g' p1 p2 p3 p4 => hK r g' p1 p2 p3 (fun z => ?_))
            have q1 := yTxE_n (p3.symm.trans z)
            have p5 := p4 z
            by_cases gz : gi = 0
            · rw [if_pos gz, yTv_n (hv q1 gz) cn]
              exact p5.trans (hgv gz)
            · rw [if_neg gz]
              exact p5
        · refine ⟨fun h47 => absurd h47 (by decide), fun _ => ?_⟩
          refine ⟨fun h48 => ?_, fun h48 => ?_⟩
          · refine ⟨_, rfl, (by
      have x4 := x4_p410
      have f18_p40 := x2_p40 90 18 (by omega)
      have f16_p40 := x2_p40 90 16 (by omega)
      have f18_p410 := x2_p410 90 18 (by omega)
      have f16_p410 := x2_p410 90 16 (by omega)
      rw [yset_nj (by decide)] at f18_p410 f16_p410
      omega), (by
      have x4 := x4_p410
      have f18_p40 := x2_p40 90 18 (by omega)
      have f16_p40 := x2_p40 90 16 (by omega)
      have f18_p410 := x2_p410 90 18 (by omega)
      have f16_p410 := x2_p410 90 16 (by omega)
      rw [yset_nj (by decide)] at f18_p410 f16_p410
      omega), (by
      have x4 := x4_p410
      have f18_p40 := x2_p40 90 18 (by omega)
      have f16_p40 := x2_p40 90 16 (by omega)
      have f18_p410 := x2_p410 90 18 (by omega)
      have f16_p410 := x2_p410 90 16 (by omega)
      rw [yset_nj (by decide)] at f18_p410 f16_p410
      omega), (by
      have x4 := x4_p410
      have f18_p40 := x2_p40 90 18 (by omega)
      have f16_p40 := x2_p40 90 16 (by omega)
      have f18_p410 := x2_p410 90 18 (by omega)
      have f16_p410 := x2_p410 90 16 (by omega)
      rw [yset_nj (by decide)] at f18_p410 f16_p410
      omega), (by
      have x4 := x4_p410
      have f18_p40 := x2_p40 90 18 (by omega)
      have f16_p40 := x2_p40 90 16 (by omega)
      have f18_p410 := x2_p410 90 18 (by omega)
      have f16_p410 := x2_p410 90 16 (by omega)
      rw [yset_nj (by decide)] at f18_p410 f16_p410
      omega), ?_⟩
            intro r50 g51 p520
            have e1 : (yEit (yTq m) (yOn (yTq m) 6) (m 90 17)).1 = -1 := by have := x3_p40; have := ap80; have := hA.2; omega
            have e2 := (x6_p40 e1).1
            have b2 := bp80
            rw [x2_p40.tq, e2] at b2
            have e3 := hA.1 e1
            have h60 := tgm (yEit (yTq m) (yOn (yTq m) 6) (m 90 17)).2.1 (by omega) (by omega)
            have hw : yLw M g40 (yLi (yTq M) (m 90 17)) := yLw.b hf p40 e1 b2 p410
            have hz := yLw.bv hf p40 e1 b2 p410
            obtain ⟨w1, w2, w3, w4, w5⟩ := id hw
            have hv : (yLi (yTq M) (m 90 17)).1 = -1 → gi = 0 → yTq M (yLA (yTq M) (m 90 17)).2.1 = 63 ∧ yEv (yN8 (M 100)) (yLA (yTq M) (m 90 17)).2.2 = 0 := fun q1 gz => by
              obtain ⟨z1, z2, z3⟩ := hz q1
              have := w3.trans q1
              exact ⟨z1, z2.trans (by omega)⟩
            rcases p520 with ⟨z0, z1, z2, z3⟩ | ⟨z0, z1, z2⟩
            · have q1 : (yLi (yTq M) (m 90 17)).1 = -1 := by have := hl.2; omega
              obtain ⟨q2, q3⟩ := w5 q1
              rw [w2.tq, q2] at z2
              have q4 := hl.1 q1
              have q5 := tgM (yLi (yTq M) (m 90 17)).2 (by omega) (by omega)
              have f18 : g40 90 18 = n := (w2 90 18 (by omega)).trans hn.1
              have f16 : g40 90 16 = M 90 16 := w2 90 16 (by omega)
              have pe : yMq 0 (yset g40 90 17 (g40 90 17 + 1)) := ⟨w1.sO (List.mem_of_getElem? (i := 42) rfl) rfl (by decide +kernel) ⟨by omega, by omega⟩, by rw [yset_nj (by decide), w3]; exact q1, by rw [yset_eq]; omega, by rw [yset_nj (by decide)]; omega, by rw [yset_nj (by decide), f16]; exact hbs, by rw [yset_nj (by decide)]; exact q3⟩
              obtain ⟨j, rfl⟩ : ∃ j : Nat, k = j + 1 := ⟨k - 1, by omega⟩
              rw [yLs_1 ⟨q1, z2⟩] at hK
              rw [z0, z3]
              refine ih j (Nat.lt_succ_self j) _ _ _ _ _ pe (w2.st (Or.inl rfl)) hgv (by rw [yset_eq]; omega) (fun r g' p1 p2 p3 p4 => hK r g' p1 p2 ?_ (fun z => ?_))
              · rw [yset_eq, q2] at p3
                exact p3
              · skip
                have p5 := p4 z
                rw [yset_eq, q2] at p5
                by_cases gz : gi = 0
                · rw [if_pos gz] at p5 ⊢
                  rw [yTv_c (hv q1 gz) ⟨q1, z2⟩]
                  exact p5
                · rw [if_neg gz] at p5 ⊢
                  exact p5
            · have cn : ¬ ((yLi (yTq M) (m 90 17)).1 = -1 ∧ yTq M (yLi (yTq M) (m 90 17)).2 = 59) := fun ⟨q1, q2⟩ => by
                have e2 := (w5 q1).1
                rw [w2.tq, e2] at z1
                omega
              rw [yLs_0 cn] at hK
              rw [z0, z2]
              refine yt_WOf hY hn hbs hw (by have := hl.2; omega) (fun r g' p1 p2 p3 p4 => hK r g' p1 p2 p3 (fun z => ?_))
              have q1 := yTxE_n (p3.symm.trans z)
              have p5 := p4 z
              by_cases gz : gi = 0
              · rw [if_pos gz, yTv_n (hv q1 gz) cn]
                exact p5.trans (hgv gz)
              · rw [if_neg gz]
                exact p5
          · refine ⟨_, rfl, (by
      have x4 := x4_p410
      have f18_p40 := x2_p40 90 18 (by omega)
      have f16_p40 := x2_p40 90 16 (by omega)
      have f18_p410 := x2_p410 90 18 (by omega)
      have f16_p410 := x2_p410 90 16 (by omega)
      rw [yset_nj (by decide)] at f18_p410 f16_p410
      omega), (by
      have x4 := x4_p410
      have f18_p40 := x2_p40 90 18 (by omega)
      have f16_p40 := x2_p40 90 16 (by omega)
      have f18_p410 := x2_p410 90 18 (by omega)
      have f16_p410 := x2_p410 90 16 (by omega)
      rw [yset_nj (by decide)] at f18_p410 f16_p410
      omega), (by
      have x4 := x4_p410
      have f18_p40 := x2_p40 90 18 (by omega)
      have f16_p40 := x2_p40 90 16 (by omega)
      have f18_p410 := x2_p410 90 18 (by omega)
      have f16_p410 := x2_p410 90 16 (by omega)
      rw [yset_nj (by decide)] at f18_p410 f16_p410
      omega), (by
      have x4 := x4_p410
      have f18_p40 := x2_p40 90 18 (by omega)
      have f16_p40 := x2_p40 90 16 (by omega)
      have f18_p410 := x2_p410 90 18 (by omega)
      have f16_p410 := x2_p410 90 16 (by omega)
      rw [yset_nj (by decide)] at f18_p410 f16_p410
      omega), (by
      have x4 := x4_p410
      have f18_p40 := x2_p40 90 18 (by omega)
      have f16_p40 := x2_p40 90 16 (by omega)
      have f18_p410 := x2_p410 90 18 (by omega)
      have f16_p410 := x2_p410 90 16 (by omega)
      rw [yset_nj (by decide)] at f18_p410 f16_p410
      omega), ?_⟩
            intro r54 g55 p560
            have e1 : (yEit (yTq m) (yOn (yTq m) 6) (m 90 17)).1 = -1 := by have := x3_p40; have := ap80; have := hA.2; omega
            have e2 := (x6_p40 e1).1
            have b2 := bp80
            rw [x2_p40.tq, e2] at b2
            have e3 := hA.1 e1
            have h60 := tgm (yEit (yTq m) (yOn (yTq m) 6) (m 90 17)).2.1 (by omega) (by omega)
            have hw : yLw M g40 (yLi (yTq M) (m 90 17)) := yLw.b hf p40 e1 b2 p410
            have hz := yLw.bv hf p40 e1 b2 p410
            obtain ⟨w1, w2, w3, w4, w5⟩ := id hw
            have hv : (yLi (yTq M) (m 90 17)).1 = -1 → ∀ k : Nat, yTv (yTq M) (yN8 (M 100)) k (m 90 17) = r39 := fun q1 k => by
              obtain ⟨z1, z2, z3⟩ := hz q1
              rw [yTv_v (fun z => by have := z.2; omega) k]
              exact (if_pos z1).trans z3
            rcases p560 with ⟨z0, z1, z2, z3⟩ | ⟨z0, z1, z2⟩
            · have q1 : (yLi (yTq M) (m 90 17)).1 = -1 := by have := hl.2; omega
              obtain ⟨q2, q3⟩ := w5 q1
              rw [w2.tq, q2] at z2
              have q4 := hl.1 q1
              have q5 := tgM (yLi (yTq M) (m 90 17)).2 (by omega) (by omega)
              have f18 : g40 90 18 = n := (w2 90 18 (by omega)).trans hn.1
              have f16 : g40 90 16 = M 90 16 := w2 90 16 (by omega)
              have pe : yMq 0 (yset g40 90 17 (g40 90 17 + 1)) := ⟨w1.sO (List.mem_of_getElem? (i := 42) rfl) rfl (by decide +kernel) ⟨by omega, by omega⟩, by rw [yset_nj (by decide), w3]; exact q1, by rw [yset_eq]; omega, by rw [yset_nj (by decide)]; omega, by rw [yset_nj (by decide), f16]; exact hbs, by rw [yset_nj (by decide)]; exact q3⟩
              obtain ⟨j, rfl⟩ : ∃ j : Nat, k = j + 1 := ⟨k - 1, by omega⟩
              rw [yLs_1 ⟨q1, z2⟩] at hK
              rw [z0, z3]
              refine ih j (Nat.lt_succ_self j) _ _ _ _ _ pe (w2.st (Or.inl rfl)) (fun z => absurd z (by decide)) (by rw [yset_eq]; omega) (fun r g' p1 p2 p3 p4 => hK r g' p1 p2 ?_ (fun z => ?_))
              · rw [yset_eq, q2] at p3
                exact p3
              · skip
                have p5 := p4 z
                rw [if_neg (by decide)] at p5
                rw [if_pos (by omega), hv q1]
                exact p5
            · have cn : ¬ ((yLi (yTq M) (m 90 17)).1 = -1 ∧ yTq M (yLi (yTq M) (m 90 17)).2 = 59) := fun ⟨q1, q2⟩ => by
                have e2 := (w5 q1).1
                rw [w2.tq, e2] at z1
                omega
              rw [yLs_0 cn] at hK
              rw [z0, z2]
              refine yt_WOf hY hn hbs hw (by have := hl.2; omega) (fun r g' p1 p2 p3 p4 => hK r g' p1 p2 p3 (fun z => ?_))
              have q1 := yTxE_n (p3.symm.trans z)
              rw [if_pos (by omega), hv q1]
              exact p4 z
set_option maxRecDepth 8000 in
theorem yv_WOf {K : List yV → yM → Prop} {Y : yNx} {g : yM} {b n : Int} (hY : yCl zpD213 (zpZ, zpRS, zpP12, zpMT, [yC_mE6, yC_TK3, yC_WR], (68, 2257), 1) K Y) (hr_b : -2147483648 ≤ b ∧ b ≤ 2147483647) (hr_n : -2147483648 ≤ n ∧ n ≤ 2147483647) (hp0 : yTy zpZ g) (hp1 : b = -1 ∨ b = 0) (hp2 : 0 ≤ n ∧ n ≤ 60) (hK : ∀ (r : Int) (g' : yM), (yTy zpZ g') → (yXw g g') → (g' 90 19 = yTxF (yTq (yWo g b n)) n) → (g' 90 19 = -1 → r = yTv (yTq (yWo g b n)) (yN8 (g 100)) 60 0) → K [(1, r)] g') : Y 0 [(3, 90), (1, b), (1, n), (0, 0), (0, 0), (0, 0), (0, 0), (0, 0)] [] g := by
  have t : yTy zpZ (yWo g b n) := ((((hp0.sO (List.mem_of_getElem? (i := 42) rfl) rfl (by decide +kernel) ⟨by omega, by omega⟩).sO (List.mem_of_getElem? (i := 42) rfl) rfl (by decide +kernel) ⟨by omega, by omega⟩).sO (List.mem_of_getElem? (i := 42) rfl) rfl (by decide +kernel) ⟨by omega, by omega⟩).sO (List.mem_of_getElem? (i := 42) rfl) rfl (by decide +kernel) ⟨by omega, by omega⟩).sO (List.mem_of_getElem? (i := 42) rfl) rfl (by decide +kernel) ⟨by omega, by omega⟩
  have e16 : (yWo g b n) 90 16 = b := by unfold yWo; rw [yset_nj (by decide), yset_nj (by decide), yset_nj (by decide), yset_nj (by decide), yset_eq]
  have e17 : (yWo g b n) 90 17 = 0 := by unfold yWo; rw [yset_nj (by decide), yset_nj (by decide), yset_nj (by decide), yset_eq]
  have e18 : (yWo g b n) 90 18 = n := by unfold yWo; rw [yset_nj (by decide), yset_nj (by decide), yset_eq]
  have e19 : (yWo g b n) 90 19 = -1 := by unfold yWo; rw [yset_nj (by decide), yset_eq]
  have e20 : (yWo g b n) 90 20 = 0 := by unfold yWo; rw [yset_eq]
  have e100 : (yWo g b n) 100 = g 100 := funext fun q => by unfold yWo; rw [yset_nc (by decide), yset_nc (by decide), yset_nc (by decide), yset_nc (by decide), yset_nc (by decide)]
  refine yrun_ok (sp := fun pc => Nat.beq pc 33) hY 22 0 _ [] g ?_
  show (Y 33 [(3, 90), (1, b), (1, n), (1, 0), (1, 0), (1, 1), (0, 0), (0, 0)] [] (yset (yset (yset (yset (yset g 90 16 b) 90 17 0) 90 18 n) 90 19 (-1)) 90 20 0))
  show Y 33 _ [] (yWo g b n)
  refine yl_WOf (M := yWo g b n) hY ⟨e18, hp2.2⟩ (by omega) 60 _ _ _ _ _ ⟨t, e19, ⟨by omega, by omega⟩, by omega, by omega, e20⟩ (fun _ _ _ => rfl) (fun _ => rfl) (by omega) (fun r g' p1 p2 p3 p4 => hK r g' p1 (yXw.of p2) ?_ (fun z => ?_))
  · rw [e17] at p3
    exact p3
  · have p5 := p4 z
    rw [if_pos rfl, e17, e100] at p5
    exact p5
theorem yM_WOf {l : Launch} {Ts : List Cond} {cl : List vw_C} {RO : zRO} (H : zHyp Ts cl RO) : yMet l Ts cl zpZ RO zpMT yC_WOf := ymet_of2 H.1 H.2.1 zpDj H.2.2.1 yRb H.p12 (ymets_cons (yM_mE6 H) (ymets_cons (yM_TK3 H) (ymets_cons (yM_WR H) ymets_nil))) (zrc1 rfl) (plainFor_of_name zpy12) zpDk213 (fun as g K Y h hA hY => by
  obtain ⟨b, n, rfl, hp0, hp1, hp2, hK⟩ := h
  exact yv_WOf hY (yAr1 hA (by simp)) (yAr1 hA (by simp)) hp0 hp1 hp2 hK)
/-- the tape's signs, the reference's -/
def yTz (g : yM) (p : Int) : Int := if 0 ≤ p ∧ p < g 90 13 then g 98 (Int.toNat p) else 0
theorem yTz_eq (g : yM) : yTq (yWo g (-1) (g 90 13)) = yTz g := funext fun p => by
  have e18 : (yWo g (-1) (g 90 13)) 90 18 = g 90 13 := by unfold yWo; rw [yset_nj (by decide), yset_nj (by decide), yset_eq]
  have e16 : (yWo g (-1) (g 90 13)) 90 16 = -1 := by unfold yWo; rw [yset_nj (by decide), yset_nj (by decide), yset_nj (by decide), yset_nj (by decide), yset_eq]
  have e98 : ∀ j : Nat, (yWo g (-1) (g 90 13)) 98 j = g 98 j := fun j => by unfold yWo; rw [yset_nc (by decide), yset_nc (by decide), yset_nc (by decide), yset_nc (by decide), yset_nc (by decide)]
  unfold yTq yTz
  rw [e18, e16, e98, if_pos (show (-1 : Int) < 0 by decide)]
def yTXs : zWr := [(90, 90, 1, 16), (90, 90, 1, 17), (90, 90, 1, 18), (90, 90, 1, 19), (90, 90, 1, 20), (90, 90, 1, 13), (90, 90, 1, 15), (99, 99, 0, 0)]
theorem yXw.un {g m : yM} (h : yXw g m) : yUn yTXs g m := fun a c hn => h a c (fun z => by
  have hc : c = 16 ∨ c = 17 ∨ c = 18 ∨ c = 19 ∨ c = 20 := by omega
  have h1 : (90 : Int) ≤ a := by omega
  have h2 : (a : Int) ≤ 90 := by omega
  rcases hc with e | e | e | e | e
  · exact hn (90, 90, 1, 16) (by decide) ⟨h1, h2, Or.inr e.symm⟩
  · exact hn (90, 90, 1, 17) (by decide) ⟨h1, h2, Or.inr e.symm⟩
  · exact hn (90, 90, 1, 18) (by decide) ⟨h1, h2, Or.inr e.symm⟩
  · exact hn (90, 90, 1, 19) (by decide) ⟨h1, h2, Or.inr e.symm⟩
  · exact hn (90, 90, 1, 20) (by decide) ⟨h1, h2, Or.inr e.symm⟩)
def yP_MTXf : yPT := fun as g K => as = [(3, 90)] ∧ (yTy zpZ g) ∧ (∀ (r : Int) (g' : yM), (r = (if yTxF (yTz g) (g 90 13) = -1 then 1 else yw (-100 - yTxF (yTz g) (g 90 13)))) → (yTy zpZ g') → (g' 90 13 = 0) → (yUn yTXs g g') → ((yTxF (yTz g) (g 90 13) = -1 → g' 90 15 = g 90 13 ∧ ∀ j : Nat, (j : Int) < g 90 13 → g' 99 j = g 98 j) ∧ (yTxF (yTz g) (g 90 13) ≠ -1 → g' 90 15 = g 90 15 ∧ ∀ j : Nat, g' 99 j = g 99 j)) → K [(1, r)] g')
def yC_MTXf : yC := (204, (69, 2284), yP_MTXf)
set_option maxRecDepth 8000 in
theorem yl_MTXf {K : List yV → yM → Prop} {Y : yNx} {g : yM} {n u : Int} (hY : yCl zpD204 (zpZ, zpRS, zpP12, zpMT, [yC_WOf], (69, 2284), 1) K Y) (hn : 0 ≤ n ∧ n ≤ 60) (hF : yTxF (yTz g) (g 90 13) = -1) (hng : n = g 90 13) (hK : ∀ (r : Int) (g' : yM), (r = (if yTxF (yTz g) (g 90 13) = -1 then 1 else yw (-100 - yTxF (yTz g) (g 90 13)))) → (yTy zpZ g') → (g' 90 13 = 0) → (yUn yTXs g g') → ((yTxF (yTz g) (g 90 13) = -1 → g' 90 15 = g 90 13 ∧ ∀ j : Nat, (j : Int) < g 90 13 → g' 99 j = g 98 j) ∧ (yTxF (yTz g) (g 90 13) ≠ -1 → g' 90 15 = g 90 15 ∧ ∀ j : Nat, g' 99 j = g 99 j)) → K [(1, r)] g') : ∀ (d : Nat) (i : Int), i + d = n → 0 ≤ i → ∀ m : yM, yTy zpZ m → m 90 13 = 0 → yUn yTXs g m → (∀ j : Nat, m 98 j = g 98 j) → (∀ j : Nat, (j : Int) < i → m 99 j = g 98 j) → Y 37 [(3, 90), (1, u), (1, n), (1, i)] [] m := by
  intro d
  induction d with
  | zero =>
    intro i hi h0 m hm h13 hu h98 ha
    refine yrun_ok (sp := fun pc => Nat.beq pc 37) hY 14 37 _ [] m ?_
    show ((n ≤ i → (K [(1, 1)] (yset m 90 15 n))) ∧ (¬ (n ≤ i) → (((0 : Int) ≤ i ∧ i < ((60 : Nat) : Int)) ∧ (((0 : Int) ≤ i ∧ i < ((60 : Nat) : Int)) ∧ (Y 37 [(3, 90), (1, u), (1, n), (1, (yw (i + 1)))] [] (yset m 99 (Int.toNat i) (m 98 (Int.toNat i))))))))
    refine ⟨fun h1 => ?_, fun h1 => ?_⟩
    · exact hK _ _ (if_pos hF).symm (yTy.sO hm (List.mem_of_getElem? (i := 42) rfl) rfl (by decide +kernel) ⟨by omega, by omega⟩) (by rw [yset_ne (by decide)]; exact h13) (yUn.st hu ⟨(90, 90, 1, 15), by decide, by decide, by decide, Or.inr rfl⟩) ⟨fun _ => ⟨yset_eq.trans hng, fun j hj => (yset_nc (by decide)).trans (ha j (by omega))⟩, fun z => absurd hF z⟩
    · refine ⟨(by omega), ?_⟩
      refine ⟨(by omega), ?_⟩
      omega
  | succ d ih =>
    intro i hi h0 m hm h13 hu h98 ha
    refine yrun_ok (sp := fun pc => Nat.beq pc 37) hY 14 37 _ [] m ?_
    show ((n ≤ i → (K [(1, 1)] (yset m 90 15 n))) ∧ (¬ (n ≤ i) → (((0 : Int) ≤ i ∧ i < ((60 : Nat) : Int)) ∧ (((0 : Int) ≤ i ∧ i < ((60 : Nat) : Int)) ∧ (Y 37 [(3, 90), (1, u), (1, n), (1, (yw (i + 1)))] [] (yset m 99 (Int.toNat i) (m 98 (Int.toNat i))))))))
    refine ⟨fun h1 => ?_, fun h1 => ?_⟩
    · omega
    · refine ⟨(by omega), ?_⟩
      refine ⟨(by omega), ?_⟩
      have y1 : yw (i + 1) = i + 1 := yw_s (i + 1) (by omega) (by omega)
      rw [y1]
      refine ih (i + 1) (by omega) (by omega) _ (yTy.sA hm (List.mem_of_getElem? (i := 51) rfl) (by decide +kernel) (hm.fA (List.mem_of_getElem? (i := 50) rfl) (by omega))) (by rw [yset_nc (by decide)]; exact h13) (yUn.st hu ⟨(99, 99, 0, 0), by decide, by decide, by decide, Or.inl rfl⟩) (fun j => (yset_nc (by decide)).trans (h98 j)) (fun j hj => ?_)
      by_cases ej : j = Int.toNat i
      · rw [ej, yset_eq]
        exact h98 _
      · rw [yset_nj ej]
        exact ha j (by omega)
set_option maxRecDepth 8000 in
theorem yv_MTXf {K : List yV → yM → Prop} {Y : yNx} {g : yM} (hY : yCl zpD204 (zpZ, zpRS, zpP12, zpMT, [yC_WOf], (69, 2284), 1) K Y) (hp0 : yTy zpZ g) (hK : ∀ (r : Int) (g' : yM), (r = (if yTxF (yTz g) (g 90 13) = -1 then 1 else yw (-100 - yTxF (yTz g) (g 90 13)))) → (yTy zpZ g') → (g' 90 13 = 0) → (yUn yTXs g g') → ((yTxF (yTz g) (g 90 13) = -1 → g' 90 15 = g 90 13 ∧ ∀ j : Nat, (j : Int) < g 90 13 → g' 99 j = g 98 j) ∧ (yTxF (yTz g) (g 90 13) ≠ -1 → g' 90 15 = g 90 15 ∧ ∀ j : Nat, g' 99 j = g 99 j)) → K [(1, r)] g') : Y 0 [(3, 90), (0, 0), (0, 0), (0, 0)] [] g := by
  have hn := hp0.fO (j := 13) (List.mem_of_getElem? (i := 42) rfl) rfl
  refine yrun_ok (sp := fun pc => Nat.beq pc 37) hY 20 0 _ [] g ?_
  show (∃ (b1 n2 : Int), [(3, 90), (1, (-1)), (1, (g 90 13))] = [(3, 90), (1, b1), (1, n2)] ∧ (yTy zpZ g) ∧ (b1 = -1 ∨ b1 = 0) ∧ (0 ≤ n2 ∧ n2 ≤ 60) ∧ (∀ (r3 : Int) (g4 : yM), (yTy zpZ g4) → (yXw g g4) → (g4 90 19 = yTxF (yTq (yWo g b1 n2)) n2) → (g4 90 19 = -1 → r3 = yTv (yTq (yWo g b1 n2)) (yN8 (g 100)) 60 0) → (((g4 90 19) < 0 → (Y 37 [(3, 90), (1, r3), (1, (g4 90 13)), (1, 0)] [] (yset g4 90 13 0))) ∧ (¬ ((g4 90 19) < 0) → (K [(1, (yw ((-100) - (g4 90 19))))] (yset g4 90 13 0))))))
  refine ⟨_, _, rfl, (hp0), (by omega), (by omega), ?_⟩
  intro r3 g4 p50 p51 p52 p53
  refine ⟨fun h6 => ?_, fun h6 => ?_⟩
  · have q0 := p52
    rw [yTz_eq] at q0
    have e13 : g4 90 13 = g 90 13 := p51 90 13 (by omega)
    have t1 : yTy zpZ (yset g4 90 13 0) := yTy.sO p50 (List.mem_of_getElem? (i := 42) rfl) rfl (by decide +kernel) ⟨by decide, by decide⟩
    have u1 : yUn yTXs g (yset g4 90 13 0) := yUn.st p51.un ⟨(90, 90, 1, 13), by decide, by decide, by decide, Or.inr rfl⟩
    have hq := h6
    have q1 : (yset g4 90 13 0) 90 19 = g4 90 19 := yset_nj (by decide)
    have hm1 : -1 ≤ g4 90 19 := (p50.fO (j := 19) (List.mem_of_getElem? (i := 42) rfl) rfl).1
    have h9 := yl_MTXf (u := r3) hY hn (by omega) rfl hK (Int.toNat (g 90 13)) 0 (by omega) (by omega) _ t1 yset_eq u1 (fun j => (yset_nc (by decide)).trans (p51 98 j (by omega))) (fun j hj => absurd hj (by omega))
    rw [← e13] at h9
    exact h9
  · have q0 := p52
    rw [yTz_eq] at q0
    have e13 : g4 90 13 = g 90 13 := p51 90 13 (by omega)
    have t1 : yTy zpZ (yset g4 90 13 0) := yTy.sO p50 (List.mem_of_getElem? (i := 42) rfl) rfl (by decide +kernel) ⟨by decide, by decide⟩
    have u1 : yUn yTXs g (yset g4 90 13 0) := yUn.st p51.un ⟨(90, 90, 1, 13), by decide, by decide, by decide, Or.inr rfl⟩
    have hq := h6
    have q1 : (yset g4 90 13 0) 90 19 = g4 90 19 := yset_nj (by decide)
    refine hK _ _ ?_ t1 yset_eq u1 ⟨fun z => absurd z (by omega), fun _ => ⟨(yset_nj (by decide)).trans (p51 90 15 (by omega)), fun j => (yset_nc (by decide)).trans (p51 99 j (by omega))⟩⟩
    rw [if_neg (by omega), ← q0]
theorem yM_MTXf {l : Launch} {Ts : List Cond} {cl : List vw_C} {RO : zRO} (H : zHyp Ts cl RO) : yMet l Ts cl zpZ RO zpMT yC_MTXf := ymet_of2 H.1 H.2.1 zpDj H.2.2.1 yRb H.p12 (ymets_cons (yM_WOf H) ymets_nil) (zrc1 rfl) (plainFor_of_name zpy12) zpDk204 (fun as g K Y h hA hY => by
  obtain ⟨rfl, hp0, hK⟩ := h
  exact yv_MTXf hY  hp0 hK)
