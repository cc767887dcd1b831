/-! TEXTS: THE TAPE BECOMES THE TEXT, CLASS -/
theorem yTy.sRf {g : yM} {q j ci ln : Nat} {fts : List zFT} {lo hi v : Int} (h : yTy zpZ g) (hm : (q, q, (0, ci, ln, fts)) ∈ zpZ.1) (hf : fts[j]? = some (2, lo, hi)) (h6 : y67 q = true) (hv : lo ≤ v ∧ v ≤ hi) : yTy zpZ (yset g q j v) := by
  obtain ⟨gh, hg, hT⟩ := h
  exact ⟨gh, hg, hT.set zpDj hm (Nat.le_refl _) (Nat.le_refl _) ⟨by show 0 ≠ 6; decide, y67_ok h6⟩ ⟨fun ci ln fts ft h1 h2 => (by
    cases h1
    rw [hf] at h2
    cases h2
    exact hv), fun k t0 len fts ft h1 h2 h3 => by
    cases h1
    omega⟩⟩
theorem yTy.fRf {g : yM} {q j ci ln : Nat} {fts : List zFT} {lo hi : Int} (h : yTy zpZ g) (hm : (q, q, (0, ci, ln, fts)) ∈ zpZ.1) (hf : fts[j]? = some (2, lo, hi)) : lo ≤ g q j ∧ g q j ≤ hi := by
  obtain ⟨gh, hg, hT⟩ := h
  exact hT _ hm q (Nat.le_refl _) (Nat.le_refl _) j _ hf
theorem yMet.or {l : Launch} {Ts : List Cond} {cl : List vw_C} {Z : zZ} {RO : zRO} {MT : zMT} {mid : Nat} {rm : Nat × Nat} {P Q : yPT} (h1 : yMet l Ts cl Z RO MT (mid, rm, P)) (h2 : yMet l Ts cl Z RO MT (mid, rm, Q)) : yMet l Ts cl Z RO MT (mid, rm, fun as g K => P as g K ∨ Q as g K) := fun D tys A ad ws g as As K a1 a2 a3 a4 a5 => a5.elim (fun h => h1 D tys A ad ws g as As K a1 a2 a3 a4 h) (fun h => h2 D tys A ad ws g as As K a1 a2 a3 a4 h)
/-- what the tape's reading as a text leaves as it was -/
def yXtf (g m : yM) : Prop := ∀ a b : Nat, ¬ (a = 2 ∧ (b = 1 ∨ b = 3)) → ¬ ((a = 10 ∨ a = 11) ∧ b = 4) → (a < 31 ∨ 34 < a) → ¬ (a = 6 ∧ (b = 5 ∨ b = 6)) → m a b = g a b
def yTFs : zWr := [(2, 2, 1, 1), (2, 2, 1, 3), (10, 11, 1, 4), (31, 34, 0, 0), (6, 6, 1, 5), (6, 6, 1, 6)]
theorem yXtf.un {g m : yM} (h : yXtf g m) : yUn yTFs g m := fun a b hn => h a b (fun z => by
  rcases z with ⟨z1, z2 | z2⟩
  · exact hn (2, 2, 1, 1) (by decide) ⟨by show (2 : Int) ≤ a; omega, by show (a : Int) ≤ 2; omega, Or.inr z2.symm⟩
  · exact hn (2, 2, 1, 3) (by decide) ⟨by show (2 : Int) ≤ a; omega, by show (a : Int) ≤ 2; omega, Or.inr z2.symm⟩) (fun z => hn (10, 11, 1, 4) (by decide) ⟨by show (10 : Int) ≤ a; omega, by show (a : Int) ≤ 11; omega, Or.inr z.2.symm⟩) (by
  by_cases c : a < 31 ∨ 34 < a
  · exact c
  · exact (hn (31, 34, 0, 0) (by decide) ⟨by show (31 : Int) ≤ a; omega, by show (a : Int) ≤ 34; omega, Or.inl rfl⟩).elim) (fun z => by
  rcases z with ⟨z1, z2 | z2⟩
  · exact hn (6, 6, 1, 5) (by decide) ⟨by show (6 : Int) ≤ a; omega, by show (a : Int) ≤ 6; omega, Or.inr z2.symm⟩
  · exact hn (6, 6, 1, 6) (by decide) ⟨by show (6 : Int) ≤ a; omega, by show (a : Int) ≤ 6; omega, Or.inr z2.symm⟩)
theorem yXf.tf {q : Nat} (hq : q = 10 ∨ q = 11) {g m : yM} (h : yXf q g m) : yXtf g m := fun a b c1 c2 c3 c4 => h a b c1 (by omega) (by omega) (by omega)
/-- the text that was told is set aside, if there is no fault: r the fault -/
def yTS (g m : yM) (r : Int) : Prop := ∃ q : Nat, (q = 10 ∨ q = 11) ∧ g 6 6 = (q : Int) ∧ (∀ a b : Nat, ¬ (a = 2 ∧ (b = 1 ∨ b = 3)) → ¬ (a = q ∧ b = 4) → a ≠ q + 21 → a ≠ q + 23 → ¬ (a = 6 ∧ (b = 5 ∨ b = 6)) → m a b = g a b) ∧ (r = -1 → m 6 5 = g 6 6 ∧ m 6 6 = g 6 5 ∧ yHc q m (yLk (yTs g) 60 0 0)) ∧ (r ≠ -1 → m 6 5 = g 6 5 ∧ m 6 6 = g 6 6)
theorem yXtf.tr {g m k : yM} (h1 : yXtf g m) (h2 : yXtf m k) : yXtf g k := fun a b c1 c2 c3 c4 => (h2 a b c1 c2 c3 c4).trans (h1 a b c1 c2 c3 c4)
def yP_RD_10 : yPT := fun as g K => as = [(3, 10)] ∧ (yTy zpZ g) ∧ (g 2 2 ≤ 60) ∧ (∀ (r : Int) (g' : yM), (r = yTxF (yTs g) (g 2 2)) → (yTy zpZ g') → (yXf 10 g g') → (r = -1 → yHc 10 g' (yLk (yTs g) 60 0 0)) → K [(1, r)] g')
def yC_RD_10 : yC := (110, (69, 2278), yP_RD_10)
set_option maxRecDepth 8000 in
theorem yt_RD_10 {K : List yV → yM → Prop} {Y : yNx} {g m : yM} {l : Int × Int} {i : Int} {c : List (Int × Int)} (hY : yCl zpD110 (zpZ, zpRS, zpP10, zpMT, [yC_RW, yC_LN_10, yC_AP3, yC_SG3, yC_SP], (69, 2278), 1) K Y) (he : g 2 2 ≤ 60) (hm : yLo 10 g m l) (hc : l.1 = -1 → yHc 10 m c) (hK : ∀ (r : Int) (g' : yM), r = yTxE (g 2 2) l → yTy zpZ g' → yXf 10 g g' → (r = -1 → yHc 10 g' (c)) → K [(1, r)] g') : Y 46 [(3, 10), (1, i)] [] m := by
  obtain ⟨m1, m2, m3, m4, m5, m6⟩ := hm
  have e22 : m 2 2 = g 2 2 := m2 2 2 (by omega) (by omega) (by omega) (by omega)
  have tb := yTs_b m (m 2 1)
  refine yrun_ok (sp := fun pc => false) hY 12 46 _ [] m ?_
  show ([(3, 2)] = [(3, 2)] ∧ (0 ≤ m 2 1) ∧ (m 2 2 ≤ 60) ∧ (∀ (r1 : Int), (m 2 3 = -1 → (r1 = -1 ∧ m 2 2 ≤ m 2 1) ∨ (m 2 1 < m 2 2 ∧ r1 = yTs m (m 2 1))) → (m 2 3 ≠ -1 → r1 = -1) → (-1 ≤ r1 ∧ r1 ≤ 255) → ((r1 = (-1) → (K [(1, (m 2 3))] m)) ∧ (¬ (r1 = (-1)) → ([(3, 2)] = [(3, 2)] ∧ (0 ≤ m 2 1 ∧ m 2 1 ≤ 60) ∧ (∀ (g4 : yM), (m 2 3 = -1 → g4 = yset m 2 3 (m 2 1)) → (m 2 3 ≠ -1 → g4 = m) → (K [(1, (g4 2 3))] g4)))))))
  refine ⟨rfl, (m4.1), (by omega), ?_⟩
  intro r1 p20 p21 p22
  refine ⟨fun h3 => ?_, fun h3 => ?_⟩
  · refine hK _ _ ?_ m1 m2 (fun z => hc (m3.symm.trans z))
    by_cases e1 : l.1 = -1
    · have q0 := p20 (m3.trans e1)
      have e2 := (m6 e1).1
      unfold yTxE
      rw [if_pos e1, if_neg (by omega)]
      exact m3.trans e1
    · unfold yTxE
      rw [if_neg e1]
      exact m3
  · refine ⟨rfl, (m4), ?_⟩
    intro g4 p50 p51
    have e1 : m 2 3 = -1 := by
      by_cases e : m 2 3 = -1
      · exact e
      · have z := p21 e
        omega
    have q0 := p20 e1
    have e := p50 e1
    subst e
    have e2 := (m6 (m3.symm.trans e1)).1
    refine hK _ _ ?_ (m1.sO (List.mem_of_getElem? (i := 2) rfl) rfl (by decide +kernel) ⟨by omega, by omega⟩) (fun a b c1 c2 c3 c4 => (yset_ne (by omega)).trans (m2 a b c1 c2 c3 c4)) (fun z => ?_)
    · rw [yset_eq]
      unfold yTxE
      rw [if_pos (m3.symm.trans e1), if_pos (by omega)]
      exact e2
    · rw [yset_eq] at z
      omega
set_option maxRecDepth 8000 in
theorem yl_RD_10 {K : List yV → yM → Prop} {Y : yNx} {g : yM} (hY : yCl zpD110 (zpZ, zpRS, zpP10, zpMT, [yC_RW, yC_LN_10, yC_AP3, yC_SG3, yC_SP], (69, 2278), 1) K Y) (he : g 2 2 ≤ 60) : ∀ (n : Nat) (i : Int) (m : yM) (l : Int × Int) (c : List (Int × Int)) (hi : 0 ≤ i) (hb : l.1 = -1 → i ≤ l.2 ∧ 60 - l.2 ≤ n) (hg : yLg (-1) l) (hm : yLo 10 g m l) (hc : l.1 = -1 → yHc 10 m c) (hK : ∀ (r : Int) (g' : yM), r = yTxE (g 2 2) (yLs (yTs g) n l) → yTy zpZ g' → yXf 10 g g' → (r = -1 → yHc 10 g' (c ++ yTd (yTs g) n l (c.length : Int))) → K [(1, r)] g'), Y 18 [(3, 10), (1, i)] [] m := by
  intro n
  induction n using Nat.strongRecOn with
  | ind n ih =>
    intro i m l c hi hb hg hm hc hK
    obtain ⟨m1, m2, m3, m4, m5, m6⟩ := id hm
    have tg := yTs_tg he
    have tm : yTs m = yTs g := m2.ts (Or.inl rfl)
    have e22 : m 2 2 = g 2 2 := m2 2 2 (by omega) (by omega) (by omega) (by omega)
    refine yrun_ok (sp := fun pc => Nat.beq pc 18 || Nat.beq pc 46) hY 13 18 _ [] m ?_
    show ((60 ≤ i → (Y 46 [(3, 10), (1, i)] [] m)) ∧ (¬ (60 ≤ i) → (∃ (c2 : Int), [(3, 2), (1, 59)] = [(3, 2), (1, c2)] ∧ (0 ≤ m 2 1 ∧ m 2 1 ≤ 60) ∧ (m 2 2 ≤ 60) ∧ (1 ≤ c2) ∧ (∀ (r3 : Int) (g4 : yM), ((r3 = 1 ∧ m 2 3 = -1 ∧ yTs m (m 2 1) = c2 ∧ g4 = yset m 2 1 (m 2 1 + 1)) ∨ (r3 = 0 ∧ (m 2 3 ≠ -1 ∨ yTs m (m 2 1) ≠ c2) ∧ g4 = m)) → ((r3 = 0 → (Y 46 [(3, 10), (1, i)] [] g4)) ∧ (¬ (r3 = 0) → ([(3, 10)] = [(3, 10)] ∧ (yPe 10 g4) ∧ (∀ (g7 : yM), (yLo 10 g4 g7 (yLi (yTs g4) (g4 2 1))) → ((yLi (yTs g4) (g4 2 1)).1 = -1 → yAp 10 g4 g7 (yLc (yTs g4) (g4 2 1) (g4 10 4))) → (Y 18 [(3, 10), (1, (yw (i + 1)))] [] g7)))))))))
    refine ⟨fun h1 => ?_, fun h1 => ?_⟩
    · have cn : ¬ (l.1 = -1 ∧ yTs g l.2 = 59) := fun ⟨z1, z2⟩ => by
        have z4 := hb z1
        have z5 := hg.1 z1
        have z6 := tg l.2 (by omega) (by omega)
        omega
      rw [yLs_0 cn, yTd_0 cn, List.append_nil] at hK
      exact yt_RD_10 hY he hm hc hK
    · refine ⟨_, rfl, (m4), (by omega), (by omega), ?_⟩
      intro r3 g4 p50
      refine ⟨fun h6 => ?_, fun h6 => ?_⟩
      · obtain ⟨bp50, ep50⟩ : (m 2 3 ≠ -1 ∨ yTs m (m 2 1) ≠ 59) ∧ m = g4 := by
          rcases p50 with ⟨z, -⟩ | ⟨-, z1, z2⟩
          · omega
          · exact ⟨z1, z2.symm⟩
        subst ep50
        have cn : ¬ (l.1 = -1 ∧ yTs g l.2 = 59) := fun ⟨z1, z2⟩ => by
          have e2 := (m6 z1).1
          have e3 := m3.trans z1
          rw [tm, e2] at bp50
          omega
        rw [yLs_0 cn, yTd_0 cn, List.append_nil] at hK
        exact yt_RD_10 hY he hm hc hK
      · obtain ⟨ap50, bp50, ep50⟩ : m 2 3 = -1 ∧ yTs m (m 2 1) = 59 ∧ g4 = (yset m 2 1 (m 2 1 + 1)) := by
          rcases p50 with ⟨-, z⟩ | ⟨z, -⟩
          · exact z
          · omega
        subst ep50
        refine ⟨rfl, (by
      have e1 : l.1 = -1 := m3.symm.trans ap50
      obtain ⟨e2, e4⟩ := m6 e1
      rw [tm, e2] at bp50
      have hg1 := hg.1 e1
      have h60 := tg l.2 (by omega) (by omega)
      exact ⟨m1.sO (List.mem_of_getElem? (i := 2) rfl) rfl (by decide +kernel) ⟨by omega, by omega⟩, by rw [yset_nj (by decide)]; exact ap50, by rw [yset_eq]; omega, by rw [yset_nj (by decide)]; omega, by rw [yset_nc (by decide)]; omega, by rw [yset_nc (by decide), yset_eq]; omega⟩), ?_⟩
        intro g7 p80 p81
        have e1 : l.1 = -1 := m3.symm.trans ap50
        obtain ⟨e2, e4⟩ := m6 e1
        rw [tm, e2] at bp50
        have hg1 := hg.1 e1
        have h60 := tg l.2 (by omega) (by omega)
        rw [yTs_pl m 1 (m 2 1 + 1) (by decide), yset_eq, tm, e2] at p80
        rw [yTs_pl m 1 (m 2 1 + 1) (by decide), yset_eq, tm, e2, yset_nc (a := 10) (b := 4) (by decide)] at p81
        have hl : yLo 10 g g7 (yLi (yTs g) (l.2 + 1)) := ⟨p80.1, fun a b c1 c2 c3 c4 => ((p80.2.1 a b c1 c2 c3 c4).trans (yset_ne (by omega))).trans (m2 a b c1 c2 c3 c4), p80.2.2⟩
        have hg2 := yLi_g tg (p := l.2 + 1) (by omega) (by omega)
        have h8 := hb e1
        rw [yw_s (i + 1) (by omega) (by omega)]
        obtain ⟨k, rfl⟩ : ∃ k : Nat, n = k + 1 := ⟨n - 1, by omega⟩
        rw [yLs_1 ⟨e1, bp50⟩, yTd_1 ⟨e1, bp50⟩, ← List.append_assoc] at hK
        have hq4 := (hc e1).1
        have hH : (yLi (yTs g) (l.2 + 1)).1 = -1 → yHc 10 g7 (c ++ yLc (yTs g) (l.2 + 1) (c.length : Int)) := fun z => by
          have z1 := p81 z
          rw [hq4] at z1
          exact yHc.add (g := yset m 2 1 (l.2 + 1)) ((hc e1).of (yset_nc (by decide)) (fun j => yset_nc (by decide)) (fun j => yset_nc (by decide))) z1
        rw [show (c.length : Int) + ((yLc (yTs g) (l.2 + 1) (c.length : Int)).length : Int) = ((c ++ yLc (yTs g) (l.2 + 1) (c.length : Int)).length : Int) from by rw [List.length_append]; omega] at hK
        have e11 : ((k + 1 : Nat) : Int) = (k : Int) + 1 := rfl
        refine ih k (Nat.lt_succ_self k) (i + 1) _ _ _ (by omega) (fun z => ?_) ⟨fun z => ?_, hg2.2⟩ hl hH hK
        · have z1 := hg2.1 z
          exact ⟨by omega, by omega⟩
        · have z1 := hg2.1 z
          exact ⟨by omega, z1.2⟩
set_option maxRecDepth 8000 in
theorem yv_RD_10 {K : List yV → yM → Prop} {Y : yNx} {g : yM} (hY : yCl zpD110 (zpZ, zpRS, zpP10, zpMT, [yC_RW, yC_LN_10, yC_AP3, yC_SG3, yC_SP], (69, 2278), 1) K Y) (hp0 : yTy zpZ g) (hp1 : g 2 2 ≤ 60) (hK : ∀ (r : Int) (g' : yM), (r = yTxF (yTs g) (g 2 2)) → (yTy zpZ g') → (yXf 10 g g') → (r = -1 → yHc 10 g' (yLk (yTs g) 60 0 0)) → K [(1, r)] g') : Y 0 [(3, 10), (0, 0)] [] g := by
  have tg := yTs_tg hp1
  have t0 : yTy zpZ (yset g 10 4 0) := yTy.fix (Or.inr ⟨(Or.inl rfl), rfl⟩) hp0 ⟨fun _ => ⟨by decide, by decide⟩, fun z => absurd z.1 (by decide)⟩
  have t1 : yTy zpZ (yset (yset (yset g 10 4 0) 2 1 0) 2 3 (-1)) := (t0.sO (List.mem_of_getElem? (i := 2) rfl) rfl (by decide +kernel) ⟨by omega, by omega⟩).sO (List.mem_of_getElem? (i := 2) rfl) rfl (by decide +kernel) ⟨by omega, by omega⟩
  have fM : ∀ a b : Nat, ¬ (a = 2 ∧ (b = 1 ∨ b = 3)) → ¬ (a = 10 ∧ b = 4) → (yset (yset (yset g 10 4 0) 2 1 0) 2 3 (-1)) a b = g a b := fun a b c1 c2 => by rw [yset_ne (by omega), yset_ne (by omega), yset_ne (by omega)]
  have e21 : (yset (yset (yset g 10 4 0) 2 1 0) 2 3 (-1)) 2 1 = 0 := by rw [yset_nj (by decide), yset_eq]
  have e23 : (yset (yset (yset g 10 4 0) 2 1 0) 2 3 (-1)) 2 3 = -1 := yset_eq
  have eq4 : (yset (yset (yset g 10 4 0) 2 1 0) 2 3 (-1)) 10 4 = 0 := by rw [yset_nc (by decide), yset_nc (by decide), yset_eq]
  have e22 : (yset (yset (yset g 10 4 0) 2 1 0) 2 3 (-1)) 2 2 = g 2 2 := fM 2 2 (by omega) (by omega)
  have tM : yTs (yset (yset (yset g 10 4 0) 2 1 0) 2 3 (-1)) = yTs g := yTs_eq e22 (fun j => fM 18 j (by omega) (by omega))
  have pe : yPe 10 (yset (yset (yset g 10 4 0) 2 1 0) 2 3 (-1)) := ⟨t1, e23, by omega, by omega, by omega, by omega⟩
  refine yrun_ok (sp := fun pc => Nat.beq pc 18) hY 11 0 _ [] g ?_
  show ([(3, 2)] = [(3, 2)] ∧ (∀ (g1 : yM), (g1 = yset (yset (yset g 10 4 0) 2 1 0) 2 3 (-1)) → ([(3, 10)] = [(3, 10)] ∧ (yPe 10 g1) ∧ (∀ (g3 : yM), (yLo 10 g1 g3 (yLi (yTs g1) (g1 2 1))) → ((yLi (yTs g1) (g1 2 1)).1 = -1 → yAp 10 g1 g3 (yLc (yTs g1) (g1 2 1) (g1 10 4))) → (Y 18 [(3, 10), (1, 0)] [] g3)))))
  refine ⟨rfl, ?_⟩
  intro g1 p20
  subst p20
  refine ⟨rfl, (pe), ?_⟩
  intro g3 p40 p41
  rw [tM, e21] at p40
  rw [tM, e21, eq4] at p41
  have hg0 := yLi_g tg (p := 0) (by omega) (by omega)
  have h0q := yLk_d (T := yTs g) 60 0 0
  have hH : (yLi (yTs g) 0).1 = -1 → yHc 10 g3 (yLc (yTs g) 0 0) := fun z => by
    have z1 := p41 z
    have z0 : yHc 10 (yset (yset (yset g 10 4 0) 2 1 0) 2 3 (-1)) [] := ⟨eq4, fun j hj => absurd hj (Nat.not_lt_zero j)⟩
    exact z0.add z1
  rw [show (0 : Int) + ((yLc (yTs g) 0 0).length : Int) = ((yLc (yTs g) 0 0).length : Int) from by omega] at h0q
  rw [h0q] at hK
  refine yl_RD_10 hY hp1 60 0 _ _ _ (by decide) (fun z => ?_) ⟨fun z => ?_, hg0.2⟩ ⟨p40.1, fun a b c1 c2 c3 c4 => (p40.2.1 a b c1 c2 c3 c4).trans (fM a b c1 c2), p40.2.2⟩ hH hK
  · have z1 := hg0.1 z
    exact ⟨by omega, by omega⟩
  · have z1 := hg0.1 z
    exact ⟨by omega, z1.2⟩
theorem yM_RD_10 {l : Launch} (H : zHyp zpTs zpcl zpRO) : yMet l zpTs zpcl zpZ zpRO zpMT yC_RD_10 := ymet_of2 H.1 H.2.1 zpDj H.2.2.1 yRb H.p10 (ymets_cons (yM_RW H) (ymets_cons (yM_LN_10 H) (ymets_cons (yM_AP3 H) (ymets_cons (yM_SG3 H) (ymets_cons (yM_SP H) ymets_nil))))) (zrc1 rfl) (plainFor_of_name zpy10) zpDk110 (fun as g K Y h hA hY => by
  obtain ⟨rfl, hp0, hp1, hK⟩ := h
  exact yv_RD_10 hY hp0 hp1 hK)
def yP_RD_11 : yPT := fun as g K => as = [(3, 11)] ∧ (yTy zpZ g) ∧ (g 2 2 ≤ 60) ∧ (∀ (r : Int) (g' : yM), (r = yTxF (yTs g) (g 2 2)) → (yTy zpZ g') → (yXf 11 g g') → (r = -1 → yHc 11 g' (yLk (yTs g) 60 0 0)) → K [(1, r)] g')
def yC_RD_11 : yC := (110, (69, 2278), yP_RD_11)
set_option maxRecDepth 8000 in
theorem yt_RD_11 {K : List yV → yM → Prop} {Y : yNx} {g m : yM} {l : Int × Int} {i : Int} {c : List (Int × Int)} (hY : yCl zpD110 (zpZ, zpRS, zpP10, zpMT, [yC_RW, yC_LN_11, yC_AP3, yC_SG3, yC_SP], (69, 2278), 1) K Y) (he : g 2 2 ≤ 60) (hm : yLo 11 g m l) (hc : l.1 = -1 → yHc 11 m c) (hK : ∀ (r : Int) (g' : yM), r = yTxE (g 2 2) l → yTy zpZ g' → yXf 11 g g' → (r = -1 → yHc 11 g' (c)) → K [(1, r)] g') : Y 46 [(3, 11), (1, i)] [] m := by
  obtain ⟨m1, m2, m3, m4, m5, m6⟩ := hm
  have e22 : m 2 2 = g 2 2 := m2 2 2 (by omega) (by omega) (by omega) (by omega)
  have tb := yTs_b m (m 2 1)
  refine yrun_ok (sp := fun pc => false) hY 12 46 _ [] m ?_
  show ([(3, 2)] = [(3, 2)] ∧ (0 ≤ m 2 1) ∧ (m 2 2 ≤ 60) ∧ (∀ (r1 : Int), (m 2 3 = -1 → (r1 = -1 ∧ m 2 2 ≤ m 2 1) ∨ (m 2 1 < m 2 2 ∧ r1 = yTs m (m 2 1))) → (m 2 3 ≠ -1 → r1 = -1) → (-1 ≤ r1 ∧ r1 ≤ 255) → ((r1 = (-1) → (K [(1, (m 2 3))] m)) ∧ (¬ (r1 = (-1)) → ([(3, 2)] = [(3, 2)] ∧ (0 ≤ m 2 1 ∧ m 2 1 ≤ 60) ∧ (∀ (g4 : yM), (m 2 3 = -1 → g4 = yset m 2 3 (m 2 1)) → (m 2 3 ≠ -1 → g4 = m) → (K [(1, (g4 2 3))] g4)))))))
  refine ⟨rfl, (m4.1), (by omega), ?_⟩
  intro r1 p20 p21 p22
  refine ⟨fun h3 => ?_, fun h3 => ?_⟩
  · refine hK _ _ ?_ m1 m2 (fun z => hc (m3.symm.trans z))
    by_cases e1 : l.1 = -1
    · have q0 := p20 (m3.trans e1)
      have e2 := (m6 e1).1
      unfold yTxE
      rw [if_pos e1, if_neg (by omega)]
      exact m3.trans e1
    · unfold yTxE
      rw [if_neg e1]
      exact m3
  · refine ⟨rfl, (m4), ?_⟩
    intro g4 p50 p51
    have e1 : m 2 3 = -1 := by
      by_cases e : m 2 3 = -1
      · exact e
      · have z := p21 e
        omega
    have q0 := p20 e1
    have e := p50 e1
    subst e
    have e2 := (m6 (m3.symm.trans e1)).1
    refine hK _ _ ?_ (m1.sO (List.mem_of_getElem? (i := 2) rfl) rfl (by decide +kernel) ⟨by omega, by omega⟩) (fun a b c1 c2 c3 c4 => (yset_ne (by omega)).trans (m2 a b c1 c2 c3 c4)) (fun z => ?_)
    · rw [yset_eq]
      unfold yTxE
      rw [if_pos (m3.symm.trans e1), if_pos (by omega)]
      exact e2
    · rw [yset_eq] at z
      omega
set_option maxRecDepth 8000 in
theorem yl_RD_11 {K : List yV → yM → Prop} {Y : yNx} {g : yM} (hY : yCl zpD110 (zpZ, zpRS, zpP10, zpMT, [yC_RW, yC_LN_11, yC_AP3, yC_SG3, yC_SP], (69, 2278), 1) K Y) (he : g 2 2 ≤ 60) : ∀ (n : Nat) (i : Int) (m : yM) (l : Int × Int) (c : List (Int × Int)) (hi : 0 ≤ i) (hb : l.1 = -1 → i ≤ l.2 ∧ 60 - l.2 ≤ n) (hg : yLg (-1) l) (hm : yLo 11 g m l) (hc : l.1 = -1 → yHc 11 m c) (hK : ∀ (r : Int) (g' : yM), r = yTxE (g 2 2) (yLs (yTs g) n l) → yTy zpZ g' → yXf 11 g g' → (r = -1 → yHc 11 g' (c ++ yTd (yTs g) n l (c.length : Int))) → K [(1, r)] g'), Y 18 [(3, 11), (1, i)] [] m := by
  intro n
  induction n using Nat.strongRecOn with
  | ind n ih =>
    intro i m l c hi hb hg hm hc hK
    obtain ⟨m1, m2, m3, m4, m5, m6⟩ := id hm
    have tg := yTs_tg he
    have tm : yTs m = yTs g := m2.ts (Or.inr rfl)
    have e22 : m 2 2 = g 2 2 := m2 2 2 (by omega) (by omega) (by omega) (by omega)
    refine yrun_ok (sp := fun pc => Nat.beq pc 18 || Nat.beq pc 46) hY 13 18 _ [] m ?_
    show ((60 ≤ i → (Y 46 [(3, 11), (1, i)] [] m)) ∧ (¬ (60 ≤ i) → (∃ (c2 : Int), [(3, 2), (1, 59)] = [(3, 2), (1, c2)] ∧ (0 ≤ m 2 1 ∧ m 2 1 ≤ 60) ∧ (m 2 2 ≤ 60) ∧ (1 ≤ c2) ∧ (∀ (r3 : Int) (g4 : yM), ((r3 = 1 ∧ m 2 3 = -1 ∧ yTs m (m 2 1) = c2 ∧ g4 = yset m 2 1 (m 2 1 + 1)) ∨ (r3 = 0 ∧ (m 2 3 ≠ -1 ∨ yTs m (m 2 1) ≠ c2) ∧ g4 = m)) → ((r3 = 0 → (Y 46 [(3, 11), (1, i)] [] g4)) ∧ (¬ (r3 = 0) → ([(3, 11)] = [(3, 11)] ∧ (yPe 11 g4) ∧ (∀ (g7 : yM), (yLo 11 g4 g7 (yLi (yTs g4) (g4 2 1))) → ((yLi (yTs g4) (g4 2 1)).1 = -1 → yAp 11 g4 g7 (yLc (yTs g4) (g4 2 1) (g4 11 4))) → (Y 18 [(3, 11), (1, (yw (i + 1)))] [] g7)))))))))
    refine ⟨fun h1 => ?_, fun h1 => ?_⟩
    · have cn : ¬ (l.1 = -1 ∧ yTs g l.2 = 59) := fun ⟨z1, z2⟩ => by
        have z4 := hb z1
        have z5 := hg.1 z1
        have z6 := tg l.2 (by omega) (by omega)
        omega
      rw [yLs_0 cn, yTd_0 cn, List.append_nil] at hK
      exact yt_RD_11 hY he hm hc hK
    · refine ⟨_, rfl, (m4), (by omega), (by omega), ?_⟩
      intro r3 g4 p50
      refine ⟨fun h6 => ?_, fun h6 => ?_⟩
      · obtain ⟨bp50, ep50⟩ : (m 2 3 ≠ -1 ∨ yTs m (m 2 1) ≠ 59) ∧ m = g4 := by
          rcases p50 with ⟨z, -⟩ | ⟨-, z1, z2⟩
          · omega
          · exact ⟨z1, z2.symm⟩
        subst ep50
        have cn : ¬ (l.1 = -1 ∧ yTs g l.2 = 59) := fun ⟨z1, z2⟩ => by
          have e2 := (m6 z1).1
          have e3 := m3.trans z1
          rw [tm, e2] at bp50
          omega
        rw [yLs_0 cn, yTd_0 cn, List.append_nil] at hK
        exact yt_RD_11 hY he hm hc hK
      · obtain ⟨ap50, bp50, ep50⟩ : m 2 3 = -1 ∧ yTs m (m 2 1) = 59 ∧ g4 = (yset m 2 1 (m 2 1 + 1)) := by
          rcases p50 with ⟨-, z⟩ | ⟨z, -⟩
          · exact z
          · omega
        subst ep50
        refine ⟨rfl, (by
      have e1 : l.1 = -1 := m3.symm.trans ap50
      obtain ⟨e2, e4⟩ := m6 e1
      rw [tm, e2] at bp50
      have hg1 := hg.1 e1
      have h60 := tg l.2 (by omega) (by omega)
      exact ⟨m1.sO (List.mem_of_getElem? (i := 2) rfl) rfl (by decide +kernel) ⟨by omega, by omega⟩, by rw [yset_nj (by decide)]; exact ap50, by rw [yset_eq]; omega, by rw [yset_nj (by decide)]; omega, by rw [yset_nc (by decide)]; omega, by rw [yset_nc (by decide), yset_eq]; omega⟩), ?_⟩
        intro g7 p80 p81
        have e1 : l.1 = -1 := m3.symm.trans ap50
        obtain ⟨e2, e4⟩ := m6 e1
        rw [tm, e2] at bp50
        have hg1 := hg.1 e1
        have h60 := tg l.2 (by omega) (by omega)
        rw [yTs_pl m 1 (m 2 1 + 1) (by decide), yset_eq, tm, e2] at p80
        rw [yTs_pl m 1 (m 2 1 + 1) (by decide), yset_eq, tm, e2, yset_nc (a := 11) (b := 4) (by decide)] at p81
        have hl : yLo 11 g g7 (yLi (yTs g) (l.2 + 1)) := ⟨p80.1, fun a b c1 c2 c3 c4 => ((p80.2.1 a b c1 c2 c3 c4).trans (yset_ne (by omega))).trans (m2 a b c1 c2 c3 c4), p80.2.2⟩
        have hg2 := yLi_g tg (p := l.2 + 1) (by omega) (by omega)
        have h8 := hb e1
        rw [yw_s (i + 1) (by omega) (by omega)]
        obtain ⟨k, rfl⟩ : ∃ k : Nat, n = k + 1 := ⟨n - 1, by omega⟩
        rw [yLs_1 ⟨e1, bp50⟩, yTd_1 ⟨e1, bp50⟩, ← List.append_assoc] at hK
        have hq4 := (hc e1).1
        have hH : (yLi (yTs g) (l.2 + 1)).1 = -1 → yHc 11 g7 (c ++ yLc (yTs g) (l.2 + 1) (c.length : Int)) := fun z => by
          have z1 := p81 z
          rw [hq4] at z1
          exact yHc.add (g := yset m 2 1 (l.2 + 1)) ((hc e1).of (yset_nc (by decide)) (fun j => yset_nc (by decide)) (fun j => yset_nc (by decide))) z1
        rw [show (c.length : Int) + ((yLc (yTs g) (l.2 + 1) (c.length : Int)).length : Int) = ((c ++ yLc (yTs g) (l.2 + 1) (c.length : Int)).length : Int) from by rw [List.length_append]; omega] at hK
        have e11 : ((k + 1 : Nat) : Int) = (k : Int) + 1 := rfl
        refine ih k (Nat.lt_succ_self k) (i + 1) _ _ _ (by omega) (fun z => ?_) ⟨fun z => ?_, hg2.2⟩ hl hH hK
        · have z1 := hg2.1 z
          exact ⟨by omega, by omega⟩
        · have z1 := hg2.1 z
          exact ⟨by omega, z1.2⟩
set_option maxRecDepth 8000 in
theorem yv_RD_11 {K : List yV → yM → Prop} {Y : yNx} {g : yM} (hY : yCl zpD110 (zpZ, zpRS, zpP10, zpMT, [yC_RW, yC_LN_11, yC_AP3, yC_SG3, yC_SP], (69, 2278), 1) K Y) (hp0 : yTy zpZ g) (hp1 : g 2 2 ≤ 60) (hK : ∀ (r : Int) (g' : yM), (r = yTxF (yTs g) (g 2 2)) → (yTy zpZ g') → (yXf 11 g g') → (r = -1 → yHc 11 g' (yLk (yTs g) 60 0 0)) → K [(1, r)] g') : Y 0 [(3, 11), (0, 0)] [] g := by
  have tg := yTs_tg hp1
  have t0 : yTy zpZ (yset g 11 4 0) := yTy.fix (Or.inr ⟨(Or.inr rfl), rfl⟩) hp0 ⟨fun _ => ⟨by decide, by decide⟩, fun z => absurd z.1 (by decide)⟩
  have t1 : yTy zpZ (yset (yset (yset g 11 4 0) 2 1 0) 2 3 (-1)) := (t0.sO (List.mem_of_getElem? (i := 2) rfl) rfl (by decide +kernel) ⟨by omega, by omega⟩).sO (List.mem_of_getElem? (i := 2) rfl) rfl (by decide +kernel) ⟨by omega, by omega⟩
  have fM : ∀ a b : Nat, ¬ (a = 2 ∧ (b = 1 ∨ b = 3)) → ¬ (a = 11 ∧ b = 4) → (yset (yset (yset g 11 4 0) 2 1 0) 2 3 (-1)) a b = g a b := fun a b c1 c2 => by rw [yset_ne (by omega), yset_ne (by omega), yset_ne (by omega)]
  have e21 : (yset (yset (yset g 11 4 0) 2 1 0) 2 3 (-1)) 2 1 = 0 := by rw [yset_nj (by decide), yset_eq]
  have e23 : (yset (yset (yset g 11 4 0) 2 1 0) 2 3 (-1)) 2 3 = -1 := yset_eq
  have eq4 : (yset (yset (yset g 11 4 0) 2 1 0) 2 3 (-1)) 11 4 = 0 := by rw [yset_nc (by decide), yset_nc (by decide), yset_eq]
  have e22 : (yset (yset (yset g 11 4 0) 2 1 0) 2 3 (-1)) 2 2 = g 2 2 := fM 2 2 (by omega) (by omega)
  have tM : yTs (yset (yset (yset g 11 4 0) 2 1 0) 2 3 (-1)) = yTs g := yTs_eq e22 (fun j => fM 18 j (by omega) (by omega))
  have pe : yPe 11 (yset (yset (yset g 11 4 0) 2 1 0) 2 3 (-1)) := ⟨t1, e23, by omega, by omega, by omega, by omega⟩
  refine yrun_ok (sp := fun pc => Nat.beq pc 18) hY 11 0 _ [] g ?_
  show ([(3, 2)] = [(3, 2)] ∧ (∀ (g1 : yM), (g1 = yset (yset (yset g 11 4 0) 2 1 0) 2 3 (-1)) → ([(3, 11)] = [(3, 11)] ∧ (yPe 11 g1) ∧ (∀ (g3 : yM), (yLo 11 g1 g3 (yLi (yTs g1) (g1 2 1))) → ((yLi (yTs g1) (g1 2 1)).1 = -1 → yAp 11 g1 g3 (yLc (yTs g1) (g1 2 1) (g1 11 4))) → (Y 18 [(3, 11), (1, 0)] [] g3)))))
  refine ⟨rfl, ?_⟩
  intro g1 p20
  subst p20
  refine ⟨rfl, (pe), ?_⟩
  intro g3 p40 p41
  rw [tM, e21] at p40
  rw [tM, e21, eq4] at p41
  have hg0 := yLi_g tg (p := 0) (by omega) (by omega)
  have h0q := yLk_d (T := yTs g) 60 0 0
  have hH : (yLi (yTs g) 0).1 = -1 → yHc 11 g3 (yLc (yTs g) 0 0) := fun z => by
    have z1 := p41 z
    have z0 : yHc 11 (yset (yset (yset g 11 4 0) 2 1 0) 2 3 (-1)) [] := ⟨eq4, fun j hj => absurd hj (Nat.not_lt_zero j)⟩
    exact z0.add z1
  rw [show (0 : Int) + ((yLc (yTs g) 0 0).length : Int) = ((yLc (yTs g) 0 0).length : Int) from by omega] at h0q
  rw [h0q] at hK
  refine yl_RD_11 hY hp1 60 0 _ _ _ (by decide) (fun z => ?_) ⟨fun z => ?_, hg0.2⟩ ⟨p40.1, fun a b c1 c2 c3 c4 => (p40.2.1 a b c1 c2 c3 c4).trans (fM a b c1 c2), p40.2.2⟩ hH hK
  · have z1 := hg0.1 z
    exact ⟨by omega, by omega⟩
  · have z1 := hg0.1 z
    exact ⟨by omega, z1.2⟩
theorem yM_RD_11 {l : Launch} (H : zHyp zpTs zpcl zpRO) : yMet l zpTs zpcl zpZ zpRO zpMT yC_RD_11 := ymet_of2 H.1 H.2.1 zpDj H.2.2.1 yRb H.p10 (ymets_cons (yM_RW H) (ymets_cons (yM_LN_11 H) (ymets_cons (yM_AP3 H) (ymets_cons (yM_SG3 H) (ymets_cons (yM_SP H) ymets_nil))))) (zrc1 rfl) (plainFor_of_name zpy10) zpDk110 (fun as g K Y h hA hY => by
  obtain ⟨rfl, hp0, hp1, hK⟩ := h
  exact yv_RD_11 hY hp0 hp1 hK)
def yP_RT_10 : yPT := fun as g K => as = [(3, 6)] ∧ (yTy zpZ g) ∧ (g 2 2 ≤ 60) ∧ (g 6 6 = 10) ∧ (∀ (r : Int) (g' : yM), (r = yTxF (yTs g) (g 2 2)) → (yTy zpZ g') → (yXtf g g') → (yTS g g' r) → K [(1, r)] g')
def yC_RT_10 : yC := (85, (70, 2299), yP_RT_10)
set_option maxRecDepth 8000 in
theorem yv_RT_10 {K : List yV → yM → Prop} {Y : yNx} {g : yM} (hY : yCl zpD85 (zpZ, zpRS, zpP7, zpMT, [yC_RD_10], (70, 2299), 1) K Y) (hp0 : yTy zpZ g) (hp1 : g 2 2 ≤ 60) (hp2 : g 6 6 = 10) (hK : ∀ (r : Int) (g' : yM), (r = yTxF (yTs g) (g 2 2)) → (yTy zpZ g') → (yXtf g g') → (yTS g g' r) → K [(1, r)] g') : Y 0 [(3, 6), (0, 0), (0, 0)] [] g := by
  have e0 : yset g 6 6 10 = g := by
    rw [← hp2]
    exact yset_id _ _ _
  rw [← e0]
  refine yrun_ok (sp := fun pc => false) hY 19 0 _ [] (yset g 6 6 10) ?_
  show ([(3, ((yset g 6 6 10) 6 6))] = [(3, 10)] ∧ (yTy zpZ (yset g 6 6 10)) ∧ ((yset g 6 6 10) 2 2 ≤ 60) ∧ (∀ (r1 : Int) (g2 : yM), (r1 = yTxF (yTs (yset g 6 6 10)) ((yset g 6 6 10) 2 2)) → (yTy zpZ g2) → (yXf 10 (yset g 6 6 10) g2) → (r1 = -1 → yHc 10 g2 (yLk (yTs (yset g 6 6 10)) 60 0 0)) → ((r1 ≠ (-1) → (K [(1, r1)] g2)) ∧ (¬ (r1 ≠ (-1)) → (((10 : Int) ≤ (g2 6 6) ∧ (g2 6 6) ≤ (11 : Int)) ∧ (((10 : Int) ≤ (g2 6 5) ∧ (g2 6 5) ≤ (11 : Int)) ∧ (K [(1, r1)] (yset (yset g2 6 5 (g2 6 6)) 6 6 (g2 6 5)))))))))
  refine ⟨rfl, (by rw [e0]; exact hp0), (by rw [e0]; exact hp1), ?_⟩
  intro r1 g2 p30 p31 p32 p33
  refine ⟨fun h4 => ?_, fun h4 => ?_⟩
  · have r0 := p30
    have r1 := p31
    have r2 := p32
    have r3 := p33
    rw [e0] at r0 r2 r3
    exact hK _ _ r0 r1 (r2.tf (Or.inl rfl)) ⟨10, (Or.inl rfl), hp2, fun a b c1 c2 c3 c4 c5 => r2 a b c1 c2 c3 c4, fun z => absurd z (by omega), fun z => ⟨r2 6 5 (by omega) (by omega) (by omega) (by omega), r2 6 6 (by omega) (by omega) (by omega) (by omega)⟩⟩
  · refine ⟨(by
      have r1 := p31
      exact r1.fRf (List.mem_of_getElem? (i := 6) rfl) rfl), ?_⟩
    refine ⟨(by
      have r1 := p31
      exact r1.fRf (List.mem_of_getElem? (i := 6) rfl) rfl), ?_⟩
    have r0 := p30
    have r1 := p31
    have r2 := p32
    have r3 := p33
    rw [e0] at r0 r2 r3
    refine hK _ _ r0 ((r1.sRf (List.mem_of_getElem? (i := 6) rfl) rfl (by decide +kernel) (r1.fRf (List.mem_of_getElem? (i := 6) rfl) rfl)).sRf (List.mem_of_getElem? (i := 6) rfl) rfl (by decide +kernel) (r1.fRf (List.mem_of_getElem? (i := 6) rfl) rfl)) (fun a b c1 c2 c3 c4 => ?_) ⟨10, (Or.inl rfl), hp2, fun a b c1 c2 c3 c4 c5 => ?_, fun z => ⟨?_, ?_, ?_⟩, fun z => absurd (by omega) z⟩
    · rw [yset_ne (by omega), yset_ne (by omega)]
      exact r2.tf (Or.inl rfl) a b c1 c2 c3 c4
    · rw [yset_ne (by omega), yset_ne (by omega)]
      exact r2 a b c1 c2 c3 c4
    · rw [yset_nj (by decide), yset_eq]
      exact r2 6 6 (by omega) (by omega) (by omega) (by omega)
    · rw [yset_eq]
      exact r2 6 5 (by omega) (by omega) (by omega) (by omega)
    · exact (r3 z).of ((yset_nc (by decide)).trans (yset_nc (by decide))) (fun j => (yset_nc (by decide)).trans (yset_nc (by decide))) (fun j => (yset_nc (by decide)).trans (yset_nc (by decide)))
theorem yM_RT_10 {l : Launch} (H : zHyp zpTs zpcl zpRO) : yMet l zpTs zpcl zpZ zpRO zpMT yC_RT_10 := ymet_of2 H.1 H.2.1 zpDj H.2.2.1 yRb H.p7 (ymets_cons (yM_RD_10 H) ymets_nil) (zrc1 rfl) (plainFor_of_name zpy7) zpDk85 (fun as g K Y h hA hY => by
  obtain ⟨rfl, hp0, hp1, hp2, hK⟩ := h
  exact yv_RT_10 hY hp0 hp1 hp2 hK)
def yP_RT_11 : yPT := fun as g K => as = [(3, 6)] ∧ (yTy zpZ g) ∧ (g 2 2 ≤ 60) ∧ (g 6 6 = 11) ∧ (∀ (r : Int) (g' : yM), (r = yTxF (yTs g) (g 2 2)) → (yTy zpZ g') → (yXtf g g') → (yTS g g' r) → K [(1, r)] g')
def yC_RT_11 : yC := (85, (70, 2299), yP_RT_11)
set_option maxRecDepth 8000 in
theorem yv_RT_11 {K : List yV → yM → Prop} {Y : yNx} {g : yM} (hY : yCl zpD85 (zpZ, zpRS, zpP7, zpMT, [yC_RD_11], (70, 2299), 1) K Y) (hp0 : yTy zpZ g) (hp1 : g 2 2 ≤ 60) (hp2 : g 6 6 = 11) (hK : ∀ (r : Int) (g' : yM), (r = yTxF (yTs g) (g 2 2)) → (yTy zpZ g') → (yXtf g g') → (yTS g g' r) → K [(1, r)] g') : Y 0 [(3, 6), (0, 0), (0, 0)] [] g := by
  have e0 : yset g 6 6 11 = g := by
    rw [← hp2]
    exact yset_id _ _ _
  rw [← e0]
  refine yrun_ok (sp := fun pc => false) hY 19 0 _ [] (yset g 6 6 11) ?_
  show ([(3, ((yset g 6 6 11) 6 6))] = [(3, 11)] ∧ (yTy zpZ (yset g 6 6 11)) ∧ ((yset g 6 6 11) 2 2 ≤ 60) ∧ (∀ (r1 : Int) (g2 : yM), (r1 = yTxF (yTs (yset g 6 6 11)) ((yset g 6 6 11) 2 2)) → (yTy zpZ g2) → (yXf 11 (yset g 6 6 11) g2) → (r1 = -1 → yHc 11 g2 (yLk (yTs (yset g 6 6 11)) 60 0 0)) → ((r1 ≠ (-1) → (K [(1, r1)] g2)) ∧ (¬ (r1 ≠ (-1)) → (((10 : Int) ≤ (g2 6 6) ∧ (g2 6 6) ≤ (11 : Int)) ∧ (((10 : Int) ≤ (g2 6 5) ∧ (g2 6 5) ≤ (11 : Int)) ∧ (K [(1, r1)] (yset (yset g2 6 5 (g2 6 6)) 6 6 (g2 6 5)))))))))
  refine ⟨rfl, (by rw [e0]; exact hp0), (by rw [e0]; exact hp1), ?_⟩
  intro r1 g2 p30 p31 p32 p33
  refine ⟨fun h4 => ?_, fun h4 => ?_⟩
  · have r0 := p30
    have r1 := p31
    have r2 := p32
    have r3 := p33
    rw [e0] at r0 r2 r3
    exact hK _ _ r0 r1 (r2.tf (Or.inr rfl)) ⟨11, (Or.inr rfl), hp2, fun a b c1 c2 c3 c4 c5 => r2 a b c1 c2 c3 c4, fun z => absurd z (by omega), fun z => ⟨r2 6 5 (by omega) (by omega) (by omega) (by omega), r2 6 6 (by omega) (by omega) (by omega) (by omega)⟩⟩
  · refine ⟨(by
      have r1 := p31
      exact r1.fRf (List.mem_of_getElem? (i := 6) rfl) rfl), ?_⟩
    refine ⟨(by
      have r1 := p31
      exact r1.fRf (List.mem_of_getElem? (i := 6) rfl) rfl), ?_⟩
    have r0 := p30
    have r1 := p31
    have r2 := p32
    have r3 := p33
    rw [e0] at r0 r2 r3
    refine hK _ _ r0 ((r1.sRf (List.mem_of_getElem? (i := 6) rfl) rfl (by decide +kernel) (r1.fRf (List.mem_of_getElem? (i := 6) rfl) rfl)).sRf (List.mem_of_getElem? (i := 6) rfl) rfl (by decide +kernel) (r1.fRf (List.mem_of_getElem? (i := 6) rfl) rfl)) (fun a b c1 c2 c3 c4 => ?_) ⟨11, (Or.inr rfl), hp2, fun a b c1 c2 c3 c4 c5 => ?_, fun z => ⟨?_, ?_, ?_⟩, fun z => absurd (by omega) z⟩
    · rw [yset_ne (by omega), yset_ne (by omega)]
      exact r2.tf (Or.inr rfl) a b c1 c2 c3 c4
    · rw [yset_ne (by omega), yset_ne (by omega)]
      exact r2 a b c1 c2 c3 c4
    · rw [yset_nj (by decide), yset_eq]
      exact r2 6 6 (by omega) (by omega) (by omega) (by omega)
    · rw [yset_eq]
      exact r2 6 5 (by omega) (by omega) (by omega) (by omega)
    · exact (r3 z).of ((yset_nc (by decide)).trans (yset_nc (by decide))) (fun j => (yset_nc (by decide)).trans (yset_nc (by decide))) (fun j => (yset_nc (by decide)).trans (yset_nc (by decide)))
theorem yM_RT_11 {l : Launch} (H : zHyp zpTs zpcl zpRO) : yMet l zpTs zpcl zpZ zpRO zpMT yC_RT_11 := ymet_of2 H.1 H.2.1 zpDj H.2.2.1 yRb H.p7 (ymets_cons (yM_RD_11 H) ymets_nil) (zrc1 rfl) (plainFor_of_name zpy7) zpDk85 (fun as g K Y h hA hY => by
  obtain ⟨rfl, hp0, hp1, hp2, hK⟩ := h
  exact yv_RT_11 hY hp0 hp1 hp2 hK)
def yP_RTJ : yPT := fun as g K => as = [(3, 6)] ∧ (yTy zpZ g) ∧ (g 2 2 ≤ 60) ∧ (∀ (r : Int) (g' : yM), (r = yTxF (yTs g) (g 2 2)) → (yTy zpZ g') → (yXtf g g') → (yTS g g' r) → K [(1, r)] g')
def yC_RTJ : yC := (85, (70, 2299), yP_RTJ)
theorem yM_RTJ {l : Launch} (H : zHyp zpTs zpcl zpRO) : yMet l zpTs zpcl zpZ zpRO zpMT yC_RTJ := yMet.of (yMet.or (yM_RT_10 H) (yM_RT_11 H)) (fun as g K h => by
  obtain ⟨rfl, h1, h2, h3⟩ := h
  have h4 : 10 ≤ g 6 6 ∧ g 6 6 ≤ 11 := h1.fRf (List.mem_of_getElem? (i := 6) rfl) rfl
  by_cases e : g 6 6 = 10
  · exact Or.inl ⟨rfl, h1, h2, e, h3⟩
  · exact Or.inr ⟨rfl, h1, h2, by omega, h3⟩)
def yP_CTXf : yPT := fun as g K => as = [(3, 0)] ∧ (yTy zpZ g) ∧ (g 2 2 ≤ 60) ∧ (∀ (r : Int) (g' : yM), (r = (if yTxF (yTs g) (g 2 2) = -1 then 1 else yw (-100 - yTxF (yTs g) (g 2 2)))) → (∃ m : yM, yTy zpZ m ∧ yXtf g m ∧ yTS g m (yTxF (yTs g) (g 2 2)) ∧ g' = yset m 2 2 0) → K [(1, r)] g')
def yC_CTXf : yC := (35, (71, 2321), yP_CTXf)
set_option maxRecDepth 8000 in
theorem yv_CTXf {K : List yV → yM → Prop} {Y : yNx} {g : yM} (hY : yCl zpD35 (zpZ, zpRS, zpP0, zpMT, [yC_RTJ, yC_CR], (71, 2321), 1) K Y) (hp0 : yTy zpZ g) (hp1 : g 2 2 ≤ 60) (hK : ∀ (r : Int) (g' : yM), (r = (if yTxF (yTs g) (g 2 2) = -1 then 1 else yw (-100 - yTxF (yTs g) (g 2 2)))) → (∃ m : yM, yTy zpZ m ∧ yXtf g m ∧ yTS g m (yTxF (yTs g) (g 2 2)) ∧ g' = yset m 2 2 0) → K [(1, r)] g') : Y 0 [(3, 0), (0, 0)] [] g := by
  refine yrun_ok (sp := fun pc => false) hY 14 0 _ [] g ?_
  show ([(3, 6)] = [(3, 6)] ∧ (yTy zpZ g) ∧ (g 2 2 ≤ 60) ∧ (∀ (r1 : Int) (g2 : yM), (r1 = yTxF (yTs g) (g 2 2)) → (yTy zpZ g2) → (yXtf g g2) → (yTS g g2 r1) → ([(3, 2)] = [(3, 2)] ∧ (∀ (g4 : yM), (g4 = yset g2 2 2 0) → ((r1 ≠ (-1) → (K [(1, (yw ((-100) - r1)))] g4)) ∧ (¬ (r1 ≠ (-1)) → (K [(1, 1)] g4)))))))
  refine ⟨rfl, (by assumption), (by omega), ?_⟩
  intro r1 g2 p30 p31 p32 p33
  refine ⟨rfl, ?_⟩
  intro g4 p50
  subst p50
  refine ⟨fun h6 => ?_, fun h6 => ?_⟩
  · have h3 := p33
    rw [p30] at h3
    refine hK _ _ ?_ ⟨_, p31, p32, h3, rfl⟩
    rw [if_neg (fun z => absurd (p30.trans z) (by omega)), p30]
  · have h3 := p33
    rw [p30] at h3
    refine hK _ _ ?_ ⟨_, p31, p32, h3, rfl⟩
    rw [if_pos (p30.symm.trans (by omega))]
theorem yM_CTXf {l : Launch} (H : zHyp zpTs zpcl zpRO) : yMet l zpTs zpcl zpZ zpRO zpMT yC_CTXf := ymet_of2 H.1 H.2.1 zpDj H.2.2.1 yRb H.p0 (ymets_cons (yM_RTJ H) (ymets_cons (yM_CR H) ymets_nil)) (zrc1 rfl) (plainFor_of_name zpy0) zpDk35 (fun as g K Y h hA hY => by
  obtain ⟨rfl, hp0, hp1, hK⟩ := h
  exact yv_CTXf hY hp0 hp1 hK)
