/-! TEXTS: LINES -/
/-! WHAT A TEXT OF LINES LEAVES TYPED -/
theorem yTy.fix {q j : Nat} (h0 : (33 ≤ q ∧ q ≤ 34) ∨ ((q = 10 ∨ q = 11) ∧ j = 4)) {g : yM} {v : Int} (h : yTy zpZ g) (hv : ((q = 10 ∨ q = 11) ∧ j = 4 → 0 ≤ v ∧ v ≤ 61) ∧ (33 ≤ q ∧ q ≤ 34 → yTI (g (q - 2) j) v)) : yTy zpZ (yset g q j v) := by
  obtain ⟨gh, hg, hT⟩ := h
  refine ⟨gh, hg, fun e he q' a1 a2 => ?_⟩
  have ht := hT e he q' a1 a2
  have k6 : ∀ e ∈ zpZ.1, e.2.2.1 = 6 → e.1 = 31 ∧ e.2.1 = 32 := by decide +kernel
  by_cases d1 : 31 ≤ q' ∧ q' ≤ 34
  · by_cases d0 : q' ≤ 32
    · have b3 : e.2.2 = (6, 0, 61, [(2, 21, 0)]) := zpDj.1 e he _ (List.mem_of_getElem? (i := 30) rfl) q' a1 a2 d1.1 d0
      rw [b3] at ht ⊢
      obtain ⟨t1, t2⟩ := ht
      refine ⟨fun i hi => ?_, fun z1 z2 => ?_⟩
      · have t3 : yTI (g q' i) (g (q' + 2) i) := t1 i hi
        show yTI ((yset g q j v) q' i) ((yset g q j v) (q' + 2) i)
        rw [yset_ne (a := q') (by omega)]
        by_cases d2 : q' + 2 = q ∧ i = j
        · rw [← d2.1, d2.2, yset_eq]
          have h9 := hv.2 (by omega)
          rw [show q - 2 = q' by omega] at h9
          exact h9
        · rw [yset_ne d2]
          exact t3
      · have z2 : 0 ≤ gh 2 := z2
        have := hg.2.2.1
        omega
    · have b3 : e.2.2 = (7, 0, 61, []) := zpDj.1 e he _ (List.mem_of_getElem? (i := 31) rfl) q' a1 a2 (by show 33 ≤ q'; omega) d1.2
      rw [b3]
      trivial
  · by_cases d2 : q' = q
    · have b3 : e.2.2 = (0, 9, 0, [(2, 2, 2), (4, 21, 0), (4, 23, 0), (4, 25, 0), (8, 0, 61)]) := zpDj.1 e he _ (List.mem_of_getElem? (i := 10) rfl) q' a1 a2 (by show 10 ≤ q'; omega) (by show q' ≤ 11; omega)
      rw [b3] at ht ⊢
      intro i ft hi
      by_cases d3 : i = 4
      · rw [d3] at hi
        cases hi
        have hj : j = 4 := by omega
        rw [d2, d3, hj, yset_eq]
        have h9 := hv.1 (by omega)
        refine ⟨h9, fun _ => ?_⟩
        have := hg.2.2.1
        omega
      · have h9 := ht i ft hi
        rw [yset_ne (by omega)]
        exact h9
    · have f2 : ∀ i : Nat, (yset g q j v) q' i = g q' i := fun i => yset_nc d2
      have n6 : e.2.2.1 ≠ 6 := fun z => by
        have := k6 e he z
        omega
      generalize e.2.2 = ct at ht n6 ⊢
      obtain ⟨tg, ci, len, fts⟩ := ct
      match tg, ht, n6 with
      | 0, ht, _ => exact fun j ft hj => by rw [f2]; exact ht j ft hj
      | 1, ht, _ => exact fun j ft hj h0 => by rw [f2]; exact ht j ft hj h0
      | 2, ht, _ => exact fun j ft hj h0 => by rw [f2]; exact ht j ft hj h0
      | 3, _, _ => trivial
      | 4, _, _ => trivial
      | 5, _, _ => trivial
      | 6, _, n6 => exact absurd rfl n6
      | n + 7, _, _ => trivial
/-- a number is set behind -/
theorem yAp.fix {q : Nat} (hq : q = 10 ∨ q = 11) {g m : yM} {a b : List (Int × Int)} {s x v : Int} (h0 : 0 ≤ g q 4) (h : yAp q g m (a ++ [(s, x)] ++ b)) : yAp q g (yset m (q + 23) (Int.toNat (g q 4) + a.length) v) (a ++ (s, v) :: b) := by
  obtain ⟨z1, z2, z3⟩ := h
  have el : (a ++ [(s, x)] ++ b).length = a.length + b.length + 1 := by
    rw [List.length_append, List.length_append, List.length_singleton]
    omega
  have el2 : (a ++ (s, v) :: b).length = a.length + b.length + 1 := by
    rw [List.length_append, List.length_cons]
    omega
  refine ⟨?_, fun j hj => ?_, fun j hj => ?_⟩
  · rw [yset_nc (by omega), z1, el, el2]
  · rw [yset_nc (by omega), yset_nj (by omega)]
    exact z2 j hj
  · have h := z3 j (by omega)
    rw [yset_nc (a := q + 21) (by omega)]
    by_cases e : j = a.length
    · rw [e, yset_eq, List.getElem?_append_right (Nat.le_refl _), Nat.sub_self]
      rw [e, List.append_assoc, List.getElem?_append_right (Nat.le_refl _), Nat.sub_self] at h
      have h : some (s, x) = some (m (q + 21) (Int.toNat (g q 4) + a.length), m (q + 23) (Int.toNat (g q 4) + a.length)) := h
      have e2 : s = m (q + 21) (Int.toNat (g q 4) + a.length) := congrArg Prod.fst (Option.some.inj h)
      rw [← e2]
      rfl
    · rw [yset_nj (by omega), ← h]
      by_cases e3 : j < a.length
      · rw [List.append_assoc, List.getElem?_append_left e3, List.getElem?_append_left e3]
      · rw [List.append_assoc, List.getElem?_append_right (by omega), List.getElem?_append_right (by omega)]
        obtain ⟨i, hi⟩ : ∃ i : Nat, j - a.length = i + 1 := ⟨j - a.length - 1, by omega⟩
        rw [hi]
        rfl
/-- behind a line -/
def yLo (q : Nat) (g m : yM) (l : Int × Int) : Prop := yTy zpZ m ∧ yXf q g m ∧ m 2 3 = l.1 ∧ (0 ≤ m 2 1 ∧ m 2 1 ≤ 60) ∧ (0 ≤ m q 4 ∧ m q 4 ≤ 61) ∧ (l.1 = -1 → m 2 1 = l.2 ∧ m q 4 ≤ m 2 1 + 1)
def zpD114 (pc : Nat) : Option (Instr × Nat) := bif Nat.ble 66 pc then none else (bif Nat.ble 33 pc then (bif Nat.ble 49 pc then (bif Nat.ble 59 pc then (bif Nat.ble 61 pc then (bif Nat.ble 64 pc then (bif Nat.ble 65 pc then (bif Nat.beq pc 65 then some (.return_, 1) else none) else (bif Nat.beq pc 64 then some (.iastore, 1) else none)) else (bif Nat.beq pc 61 then some (.getfield 25, 3) else none)) else (bif Nat.ble 60 pc then (bif Nat.beq pc 60 then some (.aload_n 0, 1) else none) else (bif Nat.beq pc 59 then some (.iload_n 1, 1) else none))) else (bif Nat.ble 52 pc then (bif Nat.ble 55 pc then (bif Nat.ble 56 pc then (bif Nat.beq pc 56 then some (.getfield 15, 3) else none) else (bif Nat.beq pc 55 then some (.aload_n 0, 1) else none)) else (bif Nat.beq pc 52 then some (.if_icmp .ge 13, 3) else none)) else (bif Nat.ble 50 pc then (bif Nat.beq pc 50 then some (.bipush 61, 2) else none) else (bif Nat.beq pc 49 then some (.iload_n 1, 1) else none)))) else (bif Nat.ble 39 pc then (bif Nat.ble 43 pc then (bif Nat.ble 45 pc then (bif Nat.ble 46 pc then (bif Nat.beq pc 46 then some (.invokevirtual 59, 3) else none) else (bif Nat.beq pc 45 then some (.iconst 0, 1) else none)) else (bif Nat.beq pc 43 then some (.bipush 59, 2) else none)) else (bif Nat.ble 42 pc then (bif Nat.beq pc 42 then some (.aload_n 0, 1) else none) else (bif Nat.beq pc 39 then some (.invokevirtual 55, 3) else none))) else (bif Nat.ble 37 pc then (bif Nat.ble 38 pc then (bif Nat.beq pc 38 then some (.iconst 0, 1) else none) else (bif Nat.beq pc 37 then some (.aload_n 0, 1) else none)) else (bif Nat.ble 34 pc then (bif Nat.beq pc 34 then some (.invokevirtual 59, 3) else none) else (bif Nat.beq pc 33 then some (.iconst 0, 1) else none))))) else (bif Nat.ble 16 pc then (bif Nat.ble 25 pc then (bif Nat.ble 29 pc then (bif Nat.ble 30 pc then (bif Nat.ble 31 pc then (bif Nat.beq pc 31 then some (.bipush 63, 2) else none) else (bif Nat.beq pc 30 then some (.aload_n 0, 1) else none)) else (bif Nat.beq pc 29 then some (.return_, 1) else none)) else (bif Nat.ble 26 pc then (bif Nat.beq pc 26 then some (.invokevirtual 59, 3) else none) else (bif Nat.beq pc 25 then some (.iconst 0, 1) else none))) else (bif Nat.ble 22 pc then (bif Nat.ble 23 pc then (bif Nat.beq pc 23 then some (.bipush 59, 2) else none) else (bif Nat.beq pc 22 then some (.aload_n 0, 1) else none)) else (bif Nat.ble 19 pc then (bif Nat.beq pc 19 then some (.ifCond .ne 11, 3) else none) else (bif Nat.beq pc 16 then some (.invokevirtual 37, 3) else none)))) else (bif Nat.ble 6 pc then (bif Nat.ble 10 pc then (bif Nat.ble 11 pc then (bif Nat.ble 14 pc then (bif Nat.beq pc 14 then some (.bipush 63, 2) else none) else (bif Nat.beq pc 11 then some (.getfield 21, 3) else none)) else (bif Nat.beq pc 10 then some (.aload_n 0, 1) else none)) else (bif Nat.ble 9 pc then (bif Nat.beq pc 9 then some (.istore_n 1, 1) else none) else (bif Nat.beq pc 6 then some (.getfield 25, 3) else none))) else (bif Nat.ble 2 pc then (bif Nat.ble 5 pc then (bif Nat.beq pc 5 then some (.aload_n 0, 1) else none) else (bif Nat.beq pc 2 then some (.invokevirtual 55, 3) else none)) else (bif Nat.ble 1 pc then (bif Nat.beq pc 1 then some (.iconst 0, 1) else none) else (bif Nat.beq pc 0 then some (.aload_n 0, 1) else none))))))
theorem zpDk114 : ∀ (pc : Nat) (q : Instr × Nat), zpD114 pc = some q → decode (zpMT 114).2.1 pc = .ok q := zDok_ok (n := 66) (fun pc h => by unfold zpD114; rw [Nat.ble_eq_true_of_le h]; rfl) (by decide +kernel)
def yP_LN_10 : yPT := fun as g K => as = [(3, 10)] ∧ (yPe 10 g) ∧ (∀ (g' : yM), (yLo 10 g g' (yLi (yTs g) (g 2 1))) → ((yLi (yTs g) (g 2 1)).1 = -1 → yAp 10 g g' (yLc (yTs g) (g 2 1) (g 10 4))) → K [] g')
def yC_LN_10 : yC := (114, (68, 2257), yP_LN_10)
set_option maxRecDepth 8000 in
theorem yv_LN_10 {K : List yV → yM → Prop} {Y : yNx} {g : yM} (hY : yCl zpD114 (zpZ, zpRS, zpP10, zpMT, [yC_AP3, yC_AS10, yC_E6_10], (68, 2257), 0) K Y) (hp0 : yPe 10 g) (hK : ∀ (g' : yM), (yLo 10 g g' (yLi (yTs g) (g 2 1))) → ((yLi (yTs g) (g 2 1)).1 = -1 → yAp 10 g g' (yLc (yTs g) (g 2 1) (g 10 4))) → K [] g') : Y 0 [(3, 10), (0, 0)] [] g := by
  have hp := hp0
  obtain ⟨hT0, hf, hpl, hle, hk0, hk1⟩ := id hp
  have tg := yTs_tg hle
  have ha := yEit_gd tg (yOn_gd tg 6) (g 2 1) hpl.1 hpl.2
  refine yrun_ok (sp := fun pc => false) hY 32 0 _ [] g ?_
  show ([(3, 10), (1, 0)] = [(3, 10), (1, 0)] ∧ (yPe 10 g) ∧ (∀ (g1 : yM), (yPo 10 g g1 (yEit (yTs g) (yOn (yTs g) 6) (g 2 1))) → (∃ (c3 : Int), [(3, 2), (1, 63)] = [(3, 2), (1, c3)] ∧ (0 ≤ g1 2 1 ∧ g1 2 1 ≤ 60) ∧ (g1 2 2 ≤ 60) ∧ (1 ≤ c3) ∧ (∀ (r4 : Int) (g5 : yM), ((r4 = 1 ∧ g1 2 3 = -1 ∧ yTs g1 (g1 2 1) = c3 ∧ g5 = yset g1 2 1 (g1 2 1 + 1)) ∨ (r4 = 0 ∧ (g1 2 3 ≠ -1 ∨ yTs g1 (g1 2 1) ≠ c3) ∧ g5 = g1)) → ((r4 ≠ 0 → (∃ (s8 n9 : Int), [(3, 10), (1, 63), (1, 0)] = [(3, 10), (1, s8), (1, n9)] ∧ (yTy zpZ g5) ∧ (0 ≤ g5 10 4 ∧ g5 10 4 ≤ 61) ∧ (s8 = 78 → 0 ≤ n9 ∧ n9 ≤ 7) ∧ (s8 = 63 → 0 ≤ n9) ∧ (∀ (g10 : yM), (yAs 10 g5 g10 s8 n9) → ([(3, 10), (1, 0)] = [(3, 10), (1, 0)] ∧ (yPe 10 g10) ∧ (∀ (g12 : yM), (yPo 10 g10 g12 (yEit (yTs g10) (yOn (yTs g10) 6) (g10 2 1))) → (∃ (s14 n15 : Int), [(3, 10), (1, 59), (1, 0)] = [(3, 10), (1, s14), (1, n15)] ∧ (yTy zpZ g12) ∧ (0 ≤ g12 10 4 ∧ g12 10 4 ≤ 61) ∧ (s14 = 78 → 0 ≤ n15 ∧ n15 ≤ 7) ∧ (s14 = 63 → 0 ≤ n15) ∧ (∀ (g16 : yM), (yAs 10 g12 g16 s14 n15) → ((61 ≤ (g1 10 4) → (K [] g16)) ∧ (¬ (61 ≤ (g1 10 4)) → (((0 : Int) ≤ (g1 10 4) ∧ (g1 10 4) < ((61 : Nat) : Int)) ∧ (K [] (yset g16 33 (Int.toNat (g1 10 4)) (g16 10 4))))))))))))) ∧ (¬ (r4 ≠ 0) → (∃ (s19 n20 : Int), [(3, 10), (1, 59), (1, 0)] = [(3, 10), (1, s19), (1, n20)] ∧ (yTy zpZ g5) ∧ (0 ≤ g5 10 4 ∧ g5 10 4 ≤ 61) ∧ (s19 = 78 → 0 ≤ n20 ∧ n20 ≤ 7) ∧ (s19 = 63 → 0 ≤ n20) ∧ (∀ (g21 : yM), (yAs 10 g5 g21 s19 n20) → (K [] g21)))))))))
  refine ⟨rfl, (hp0), ?_⟩
  intro g1 p20
  have t_p20 := yPo.te (Or.inl rfl) p20
  obtain ⟨x1_p20, x2_p20, x3_p20, x4_p20, x5_p20, x6_p20, x7_p20⟩ := id p20
  refine ⟨_, rfl, (x4_p20), (by have e22 := t_p20.2; omega), (by omega), ?_⟩
  intro r4 g5 p60
  refine ⟨fun h7 => ?_, fun h7 => ?_⟩
  · obtain ⟨ap60, bp60, ep60⟩ : g1 2 3 = -1 ∧ yTs g1 (g1 2 1) = 63 ∧ g5 = (yset g1 2 1 (g1 2 1 + 1)) := by
      rcases p60 with ⟨-, z⟩ | ⟨z, -⟩
      · exact z
      · omega
    subst ep60
    refine ⟨_, _, rfl, (by exact x1_p20.sO (List.mem_of_getElem? (i := 2) rfl) rfl (by decide +kernel) ⟨by omega, by have e1 := x3_p20.symm.trans ap60; have e2 := (x6_p20 e1).1; have e4 := ha.1 e1; rw [t_p20.1, e2] at bp60; have h60 := tg (yEit (yTs g) (yOn (yTs g) 6) (g 2 1)).2.1 (by omega) (by omega); omega⟩), (by
      rw [yset_nc (by decide)]
      exact x5_p20), (by omega), (by omega), ?_⟩
    intro g10 p110
    refine ⟨rfl, (by
      have e1 : (yEit (yTs g) (yOn (yTs g) 6) (g 2 1)).1 = -1 := x3_p20.symm.trans ap60
      obtain ⟨e2, e3⟩ := x6_p20 e1
      rw [t_p20.1, e2] at bp60
      have e4 := ha.1 e1
      have h60 := tg (yEit (yTs g) (yOn (yTs g) 6) (g 2 1)).2.1 (by omega) (by omega)
      have k1 := yPo.k hp p20 ha e1
      have e22 := t_p20.2
      have y4 : (yset g1 2 1 (g1 2 1 + 1)) 10 4 = g1 10 4 := yset_nc (by decide)
      have s1 := p110.2.1 (by omega)
      have f1 := p110.fr (by omega)
      have c4 : g10 10 4 = g1 10 4 + 1 := by rw [s1, yset_eq, y4]
      have c21 : g10 2 1 = (yEit (yTs g) (yOn (yTs g) 6) (g 2 1)).2.1 + 1 := by rw [f1 2 1 (by omega) (by omega) (by omega), yset_eq, e2]
      have c23 : g10 2 3 = -1 := by rw [f1 2 3 (by omega) (by omega) (by omega), yset_nj (by decide)]; exact ap60
      have c22 : g10 2 2 = g 2 2 := by rw [f1 2 2 (by omega) (by omega) (by omega), yset_nj (by decide)]; exact e22
      have hp2 : yPe 10 g10 := ⟨p110.1, c23, ⟨by omega, by omega⟩, by omega, by omega, by omega⟩
      have fx : yXf 10 g g10 := fun a b c1 c2 c3 c4 => ((f1 a b c2 c3 c4).trans (yset_ne (by omega))).trans (x2_p20 a b c1 c2 c3 c4)
      exact hp2), ?_⟩
    intro g12 p130
    have t_p130 := yPo.te (Or.inl rfl) p130
    obtain ⟨x1_p130, x2_p130, x3_p130, x4_p130, x5_p130, x6_p130, x7_p130⟩ := id p130
    refine ⟨_, _, rfl, (x1_p130), (x5_p130), (by
      have e1 : (yEit (yTs g) (yOn (yTs g) 6) (g 2 1)).1 = -1 := x3_p20.symm.trans ap60
      obtain ⟨e2, e3⟩ := x6_p20 e1
      rw [t_p20.1, e2] at bp60
      have e4 := ha.1 e1
      have h60 := tg (yEit (yTs g) (yOn (yTs g) 6) (g 2 1)).2.1 (by omega) (by omega)
      have k1 := yPo.k hp p20 ha e1
      have e22 := t_p20.2
      have y4 : (yset g1 2 1 (g1 2 1 + 1)) 10 4 = g1 10 4 := yset_nc (by decide)
      have s1 := p110.2.1 (by omega)
      have f1 := p110.fr (by omega)
      have c4 : g10 10 4 = g1 10 4 + 1 := by rw [s1, yset_eq, y4]
      have c21 : g10 2 1 = (yEit (yTs g) (yOn (yTs g) 6) (g 2 1)).2.1 + 1 := by rw [f1 2 1 (by omega) (by omega) (by omega), yset_eq, e2]
      have c23 : g10 2 3 = -1 := by rw [f1 2 3 (by omega) (by omega) (by omega), yset_nj (by decide)]; exact ap60
      have c22 : g10 2 2 = g 2 2 := by rw [f1 2 2 (by omega) (by omega) (by omega), yset_nj (by decide)]; exact e22
      have hp2 : yPe 10 g10 := ⟨p110.1, c23, ⟨by omega, by omega⟩, by omega, by omega, by omega⟩
      have fx : yXf 10 g g10 := fun a b c1 c2 c3 c4 => ((f1 a b c2 c3 c4).trans (yset_ne (by omega))).trans (x2_p20 a b c1 c2 c3 c4)
      omega), (by
      have e1 : (yEit (yTs g) (yOn (yTs g) 6) (g 2 1)).1 = -1 := x3_p20.symm.trans ap60
      obtain ⟨e2, e3⟩ := x6_p20 e1
      rw [t_p20.1, e2] at bp60
      have e4 := ha.1 e1
      have h60 := tg (yEit (yTs g) (yOn (yTs g) 6) (g 2 1)).2.1 (by omega) (by omega)
      have k1 := yPo.k hp p20 ha e1
      have e22 := t_p20.2
      have y4 : (yset g1 2 1 (g1 2 1 + 1)) 10 4 = g1 10 4 := yset_nc (by decide)
      have s1 := p110.2.1 (by omega)
      have f1 := p110.fr (by omega)
      have c4 : g10 10 4 = g1 10 4 + 1 := by rw [s1, yset_eq, y4]
      have c21 : g10 2 1 = (yEit (yTs g) (yOn (yTs g) 6) (g 2 1)).2.1 + 1 := by rw [f1 2 1 (by omega) (by omega) (by omega), yset_eq, e2]
      have c23 : g10 2 3 = -1 := by rw [f1 2 3 (by omega) (by omega) (by omega), yset_nj (by decide)]; exact ap60
      have c22 : g10 2 2 = g 2 2 := by rw [f1 2 2 (by omega) (by omega) (by omega), yset_nj (by decide)]; exact e22
      have hp2 : yPe 10 g10 := ⟨p110.1, c23, ⟨by omega, by omega⟩, by omega, by omega, by omega⟩
      have fx : yXf 10 g g10 := fun a b c1 c2 c3 c4 => ((f1 a b c2 c3 c4).trans (yset_ne (by omega))).trans (x2_p20 a b c1 c2 c3 c4)
      omega), ?_⟩
    intro g16 p170
    refine ⟨fun h18 => ?_, fun h18 => ?_⟩
    · have e1 : (yEit (yTs g) (yOn (yTs g) 6) (g 2 1)).1 = -1 := x3_p20.symm.trans ap60
      obtain ⟨e2, e3⟩ := x6_p20 e1
      rw [t_p20.1, e2] at bp60
      have e4 := ha.1 e1
      have h60 := tg (yEit (yTs g) (yOn (yTs g) 6) (g 2 1)).2.1 (by omega) (by omega)
      have k1 := yPo.k hp p20 ha e1
      have e22 := t_p20.2
      have y4 : (yset g1 2 1 (g1 2 1 + 1)) 10 4 = g1 10 4 := yset_nc (by decide)
      have s1 := p110.2.1 (by omega)
      have f1 := p110.fr (by omega)
      have c4 : g10 10 4 = g1 10 4 + 1 := by rw [s1, yset_eq, y4]
      have c21 : g10 2 1 = (yEit (yTs g) (yOn (yTs g) 6) (g 2 1)).2.1 + 1 := by rw [f1 2 1 (by omega) (by omega) (by omega), yset_eq, e2]
      have c23 : g10 2 3 = -1 := by rw [f1 2 3 (by omega) (by omega) (by omega), yset_nj (by decide)]; exact ap60
      have c22 : g10 2 2 = g 2 2 := by rw [f1 2 2 (by omega) (by omega) (by omega), yset_nj (by decide)]; exact e22
      have hp2 : yPe 10 g10 := ⟨p110.1, c23, ⟨by omega, by omega⟩, by omega, by omega, by omega⟩
      have fx : yXf 10 g g10 := fun a b c1 c2 c3 c4 => ((f1 a b c2 c3 c4).trans (yset_ne (by omega))).trans (x2_p20 a b c1 c2 c3 c4)
      omega
    · refine ⟨(by
      have e1 : (yEit (yTs g) (yOn (yTs g) 6) (g 2 1)).1 = -1 := x3_p20.symm.trans ap60
      obtain ⟨e2, e3⟩ := x6_p20 e1
      rw [t_p20.1, e2] at bp60
      have e4 := ha.1 e1
      have h60 := tg (yEit (yTs g) (yOn (yTs g) 6) (g 2 1)).2.1 (by omega) (by omega)
      have k1 := yPo.k hp p20 ha e1
      have e22 := t_p20.2
      have y4 : (yset g1 2 1 (g1 2 1 + 1)) 10 4 = g1 10 4 := yset_nc (by decide)
      have s1 := p110.2.1 (by omega)
      have f1 := p110.fr (by omega)
      have c4 : g10 10 4 = g1 10 4 + 1 := by rw [s1, yset_eq, y4]
      have c21 : g10 2 1 = (yEit (yTs g) (yOn (yTs g) 6) (g 2 1)).2.1 + 1 := by rw [f1 2 1 (by omega) (by omega) (by omega), yset_eq, e2]
      have c23 : g10 2 3 = -1 := by rw [f1 2 3 (by omega) (by omega) (by omega), yset_nj (by decide)]; exact ap60
      have c22 : g10 2 2 = g 2 2 := by rw [f1 2 2 (by omega) (by omega) (by omega), yset_nj (by decide)]; exact e22
      have hp2 : yPe 10 g10 := ⟨p110.1, c23, ⟨by omega, by omega⟩, by omega, by omega, by omega⟩
      have fx : yXf 10 g g10 := fun a b c1 c2 c3 c4 => ((f1 a b c2 c3 c4).trans (yset_ne (by omega))).trans (x2_p20 a b c1 c2 c3 c4)
      omega), ?_⟩
      have e1 : (yEit (yTs g) (yOn (yTs g) 6) (g 2 1)).1 = -1 := x3_p20.symm.trans ap60
      obtain ⟨e2, e3⟩ := x6_p20 e1
      rw [t_p20.1, e2] at bp60
      have e4 := ha.1 e1
      have h60 := tg (yEit (yTs g) (yOn (yTs g) 6) (g 2 1)).2.1 (by omega) (by omega)
      have k1 := yPo.k hp p20 ha e1
      have e22 := t_p20.2
      have y4 : (yset g1 2 1 (g1 2 1 + 1)) 10 4 = g1 10 4 := yset_nc (by decide)
      have s1 := p110.2.1 (by omega)
      have f1 := p110.fr (by omega)
      have c4 : g10 10 4 = g1 10 4 + 1 := by rw [s1, yset_eq, y4]
      have c21 : g10 2 1 = (yEit (yTs g) (yOn (yTs g) 6) (g 2 1)).2.1 + 1 := by rw [f1 2 1 (by omega) (by omega) (by omega), yset_eq, e2]
      have c23 : g10 2 3 = -1 := by rw [f1 2 3 (by omega) (by omega) (by omega), yset_nj (by decide)]; exact ap60
      have c22 : g10 2 2 = g 2 2 := by rw [f1 2 2 (by omega) (by omega) (by omega), yset_nj (by decide)]; exact e22
      have hp2 : yPe 10 g10 := ⟨p110.1, c23, ⟨by omega, by omega⟩, by omega, by omega, by omega⟩
      have fx : yXf 10 g g10 := fun a b c1 c2 c3 c4 => ((f1 a b c2 c3 c4).trans (yset_ne (by omega))).trans (x2_p20 a b c1 c2 c3 c4)
      have tb : yTs g10 = yTs g := fx.ts (Or.inl rfl)
      have hx : yPo 10 g10 g12 (yEit (yTs g) (yOn (yTs g) 6) ((yEit (yTs g) (yOn (yTs g) 6) (g 2 1)).2.1 + 1)) := by
        have h9 := p130
        rw [tb, c21] at h9
        exact h9
      have hb := yEit_gd tg (yOn_gd tg 6) ((yEit (yTs g) (yOn (yTs g) 6) (g 2 1)).2.1 + 1) (by omega) (by omega)
      have hb2 : yGr (g10 2 1) (yEit (yTs g) (yOn (yTs g) 6) ((yEit (yTs g) (yOn (yTs g) 6) (g 2 1)).2.1 + 1)) := by rw [c21]; exact hb
      obtain ⟨w1, w2, w3, w4, w5, w6, w7, w8⟩ := id hx
      have f4 := p170.fr w5.2
      have o4 := p170.old (Or.inl rfl) w5
      have s63 : g16 31 (Int.toNat (g1 10 4)) = 63 := by
        rw [o4.2 _ (by omega), w8 _ (by omega), s1, y4]
        simp only [yset_nc, yset_eq, ne_eq, Nat.reduceEqDiff, not_false_eq_true]
      have c21b : g16 2 1 = g12 2 1 := f4 2 1 (by omega) (by omega) (by omega)
      have c4b : 0 ≤ g16 10 4 ∧ g16 10 4 ≤ 61 ∧ g16 10 4 ≤ g12 10 4 + 1 := by
        by_cases e : g12 10 4 < 61
        · rw [p170.2.1 e, yset_eq]
          omega
        · rw [p170.2.2 (by omega)]
          omega
      rw [yLi_c e1 bp60] at hK
      refine hK _ ⟨yTy.fix (Or.inl ⟨by decide, by decide⟩) p170.1 ⟨fun z => absurd z.1 (by decide), fun _ => ?_⟩, fun a b c1 c2 c3 c4 => (yset_nc c4).trans (((f4 a b c2 c3 c4).trans (w2 a b c1 c2 c3 c4)).trans (fx a b c1 c2 c3 c4)), ?_, ?_, ?_, fun z => ?_⟩ (fun z => ?_)
      · have h9 : g16 31 (Int.toNat (g1 10 4)) = 63 := s63
        show yTI (g16 31 (Int.toNat (g1 10 4))) (g16 10 4)
        rw [h9]
        exact ⟨fun z => absurd z (by decide), fun _ => c4b.1⟩
      · rw [yset_nc (by decide), f4 2 3 (by omega) (by omega) (by omega)]
        exact w3
      · rw [yset_nc (by decide), c21b]
        exact w4
      · rw [yset_nc (by decide)]
        exact ⟨c4b.1, c4b.2.1⟩
      · have z : (yEit (yTs g) (yOn (yTs g) 6) ((yEit (yTs g) (yOn (yTs g) 6) (g 2 1)).2.1 + 1)).1 = -1 := z
        have k3 := yPo.k hp2 hx hb2 z
        have e9 := (w6 z).1
        rw [yset_nc (by decide), yset_nc (by decide), c21b]
        exact ⟨e9, by omega⟩
      · have z : (yEit (yTs g) (yOn (yTs g) 6) ((yEit (yTs g) (yOn (yTs g) 6) (g 2 1)).2.1 + 1)).1 = -1 := z
        have k3 := yPo.k hp2 hx hb2 z
        have a1 : yAp 10 g (yset g1 2 1 (g1 2 1 + 1)) (yEit (yTs g) (yOn (yTs g) 6) (g 2 1)).2.2 := by
          obtain ⟨u1, u2, u3⟩ := e3
          exact ⟨by rw [y4]; exact u1, fun j hj => by rw [yset_nc (by decide), yset_nc (by decide)]; exact u2 j hj, fun j hj => by rw [yset_nc (by decide), yset_nc (by decide)]; exact u3 j hj⟩
        have a2 := yAp.cat hk0 a1 (p110.ap (Or.inl rfl) (by omega) (by omega))
        have a3 := yAp.cat hk0 a2 (w6 z).2
        have a4 := yAp.cat hk0 a3 (p170.ap (Or.inl rfl) w5.1 (by omega))
        rw [List.append_assoc ((yEit (yTs g) (yOn (yTs g) 6) (g 2 1)).2.2 ++ [(63, 0)])] at a4
        have a5 := yAp.fix (Or.inl rfl) (v := g16 10 4) hk0 a4
        have t1 : Int.toNat (g 10 4) + (yEit (yTs g) (yOn (yTs g) 6) (g 2 1)).2.2.length = Int.toNat (g1 10 4) := by
          have := e3.1
          omega
        have t2 : g16 10 4 = g 10 4 + (((yEit (yTs g) (yOn (yTs g) 6) (g 2 1)).2.2.length + (yEit (yTs g) (yOn (yTs g) 6) ((yEit (yTs g) (yOn (yTs g) 6) (g 2 1)).2.1 + 1)).2.2.length + 2 : Nat) : Int) := by
          have h9 := a4.1
          rw [List.length_append, List.length_append, List.length_append, List.length_singleton, List.length_singleton] at h9
          omega
        have ec : yLc (yTs g) (g 2 1) (g 10 4) = (yEit (yTs g) (yOn (yTs g) 6) (g 2 1)).2.2 ++ (63, g 10 4 + (((yEit (yTs g) (yOn (yTs g) 6) (g 2 1)).2.2.length + (yEit (yTs g) (yOn (yTs g) 6) ((yEit (yTs g) (yOn (yTs g) 6) (g 2 1)).2.1 + 1)).2.2.length + 2 : Nat) : Int)) :: ((yEit (yTs g) (yOn (yTs g) 6) ((yEit (yTs g) (yOn (yTs g) 6) (g 2 1)).2.1 + 1)).2.2 ++ [(59, 0)]) := if_pos bp60
        rw [ec, ← t2]
        rw [t1] at a5
        exact a5
  · obtain ⟨bp60, ep60⟩ : (g1 2 3 ≠ -1 ∨ yTs g1 (g1 2 1) ≠ 63) ∧ g1 = g5 := by
      rcases p60 with ⟨z, -⟩ | ⟨-, z1, z2⟩
      · omega
      · exact ⟨z1, z2.symm⟩
    subst ep60
    refine ⟨_, _, rfl, (by omega), (by omega), (by omega), (by omega), ?_⟩
    intro g21 p220
    have f1 := p220.fr x5_p20.2
    have o1 := p220.old (Or.inl rfl) x5_p20
    have c21 : g21 2 1 = g1 2 1 := f1 2 1 (by omega) (by omega) (by omega)
    have c4 : 0 ≤ g21 10 4 ∧ g21 10 4 ≤ 61 ∧ g21 10 4 ≤ g1 10 4 + 1 := by
      by_cases e : g1 10 4 < 61
      · rw [p220.2.1 e, yset_eq]
        omega
      · rw [p220.2.2 (by omega)]
        omega
    refine hK _ ⟨p220.1, fun a b c1 c2 c3 c4 => (f1 a b c2 c3 c4).trans (x2_p20 a b c1 c2 c3 c4), ?_, by rw [c21]; exact x4_p20, ⟨c4.1, c4.2.1⟩, fun z => ?_⟩ (fun z => ?_)
    · rw [f1 2 3 (by omega) (by omega) (by omega), x3_p20]
      by_cases e1 : (yEit (yTs g) (yOn (yTs g) 6) (g 2 1)).1 = -1
      · rw [yLi_b e1 (by have e2 := (x6_p20 e1).1; rw [t_p20.1, e2] at bp60; have e3 := x3_p20.trans e1; omega)]
        exact e1
      · rw [yLi_a e1]
    · by_cases e1 : (yEit (yTs g) (yOn (yTs g) 6) (g 2 1)).1 = -1
      · rw [yLi_b e1 (by have e2 := (x6_p20 e1).1; rw [t_p20.1, e2] at bp60; have e3 := x3_p20.trans e1; omega)]
        have k1 := yPo.k hp p20 ha e1
        have e2 := (x6_p20 e1).1
        exact ⟨by rw [c21]; exact e2, by omega⟩
      · rw [yLi_a e1] at z
        exact absurd z e1
    · by_cases e1 : (yEit (yTs g) (yOn (yTs g) 6) (g 2 1)).1 = -1
      · have hn : yTs g (yEit (yTs g) (yOn (yTs g) 6) (g 2 1)).2.1 ≠ 63 := by
          have e2 := (x6_p20 e1).1
          rw [t_p20.1, e2] at bp60
          have e3 := x3_p20.trans e1
          omega
        have k1 := yPo.k hp p20 ha e1
        have x4 := x4_p20
        have c1 := yAp.cat hk0 (x6_p20 e1).2 (p220.ap (Or.inl rfl) x5_p20.1 (by omega))
        have ec : yLc (yTs g) (g 2 1) (g 10 4) = (yEit (yTs g) (yOn (yTs g) 6) (g 2 1)).2.2 ++ [(59, 0)] := if_neg hn
        rw [ec]
        exact c1
      · rw [yLi_a e1] at z
        exact absurd z e1
theorem yM_LN_10 {l : Launch} (H : zHyp zpTs zpcl zpRO) : yMet l zpTs zpcl zpZ zpRO zpMT yC_LN_10 := ymet_of2 H.1 H.2.1 zpDj H.2.2.1 yRb H.p10 (ymets_cons (yM_AP3 H) (ymets_cons (yM_AS10 H) (ymets_cons (yM_E6_10 H) ymets_nil))) (zrc0 rfl) (plainFor_of_name zpy10) zpDk114 (fun as g K Y h hA hY => by
  obtain ⟨rfl, hp0, hK⟩ := h
  exact yv_LN_10 hY hp0 hK)
def yP_LN_11 : yPT := fun as g K => as = [(3, 11)] ∧ (yPe 11 g) ∧ (∀ (g' : yM), (yLo 11 g g' (yLi (yTs g) (g 2 1))) → ((yLi (yTs g) (g 2 1)).1 = -1 → yAp 11 g g' (yLc (yTs g) (g 2 1) (g 11 4))) → K [] g')
def yC_LN_11 : yC := (114, (68, 2257), yP_LN_11)
set_option maxRecDepth 8000 in
theorem yv_LN_11 {K : List yV → yM → Prop} {Y : yNx} {g : yM} (hY : yCl zpD114 (zpZ, zpRS, zpP10, zpMT, [yC_AP3, yC_AS11, yC_E6_11], (68, 2257), 0) K Y) (hp0 : yPe 11 g) (hK : ∀ (g' : yM), (yLo 11 g g' (yLi (yTs g) (g 2 1))) → ((yLi (yTs g) (g 2 1)).1 = -1 → yAp 11 g g' (yLc (yTs g) (g 2 1) (g 11 4))) → K [] g') : Y 0 [(3, 11), (0, 0)] [] g := by
  have hp := hp0
  obtain ⟨hT0, hf, hpl, hle, hk0, hk1⟩ := id hp
  have tg := yTs_tg hle
  have ha := yEit_gd tg (yOn_gd tg 6) (g 2 1) hpl.1 hpl.2
  refine yrun_ok (sp := fun pc => false) hY 32 0 _ [] g ?_
  show ([(3, 11), (1, 0)] = [(3, 11), (1, 0)] ∧ (yPe 11 g) ∧ (∀ (g1 : yM), (yPo 11 g g1 (yEit (yTs g) (yOn (yTs g) 6) (g 2 1))) → (∃ (c3 : Int), [(3, 2), (1, 63)] = [(3, 2), (1, c3)] ∧ (0 ≤ g1 2 1 ∧ g1 2 1 ≤ 60) ∧ (g1 2 2 ≤ 60) ∧ (1 ≤ c3) ∧ (∀ (r4 : Int) (g5 : yM), ((r4 = 1 ∧ g1 2 3 = -1 ∧ yTs g1 (g1 2 1) = c3 ∧ g5 = yset g1 2 1 (g1 2 1 + 1)) ∨ (r4 = 0 ∧ (g1 2 3 ≠ -1 ∨ yTs g1 (g1 2 1) ≠ c3) ∧ g5 = g1)) → ((r4 ≠ 0 → (∃ (s8 n9 : Int), [(3, 11), (1, 63), (1, 0)] = [(3, 11), (1, s8), (1, n9)] ∧ (yTy zpZ g5) ∧ (0 ≤ g5 11 4 ∧ g5 11 4 ≤ 61) ∧ (s8 = 78 → 0 ≤ n9 ∧ n9 ≤ 7) ∧ (s8 = 63 → 0 ≤ n9) ∧ (∀ (g10 : yM), (yAs 11 g5 g10 s8 n9) → ([(3, 11), (1, 0)] = [(3, 11), (1, 0)] ∧ (yPe 11 g10) ∧ (∀ (g12 : yM), (yPo 11 g10 g12 (yEit (yTs g10) (yOn (yTs g10) 6) (g10 2 1))) → (∃ (s14 n15 : Int), [(3, 11), (1, 59), (1, 0)] = [(3, 11), (1, s14), (1, n15)] ∧ (yTy zpZ g12) ∧ (0 ≤ g12 11 4 ∧ g12 11 4 ≤ 61) ∧ (s14 = 78 → 0 ≤ n15 ∧ n15 ≤ 7) ∧ (s14 = 63 → 0 ≤ n15) ∧ (∀ (g16 : yM), (yAs 11 g12 g16 s14 n15) → ((61 ≤ (g1 11 4) → (K [] g16)) ∧ (¬ (61 ≤ (g1 11 4)) → (((0 : Int) ≤ (g1 11 4) ∧ (g1 11 4) < ((61 : Nat) : Int)) ∧ (K [] (yset g16 34 (Int.toNat (g1 11 4)) (g16 11 4))))))))))))) ∧ (¬ (r4 ≠ 0) → (∃ (s19 n20 : Int), [(3, 11), (1, 59), (1, 0)] = [(3, 11), (1, s19), (1, n20)] ∧ (yTy zpZ g5) ∧ (0 ≤ g5 11 4 ∧ g5 11 4 ≤ 61) ∧ (s19 = 78 → 0 ≤ n20 ∧ n20 ≤ 7) ∧ (s19 = 63 → 0 ≤ n20) ∧ (∀ (g21 : yM), (yAs 11 g5 g21 s19 n20) → (K [] g21)))))))))
  refine ⟨rfl, (hp0), ?_⟩
  intro g1 p20
  have t_p20 := yPo.te (Or.inr rfl) p20
  obtain ⟨x1_p20, x2_p20, x3_p20, x4_p20, x5_p20, x6_p20, x7_p20⟩ := id p20
  refine ⟨_, rfl, (x4_p20), (by have e22 := t_p20.2; omega), (by omega), ?_⟩
  intro r4 g5 p60
  refine ⟨fun h7 => ?_, fun h7 => ?_⟩
  · obtain ⟨ap60, bp60, ep60⟩ : g1 2 3 = -1 ∧ yTs g1 (g1 2 1) = 63 ∧ g5 = (yset g1 2 1 (g1 2 1 + 1)) := by
      rcases p60 with ⟨-, z⟩ | ⟨z, -⟩
      · exact z
      · omega
    subst ep60
    refine ⟨_, _, rfl, (by exact x1_p20.sO (List.mem_of_getElem? (i := 2) rfl) rfl (by decide +kernel) ⟨by omega, by have e1 := x3_p20.symm.trans ap60; have e2 := (x6_p20 e1).1; have e4 := ha.1 e1; rw [t_p20.1, e2] at bp60; have h60 := tg (yEit (yTs g) (yOn (yTs g) 6) (g 2 1)).2.1 (by omega) (by omega); omega⟩), (by
      rw [yset_nc (by decide)]
      exact x5_p20), (by omega), (by omega), ?_⟩
    intro g10 p110
    refine ⟨rfl, (by
      have e1 : (yEit (yTs g) (yOn (yTs g) 6) (g 2 1)).1 = -1 := x3_p20.symm.trans ap60
      obtain ⟨e2, e3⟩ := x6_p20 e1
      rw [t_p20.1, e2] at bp60
      have e4 := ha.1 e1
      have h60 := tg (yEit (yTs g) (yOn (yTs g) 6) (g 2 1)).2.1 (by omega) (by omega)
      have k1 := yPo.k hp p20 ha e1
      have e22 := t_p20.2
      have y4 : (yset g1 2 1 (g1 2 1 + 1)) 11 4 = g1 11 4 := yset_nc (by decide)
      have s1 := p110.2.1 (by omega)
      have f1 := p110.fr (by omega)
      have c4 : g10 11 4 = g1 11 4 + 1 := by rw [s1, yset_eq, y4]
      have c21 : g10 2 1 = (yEit (yTs g) (yOn (yTs g) 6) (g 2 1)).2.1 + 1 := by rw [f1 2 1 (by omega) (by omega) (by omega), yset_eq, e2]
      have c23 : g10 2 3 = -1 := by rw [f1 2 3 (by omega) (by omega) (by omega), yset_nj (by decide)]; exact ap60
      have c22 : g10 2 2 = g 2 2 := by rw [f1 2 2 (by omega) (by omega) (by omega), yset_nj (by decide)]; exact e22
      have hp2 : yPe 11 g10 := ⟨p110.1, c23, ⟨by omega, by omega⟩, by omega, by omega, by omega⟩
      have fx : yXf 11 g g10 := fun a b c1 c2 c3 c4 => ((f1 a b c2 c3 c4).trans (yset_ne (by omega))).trans (x2_p20 a b c1 c2 c3 c4)
      exact hp2), ?_⟩
    intro g12 p130
    have t_p130 := yPo.te (Or.inr rfl) p130
    obtain ⟨x1_p130, x2_p130, x3_p130, x4_p130, x5_p130, x6_p130, x7_p130⟩ := id p130
    refine ⟨_, _, rfl, (x1_p130), (x5_p130), (by
      have e1 : (yEit (yTs g) (yOn (yTs g) 6) (g 2 1)).1 = -1 := x3_p20.symm.trans ap60
      obtain ⟨e2, e3⟩ := x6_p20 e1
      rw [t_p20.1, e2] at bp60
      have e4 := ha.1 e1
      have h60 := tg (yEit (yTs g) (yOn (yTs g) 6) (g 2 1)).2.1 (by omega) (by omega)
      have k1 := yPo.k hp p20 ha e1
      have e22 := t_p20.2
      have y4 : (yset g1 2 1 (g1 2 1 + 1)) 11 4 = g1 11 4 := yset_nc (by decide)
      have s1 := p110.2.1 (by omega)
      have f1 := p110.fr (by omega)
      have c4 : g10 11 4 = g1 11 4 + 1 := by rw [s1, yset_eq, y4]
      have c21 : g10 2 1 = (yEit (yTs g) (yOn (yTs g) 6) (g 2 1)).2.1 + 1 := by rw [f1 2 1 (by omega) (by omega) (by omega), yset_eq, e2]
      have c23 : g10 2 3 = -1 := by rw [f1 2 3 (by omega) (by omega) (by omega), yset_nj (by decide)]; exact ap60
      have c22 : g10 2 2 = g 2 2 := by rw [f1 2 2 (by omega) (by omega) (by omega), yset_nj (by decide)]; exact e22
      have hp2 : yPe 11 g10 := ⟨p110.1, c23, ⟨by omega, by omega⟩, by omega, by omega, by omega⟩
      have fx : yXf 11 g g10 := fun a b c1 c2 c3 c4 => ((f1 a b c2 c3 c4).trans (yset_ne (by omega))).trans (x2_p20 a b c1 c2 c3 c4)
      omega), (by
      have e1 : (yEit (yTs g) (yOn (yTs g) 6) (g 2 1)).1 = -1 := x3_p20.symm.trans ap60
      obtain ⟨e2, e3⟩ := x6_p20 e1
      rw [t_p20.1, e2] at bp60
      have e4 := ha.1 e1
      have h60 := tg (yEit (yTs g) (yOn (yTs g) 6) (g 2 1)).2.1 (by omega) (by omega)
      have k1 := yPo.k hp p20 ha e1
      have e22 := t_p20.2
      have y4 : (yset g1 2 1 (g1 2 1 + 1)) 11 4 = g1 11 4 := yset_nc (by decide)
      have s1 := p110.2.1 (by omega)
      have f1 := p110.fr (by omega)
      have c4 : g10 11 4 = g1 11 4 + 1 := by rw [s1, yset_eq, y4]
      have c21 : g10 2 1 = (yEit (yTs g) (yOn (yTs g) 6) (g 2 1)).2.1 + 1 := by rw [f1 2 1 (by omega) (by omega) (by omega), yset_eq, e2]
      have c23 : g10 2 3 = -1 := by rw [f1 2 3 (by omega) (by omega) (by omega), yset_nj (by decide)]; exact ap60
      have c22 : g10 2 2 = g 2 2 := by rw [f1 2 2 (by omega) (by omega) (by omega), yset_nj (by decide)]; exact e22
      have hp2 : yPe 11 g10 := ⟨p110.1, c23, ⟨by omega, by omega⟩, by omega, by omega, by omega⟩
      have fx : yXf 11 g g10 := fun a b c1 c2 c3 c4 => ((f1 a b c2 c3 c4).trans (yset_ne (by omega))).trans (x2_p20 a b c1 c2 c3 c4)
      omega), ?_⟩
    intro g16 p170
    refine ⟨fun h18 => ?_, fun h18 => ?_⟩
    · have e1 : (yEit (yTs g) (yOn (yTs g) 6) (g 2 1)).1 = -1 := x3_p20.symm.trans ap60
      obtain ⟨e2, e3⟩ := x6_p20 e1
      rw [t_p20.1, e2] at bp60
      have e4 := ha.1 e1
      have h60 := tg (yEit (yTs g) (yOn (yTs g) 6) (g 2 1)).2.1 (by omega) (by omega)
      have k1 := yPo.k hp p20 ha e1
      have e22 := t_p20.2
      have y4 : (yset g1 2 1 (g1 2 1 + 1)) 11 4 = g1 11 4 := yset_nc (by decide)
      have s1 := p110.2.1 (by omega)
      have f1 := p110.fr (by omega)
      have c4 : g10 11 4 = g1 11 4 + 1 := by rw [s1, yset_eq, y4]
      have c21 : g10 2 1 = (yEit (yTs g) (yOn (yTs g) 6) (g 2 1)).2.1 + 1 := by rw [f1 2 1 (by omega) (by omega) (by omega), yset_eq, e2]
      have c23 : g10 2 3 = -1 := by rw [f1 2 3 (by omega) (by omega) (by omega), yset_nj (by decide)]; exact ap60
      have c22 : g10 2 2 = g 2 2 := by rw [f1 2 2 (by omega) (by omega) (by omega), yset_nj (by decide)]; exact e22
      have hp2 : yPe 11 g10 := ⟨p110.1, c23, ⟨by omega, by omega⟩, by omega, by omega, by omega⟩
      have fx : yXf 11 g g10 := fun a b c1 c2 c3 c4 => ((f1 a b c2 c3 c4).trans (yset_ne (by omega))).trans (x2_p20 a b c1 c2 c3 c4)
      omega
    · refine ⟨(by
      have e1 : (yEit (yTs g) (yOn (yTs g) 6) (g 2 1)).1 = -1 := x3_p20.symm.trans ap60
      obtain ⟨e2, e3⟩ := x6_p20 e1
      rw [t_p20.1, e2] at bp60
      have e4 := ha.1 e1
      have h60 := tg (yEit (yTs g) (yOn (yTs g) 6) (g 2 1)).2.1 (by omega) (by omega)
      have k1 := yPo.k hp p20 ha e1
      have e22 := t_p20.2
      have y4 : (yset g1 2 1 (g1 2 1 + 1)) 11 4 = g1 11 4 := yset_nc (by decide)
      have s1 := p110.2.1 (by omega)
      have f1 := p110.fr (by omega)
      have c4 : g10 11 4 = g1 11 4 + 1 := by rw [s1, yset_eq, y4]
      have c21 : g10 2 1 = (yEit (yTs g) (yOn (yTs g) 6) (g 2 1)).2.1 + 1 := by rw [f1 2 1 (by omega) (by omega) (by omega), yset_eq, e2]
      have c23 : g10 2 3 = -1 := by rw [f1 2 3 (by omega) (by omega) (by omega), yset_nj (by decide)]; exact ap60
      have c22 : g10 2 2 = g 2 2 := by rw [f1 2 2 (by omega) (by omega) (by omega), yset_nj (by decide)]; exact e22
      have hp2 : yPe 11 g10 := ⟨p110.1, c23, ⟨by omega, by omega⟩, by omega, by omega, by omega⟩
      have fx : yXf 11 g g10 := fun a b c1 c2 c3 c4 => ((f1 a b c2 c3 c4).trans (yset_ne (by omega))).trans (x2_p20 a b c1 c2 c3 c4)
      omega), ?_⟩
      have e1 : (yEit (yTs g) (yOn (yTs g) 6) (g 2 1)).1 = -1 := x3_p20.symm.trans ap60
      obtain ⟨e2, e3⟩ := x6_p20 e1
      rw [t_p20.1, e2] at bp60
      have e4 := ha.1 e1
      have h60 := tg (yEit (yTs g) (yOn (yTs g) 6) (g 2 1)).2.1 (by omega) (by omega)
      have k1 := yPo.k hp p20 ha e1
      have e22 := t_p20.2
      have y4 : (yset g1 2 1 (g1 2 1 + 1)) 11 4 = g1 11 4 := yset_nc (by decide)
      have s1 := p110.2.1 (by omega)
      have f1 := p110.fr (by omega)
      have c4 : g10 11 4 = g1 11 4 + 1 := by rw [s1, yset_eq, y4]
      have c21 : g10 2 1 = (yEit (yTs g) (yOn (yTs g) 6) (g 2 1)).2.1 + 1 := by rw [f1 2 1 (by omega) (by omega) (by omega), yset_eq, e2]
      have c23 : g10 2 3 = -1 := by rw [f1 2 3 (by omega) (by omega) (by omega), yset_nj (by decide)]; exact ap60
      have c22 : g10 2 2 = g 2 2 := by rw [f1 2 2 (by omega) (by omega) (by omega), yset_nj (by decide)]; exact e22
      have hp2 : yPe 11 g10 := ⟨p110.1, c23, ⟨by omega, by omega⟩, by omega, by omega, by omega⟩
      have fx : yXf 11 g g10 := fun a b c1 c2 c3 c4 => ((f1 a b c2 c3 c4).trans (yset_ne (by omega))).trans (x2_p20 a b c1 c2 c3 c4)
      have tb : yTs g10 = yTs g := fx.ts (Or.inr rfl)
      have hx : yPo 11 g10 g12 (yEit (yTs g) (yOn (yTs g) 6) ((yEit (yTs g) (yOn (yTs g) 6) (g 2 1)).2.1 + 1)) := by
        have h9 := p130
        rw [tb, c21] at h9
        exact h9
      have hb := yEit_gd tg (yOn_gd tg 6) ((yEit (yTs g) (yOn (yTs g) 6) (g 2 1)).2.1 + 1) (by omega) (by omega)
      have hb2 : yGr (g10 2 1) (yEit (yTs g) (yOn (yTs g) 6) ((yEit (yTs g) (yOn (yTs g) 6) (g 2 1)).2.1 + 1)) := by rw [c21]; exact hb
      obtain ⟨w1, w2, w3, w4, w5, w6, w7, w8⟩ := id hx
      have f4 := p170.fr w5.2
      have o4 := p170.old (Or.inr rfl) w5
      have s63 : g16 32 (Int.toNat (g1 11 4)) = 63 := by
        rw [o4.2 _ (by omega), w8 _ (by omega), s1, y4]
        simp only [yset_nc, yset_eq, ne_eq, Nat.reduceEqDiff, not_false_eq_true]
      have c21b : g16 2 1 = g12 2 1 := f4 2 1 (by omega) (by omega) (by omega)
      have c4b : 0 ≤ g16 11 4 ∧ g16 11 4 ≤ 61 ∧ g16 11 4 ≤ g12 11 4 + 1 := by
        by_cases e : g12 11 4 < 61
        · rw [p170.2.1 e, yset_eq]
          omega
        · rw [p170.2.2 (by omega)]
          omega
      rw [yLi_c e1 bp60] at hK
      refine hK _ ⟨yTy.fix (Or.inl ⟨by decide, by decide⟩) p170.1 ⟨fun z => absurd z.1 (by decide), fun _ => ?_⟩, fun a b c1 c2 c3 c4 => (yset_nc c4).trans (((f4 a b c2 c3 c4).trans (w2 a b c1 c2 c3 c4)).trans (fx a b c1 c2 c3 c4)), ?_, ?_, ?_, fun z => ?_⟩ (fun z => ?_)
      · have h9 : g16 32 (Int.toNat (g1 11 4)) = 63 := s63
        show yTI (g16 32 (Int.toNat (g1 11 4))) (g16 11 4)
        rw [h9]
        exact ⟨fun z => absurd z (by decide), fun _ => c4b.1⟩
      · rw [yset_nc (by decide), f4 2 3 (by omega) (by omega) (by omega)]
        exact w3
      · rw [yset_nc (by decide), c21b]
        exact w4
      · rw [yset_nc (by decide)]
        exact ⟨c4b.1, c4b.2.1⟩
      · have z : (yEit (yTs g) (yOn (yTs g) 6) ((yEit (yTs g) (yOn (yTs g) 6) (g 2 1)).2.1 + 1)).1 = -1 := z
        have k3 := yPo.k hp2 hx hb2 z
        have e9 := (w6 z).1
        rw [yset_nc (by decide), yset_nc (by decide), c21b]
        exact ⟨e9, by omega⟩
      · have z : (yEit (yTs g) (yOn (yTs g) 6) ((yEit (yTs g) (yOn (yTs g) 6) (g 2 1)).2.1 + 1)).1 = -1 := z
        have k3 := yPo.k hp2 hx hb2 z
        have a1 : yAp 11 g (yset g1 2 1 (g1 2 1 + 1)) (yEit (yTs g) (yOn (yTs g) 6) (g 2 1)).2.2 := by
          obtain ⟨u1, u2, u3⟩ := e3
          exact ⟨by rw [y4]; exact u1, fun j hj => by rw [yset_nc (by decide), yset_nc (by decide)]; exact u2 j hj, fun j hj => by rw [yset_nc (by decide), yset_nc (by decide)]; exact u3 j hj⟩
        have a2 := yAp.cat hk0 a1 (p110.ap (Or.inr rfl) (by omega) (by omega))
        have a3 := yAp.cat hk0 a2 (w6 z).2
        have a4 := yAp.cat hk0 a3 (p170.ap (Or.inr rfl) w5.1 (by omega))
        rw [List.append_assoc ((yEit (yTs g) (yOn (yTs g) 6) (g 2 1)).2.2 ++ [(63, 0)])] at a4
        have a5 := yAp.fix (Or.inr rfl) (v := g16 11 4) hk0 a4
        have t1 : Int.toNat (g 11 4) + (yEit (yTs g) (yOn (yTs g) 6) (g 2 1)).2.2.length = Int.toNat (g1 11 4) := by
          have := e3.1
          omega
        have t2 : g16 11 4 = g 11 4 + (((yEit (yTs g) (yOn (yTs g) 6) (g 2 1)).2.2.length + (yEit (yTs g) (yOn (yTs g) 6) ((yEit (yTs g) (yOn (yTs g) 6) (g 2 1)).2.1 + 1)).2.2.length + 2 : Nat) : Int) := by
          have h9 := a4.1
          rw [List.length_append, List.length_append, List.length_append, List.length_singleton, List.length_singleton] at h9
          omega
        have ec : yLc (yTs g) (g 2 1) (g 11 4) = (yEit (yTs g) (yOn (yTs g) 6) (g 2 1)).2.2 ++ (63, g 11 4 + (((yEit (yTs g) (yOn (yTs g) 6) (g 2 1)).2.2.length + (yEit (yTs g) (yOn (yTs g) 6) ((yEit (yTs g) (yOn (yTs g) 6) (g 2 1)).2.1 + 1)).2.2.length + 2 : Nat) : Int)) :: ((yEit (yTs g) (yOn (yTs g) 6) ((yEit (yTs g) (yOn (yTs g) 6) (g 2 1)).2.1 + 1)).2.2 ++ [(59, 0)]) := if_pos bp60
        rw [ec, ← t2]
        rw [t1] at a5
        exact a5
  · obtain ⟨bp60, ep60⟩ : (g1 2 3 ≠ -1 ∨ yTs g1 (g1 2 1) ≠ 63) ∧ g1 = g5 := by
      rcases p60 with ⟨z, -⟩ | ⟨-, z1, z2⟩
      · omega
      · exact ⟨z1, z2.symm⟩
    subst ep60
    refine ⟨_, _, rfl, (by omega), (by omega), (by omega), (by omega), ?_⟩
    intro g21 p220
    have f1 := p220.fr x5_p20.2
    have o1 := p220.old (Or.inr rfl) x5_p20
    have c21 : g21 2 1 = g1 2 1 := f1 2 1 (by omega) (by omega) (by omega)
    have c4 : 0 ≤ g21 11 4 ∧ g21 11 4 ≤ 61 ∧ g21 11 4 ≤ g1 11 4 + 1 := by
      by_cases e : g1 11 4 < 61
      · rw [p220.2.1 e, yset_eq]
        omega
      · rw [p220.2.2 (by omega)]
        omega
    refine hK _ ⟨p220.1, fun a b c1 c2 c3 c4 => (f1 a b c2 c3 c4).trans (x2_p20 a b c1 c2 c3 c4), ?_, by rw [c21]; exact x4_p20, ⟨c4.1, c4.2.1⟩, fun z => ?_⟩ (fun z => ?_)
    · rw [f1 2 3 (by omega) (by omega) (by omega), x3_p20]
      by_cases e1 : (yEit (yTs g) (yOn (yTs g) 6) (g 2 1)).1 = -1
      · rw [yLi_b e1 (by have e2 := (x6_p20 e1).1; rw [t_p20.1, e2] at bp60; have e3 := x3_p20.trans e1; omega)]
        exact e1
      · rw [yLi_a e1]
    · by_cases e1 : (yEit (yTs g) (yOn (yTs g) 6) (g 2 1)).1 = -1
      · rw [yLi_b e1 (by have e2 := (x6_p20 e1).1; rw [t_p20.1, e2] at bp60; have e3 := x3_p20.trans e1; omega)]
        have k1 := yPo.k hp p20 ha e1
        have e2 := (x6_p20 e1).1
        exact ⟨by rw [c21]; exact e2, by omega⟩
      · rw [yLi_a e1] at z
        exact absurd z e1
    · by_cases e1 : (yEit (yTs g) (yOn (yTs g) 6) (g 2 1)).1 = -1
      · have hn : yTs g (yEit (yTs g) (yOn (yTs g) 6) (g 2 1)).2.1 ≠ 63 := by
          have e2 := (x6_p20 e1).1
          rw [t_p20.1, e2] at bp60
          have e3 := x3_p20.trans e1
          omega
        have k1 := yPo.k hp p20 ha e1
        have x4 := x4_p20
        have c1 := yAp.cat hk0 (x6_p20 e1).2 (p220.ap (Or.inr rfl) x5_p20.1 (by omega))
        have ec : yLc (yTs g) (g 2 1) (g 11 4) = (yEit (yTs g) (yOn (yTs g) 6) (g 2 1)).2.2 ++ [(59, 0)] := if_neg hn
        rw [ec]
        exact c1
      · rw [yLi_a e1] at z
        exact absurd z e1
theorem yM_LN_11 {l : Launch} (H : zHyp zpTs zpcl zpRO) : yMet l zpTs zpcl zpZ zpRO zpMT yC_LN_11 := ymet_of2 H.1 H.2.1 zpDj H.2.2.1 yRb H.p10 (ymets_cons (yM_AP3 H) (ymets_cons (yM_AS11 H) (ymets_cons (yM_E6_11 H) ymets_nil))) (zrc0 rfl) (plainFor_of_name zpy10) zpDk114 (fun as g K Y h hA hY => by
  obtain ⟨rfl, hp0, hK⟩ := h
  exact yv_LN_11 hY hp0 hK)
