/-! TEXTS: SIGNS, NUMBERS -/
theorem yan255 (x : Int) : 0 ≤ yb (fun x y => x &&& y) x 255 ∧ yb (fun x y => x &&& y) x 255 ≤ 255 := by
  have e : (Int32.ofInt 255).toInt = 255 := by decide
  have h := zandI (x := Int32.ofInt x) (y := Int32.ofInt 255) (by rw [e]; decide)
  rw [e] at h
  exact h
theorem yTs_b (g : yM) (p : Int) : 0 ≤ yTs g p ∧ yTs g p ≤ 255 := by
  unfold yTs
  split
  · exact yan255 _
  · exact ⟨by decide, by decide⟩
theorem yTs_pl (g : yM) (j : Nat) (v : Int) (h : j ≠ 2) : yTs (yset g 2 j v) = yTs g := yTs_eq (yset_nj (fun e => h e.symm)) (fun _ => yset_nc (by decide))
/-- a step may be added -/
theorem yTy.add {q : Nat} (hq : q = 10 ∨ q = 11) {g : yM} {s n : Int} (h : yTy zpZ g) (h0 : 0 ≤ g q 4) (h1 : g q 4 < 61) (hs : s = 78 → 0 ≤ n ∧ n ≤ 7) (hc : s = 63 → 0 ≤ n) : yTy zpZ (yset (yset (yset g (q + 21) (Int.toNat (g q 4)) s) (q + 23) (Int.toNat (g q 4)) n) q 4 (g q 4 + 1)) := by
  obtain ⟨gh, hg, hT⟩ := h
  refine ⟨gh, hg, fun e he q' a1 a2 => ?_⟩
  have ht := hT e he q' a1 a2
  have fr : ∀ a b : Nat, ¬ (a = q ∧ b = 4) → a ≠ q + 21 → a ≠ q + 23 → (yset (yset (yset g (q + 21) (Int.toNat (g q 4)) s) (q + 23) (Int.toNat (g q 4)) n) q 4 (g q 4 + 1)) a b = g a b := fun a b c1 c2 c3 => by rw [yset_ne c1, yset_nc c3, yset_nc c2]
  have k6 : ∀ e ∈ zpZ.1, e.2.2.1 = 6 → e.1 = 31 ∧ e.2.1 = 32 := by decide +kernel
  by_cases d1 : 31 ≤ q' ∧ q' ≤ 34
  · by_cases d0 : q' ≤ 32
    · have b3 : e.2.2 = (6, 0, 61, [(2, 21, 0)]) := zpDj.1 e he _ (List.mem_of_getElem? (i := 30) rfl) q' a1 a2 d1.1 d0
      rw [b3] at ht ⊢
      obtain ⟨t1, t2⟩ := ht
      refine ⟨fun j hj => ?_, fun z1 z2 => ?_⟩
      · have t3 := t1 j hj
        have t3 : yTI (g q' j) (g (q' + 2) j) := t3
        show yTI ((yset (yset (yset g (q + 21) (Int.toNat (g q 4)) s) (q + 23) (Int.toNat (g q 4)) n) q 4 (g q 4 + 1)) q' j) ((yset (yset (yset g (q + 21) (Int.toNat (g q 4)) s) (q + 23) (Int.toNat (g q 4)) n) q 4 (g q 4 + 1)) (q' + 2) j)
        rw [yset_nc (a := q') (by omega), yset_nc (a := q' + 2) (by omega)]
        by_cases d2 : q' = q + 21 ∧ j = Int.toNat (g q 4)
        · rw [d2.1, d2.2, yset_nc (by omega), yset_eq, show q + 21 + 2 = q + 23 by omega, yset_eq]
          exact ⟨hs, hc⟩
        · have e1 : yset (yset g (q + 21) (Int.toNat (g q 4)) s) (q + 23) (Int.toNat (g q 4)) n q' j = g q' j := by
            rw [yset_nc (by omega), yset_ne d2]
          have e2 : yset (yset g (q + 21) (Int.toNat (g q 4)) s) (q + 23) (Int.toNat (g q 4)) n (q' + 2) j = g (q' + 2) j := by
            rw [yset_ne (fun z => d2 (by omega)), yset_nc (by omega)]
          rw [e1, e2]
          exact t3
      · have z2 : 0 ≤ gh 2 := z2
        have := hg.2.2.1
        omega
    · have b3 : e.2.2 = (7, 0, 61, []) := zpDj.1 e he _ (List.mem_of_getElem? (i := 31) rfl) q' a1 a2 (by show 33 ≤ q'; omega) d1.2
      rw [b3]
      trivial
  · by_cases d2 : q' = q
    · have b3 : e.2.2 = (0, 9, 0, [(2, 2, 2), (4, 21, 0), (4, 23, 0), (4, 25, 0), (8, 0, 61)]) := zpDj.1 e he _ (List.mem_of_getElem? (i := 10) rfl) q' a1 a2 (by show 10 ≤ q'; omega) (by show q' ≤ 11; omega)
      rw [b3] at ht ⊢
      intro j ft hj
      by_cases d3 : j = 4
      · rw [d3] at hj
        cases hj
        rw [d2, d3, yset_eq]
        refine ⟨⟨by omega, by omega⟩, fun _ => ?_⟩
        have := hg.2.2.1
        omega
      · have h9 := ht j ft hj
        rw [fr q' j (by omega) (by omega) (by omega)]
        exact h9
    · have f2 : ∀ j : Nat, (yset (yset (yset g (q + 21) (Int.toNat (g q 4)) s) (q + 23) (Int.toNat (g q 4)) n) q 4 (g q 4 + 1)) q' j = g q' j := fun j => fr q' j (by omega) (by omega) (by omega)
      have n6 : e.2.2.1 ≠ 6 := fun z => by
        have := k6 e he z
        omega
      generalize e.2.2 = ct at ht n6 ⊢
      obtain ⟨tg, ci, len, fts⟩ := ct
      match tg, ht, n6 with
      | 0, ht, _ => exact fun j ft hj => by rw [f2]; exact ht j ft hj
      | 1, ht, _ => exact fun j ft hj h0 => by rw [f2]; exact ht j ft hj h0
      | 2, ht, _ => exact fun j ft hj h0 => by rw [f2]; exact ht j ft hj h0
      | 3, _, _ => trivial
      | 4, _, _ => trivial
      | 5, _, _ => trivial
      | 6, _, n6 => exact absurd rfl n6
      | n + 7, _, _ => trivial
def yP_AP3 : yPT := fun as g K => ∃ (c : Int), as = [(3, 2), (1, c)] ∧ (0 ≤ g 2 1 ∧ g 2 1 ≤ 60) ∧ (g 2 2 ≤ 60) ∧ (1 ≤ c) ∧ (∀ (r : Int) (g' : yM), ((r = 1 ∧ g 2 3 = -1 ∧ yTs g (g 2 1) = c ∧ g' = yset g 2 1 (g 2 1 + 1)) ∨ (r = 0 ∧ (g 2 3 ≠ -1 ∨ yTs g (g 2 1) ≠ c) ∧ g' = g)) → K [(1, r)] g')
def yC_AP3 : yC := (101, (2, 60), yP_AP3)
set_option maxRecDepth 8000 in
theorem yv_AP3 {K : List yV → yM → Prop} {Y : yNx} {g : yM} {c : Int} (hY : yCl zpD101 (zpZ, zpRS, zpP9, zpMT, [yC_SG], (2, 60), 2) K Y) (hr_c : -2147483648 ≤ c ∧ c ≤ 2147483647) (hp0 : 0 ≤ g 2 1 ∧ g 2 1 ≤ 60) (hp1 : g 2 2 ≤ 60) (hp2 : 1 ≤ c) (hK : ∀ (r : Int) (g' : yM), ((r = 1 ∧ g 2 3 = -1 ∧ yTs g (g 2 1) = c ∧ g' = yset g 2 1 (g 2 1 + 1)) ∨ (r = 0 ∧ (g 2 3 ≠ -1 ∨ yTs g (g 2 1) ≠ c) ∧ g' = g)) → K [(1, r)] g') : Y 0 [(3, 2), (1, c)] [] g := by
  refine yrun_ok (sp := fun pc => false) hY 12 0 _ [] g ?_
  show ([(3, 2)] = [(3, 2)] ∧ (0 ≤ g 2 1) ∧ (g 2 2 ≤ 60) ∧ (∀ (r1 : Int), (g 2 3 = -1 → r1 = ySc g (g 2 1)) → (g 2 3 ≠ -1 → r1 = -1) → ((r1 = c → (((0 : Int) ≤ 1 ∧ 1 ≤ (1 : Int)) ∧ (K [(1, 1)] (yset g 2 1 (yw ((g 2 1) + 1)))))) ∧ (¬ (r1 = c) → (((0 : Int) ≤ 0 ∧ 0 ≤ (1 : Int)) ∧ (K [(1, 0)] g))))))
  refine ⟨rfl, (by omega), (by omega), ?_⟩
  intro r1 p20 p21
  refine ⟨fun h3 => ?_, fun h3 => ?_⟩
  · refine ⟨(by omega), ?_⟩
    have hf : g 2 3 = -1 := by
      by_cases hf : g 2 3 = -1
      · exact hf
      · have h2 := p21 hf
        omega
    have h2 := p20 hf
    rw [yw_s (g 2 1 + 1) (by omega) (by omega)]
    exact hK _ _ (Or.inl ⟨rfl, hf, (yTs_c hp0.1 hp2).mp (by omega), rfl⟩)
  · refine ⟨(by omega), ?_⟩
    refine hK _ _ (Or.inr ⟨rfl, ?_, rfl⟩)
    by_cases hf : g 2 3 = -1
    · refine Or.inr (fun e => ?_)
      have h := (yTs_c hp0.1 hp2).mpr e
      have h2 := p20 hf
      omega
    · exact Or.inl hf
theorem yM_AP3 {l : Launch} {Ts : List Cond} {cl : List vw_C} {RO : zRO} (H : zHyp Ts cl RO) : yMet l Ts cl zpZ RO zpMT yC_AP3 := ymet_of2 H.1 H.2.1 zpDj H.2.2.1 yRb H.p9 (ymets_cons (yM_SG H) ymets_nil) (zrc2 rfl) (plainFor_of_name zpy9) zpDk101 (fun as g K Y h hA hY => by
  obtain ⟨c, rfl, hp0, hp1, hp2, hK⟩ := h
  exact yv_AP3 hY (yAr1 hA (by simp)) hp0 hp1 hp2 hK)
def yP_SG3 : yPT := fun as g K => as = [(3, 2)] ∧ (0 ≤ g 2 1) ∧ (g 2 2 ≤ 60) ∧ (∀ (r : Int), (g 2 3 = -1 → (r = -1 ∧ g 2 2 ≤ g 2 1) ∨ (g 2 1 < g 2 2 ∧ r = yTs g (g 2 1))) → (g 2 3 ≠ -1 → r = -1) → (-1 ≤ r ∧ r ≤ 255) → K [(1, r)] g)
def yC_SG3 : yC := (106, (1, 40), yP_SG3)
set_option maxRecDepth 8000 in
theorem yv_SG3 {K : List yV → yM → Prop} {Y : yNx} {g : yM} (hY : yCl zpD106 (zpZ, zpRS, zpP9, zpMT, [], (1, 40), 1) K Y) (hp0 : 0 ≤ g 2 1) (hp1 : g 2 2 ≤ 60) (hK : ∀ (r : Int), (g 2 3 = -1 → (r = -1 ∧ g 2 2 ≤ g 2 1) ∨ (g 2 1 < g 2 2 ∧ r = yTs g (g 2 1))) → (g 2 3 ≠ -1 → r = -1) → (-1 ≤ r ∧ r ≤ 255) → K [(1, r)] g) : Y 0 [(3, 2)] [] g := by
  refine yrun_ok (sp := fun pc => false) hY 18 0 _ [] g ?_
  show (((g 2 3) ≠ (-1) → (K [(1, (-1))] g)) ∧ (¬ ((g 2 3) ≠ (-1)) → (((g 2 2) ≤ (g 2 1) → (K [(1, (-1))] g)) ∧ (¬ ((g 2 2) ≤ (g 2 1)) → (((0 : Int) ≤ (g 2 1) ∧ (g 2 1) < ((60 : Nat) : Int)) ∧ (K [(1, (yb (fun x y => x &&& y) (g 18 (Int.toNat (g 2 1))) 255))] g))))))
  refine ⟨fun h1 => ?_, fun h1 => ?_⟩
  · exact hK _ (fun h => Or.inl ⟨rfl, by omega⟩) (fun _ => rfl) ⟨by decide, by decide⟩
  · refine ⟨fun h2 => ?_, fun h2 => ?_⟩
    · exact hK _ (fun h => Or.inl ⟨rfl, by omega⟩) (fun _ => rfl) ⟨by decide, by decide⟩
    · refine ⟨(by omega), ?_⟩
      have hb := yan255 (g 18 (Int.toNat (g 2 1)))
      exact hK _ (fun h => Or.inr ⟨by omega, by unfold yTs; rw [if_pos (by omega)]⟩) (fun h => absurd (by omega) h) ⟨by omega, by omega⟩
theorem yM_SG3 {l : Launch} {Ts : List Cond} {cl : List vw_C} {RO : zRO} (H : zHyp Ts cl RO) : yMet l Ts cl zpZ RO zpMT yC_SG3 := ymet_of2 H.1 H.2.1 zpDj H.2.2.1 yRb H.p9 ymets_nil (zrc1 rfl) (plainFor_of_name zpy9) zpDk106 (fun as g K Y h hA hY => by
  obtain ⟨rfl, hp0, hp1, hK⟩ := h
  exact yv_SG3 hY  hp0 hp1 hK)
def yP_RN4 : yPT := fun as g K => as = [(3, 2), (1, 4), (1, 0), (1, 9999)] ∧ (g 2 3 = -1) ∧ (0 ≤ g 2 1 ∧ g 2 1 ≤ 60) ∧ (g 2 2 ≤ 60) ∧ (48 ≤ yTs g (g 2 1) ∧ yTs g (g 2 1) ≤ 57) ∧ (∀ (r : Int) (g' : yM), (r = (yNm (yTs g) 4 (g 2 1) 0).2) → (g' = yset g 2 1 (yNm (yTs g) 4 (g 2 1) 0).1) → (0 ≤ r ∧ r ≤ 9999) → K [(1, r)] g')
def yC_RN4 : yC := (104, (2, 60), yP_RN4)
set_option maxRecDepth 8000 in
theorem yl_RN4 {K : List yV → yM → Prop} {Y : yNx} {g : yM} {q : Int} (hY : yCl zpD104 (zpZ, zpRS, zpP9, zpMT, [yC_SG3, yC_ID, yC_SP], (2, 60), 1) K Y) (hn : g 2 2 ≤ 60) (hf : g 2 3 = -1) : ∀ (n : Nat) (i p v : Int), i + n = 4 → 0 ≤ p ∧ p ≤ 60 → ((n = 4 ∧ v = 0) ∨ (n = 3 ∧ 0 ≤ v ∧ v ≤ 9) ∨ (n = 2 ∧ 0 ≤ v ∧ v ≤ 99) ∨ (n = 1 ∧ 0 ≤ v ∧ v ≤ 999) ∨ (n = 0 ∧ 0 ≤ v ∧ v ≤ 9999)) → (∀ i2 : Int, Y 59 [(3, 2), (1, 4), (1, 0), (1, 9999), (1, q), (1, (yNm (yTs g) n p v).2), (1, i2)] [] (yset g 2 1 (yNm (yTs g) n p v).1)) → Y 12 [(3, 2), (1, 4), (1, 0), (1, 9999), (1, q), (1, v), (1, i)] [] (yset g 2 1 p) := by
  intro n
  induction n with
  | zero =>
    intro i p v hd hp hv hK
    refine yrun_ok (sp := fun pc => Nat.beq pc 12 || Nat.beq pc 59) hY 25 12 _ [] (yset g 2 1 p) ?_
    show ((4 ≤ i → (Y 59 [(3, 2), (1, 4), (1, 0), (1, 9999), (1, q), (1, v), (1, i)] [] (yset g 2 1 p))) ∧ (¬ (4 ≤ i) → ([(3, 2)] = [(3, 2)] ∧ (0 ≤ (yset g 2 1 p) 2 1) ∧ ((yset g 2 1 p) 2 2 ≤ 60) ∧ (∀ (r2 : Int), ((yset g 2 1 p) 2 3 = -1 → (r2 = -1 ∧ (yset g 2 1 p) 2 2 ≤ (yset g 2 1 p) 2 1) ∨ ((yset g 2 1 p) 2 1 < (yset g 2 1 p) 2 2 ∧ r2 = yTs (yset g 2 1 p) ((yset g 2 1 p) 2 1))) → ((yset g 2 1 p) 2 3 ≠ -1 → r2 = -1) → (-1 ≤ r2 ∧ r2 ≤ 255) → (∃ (v4 : Int), [(1, r2)] = [(1, v4)] ∧ (∀ (r5 : Int), ((r5 = 1 ∧ 48 ≤ v4 ∧ v4 ≤ 57) ∨ (r5 = 0 ∧ (v4 < 48 ∨ 57 < v4))) → ((r5 = 0 → (Y 59 [(3, 2), (1, 4), (1, 0), (1, 9999), (1, q), (1, v), (1, i)] [] (yset g 2 1 p))) ∧ (¬ (r5 = 0) → ([(3, 2)] = [(3, 2)] ∧ (0 ≤ (yset g 2 1 p) 2 1) ∧ ((yset g 2 1 p) 2 2 ≤ 60) ∧ (∀ (r8 : Int), ((yset g 2 1 p) 2 3 = -1 → (r8 = -1 ∧ (yset g 2 1 p) 2 2 ≤ (yset g 2 1 p) 2 1) ∨ ((yset g 2 1 p) 2 1 < (yset g 2 1 p) 2 2 ∧ r8 = yTs (yset g 2 1 p) ((yset g 2 1 p) 2 1))) → ((yset g 2 1 p) 2 3 ≠ -1 → r8 = -1) → (-1 ≤ r8 ∧ r8 ≤ 255) → (Y 12 [(3, 2), (1, 4), (1, 0), (1, 9999), (1, q), (1, (yw ((yw ((yw (v * 10)) + r8)) - 48))), (1, (yw (i + 1)))] [] (yset (yset g 2 1 p) 2 1 (yw (((yset g 2 1 p) 2 1) + 1))))))))))))))
    refine ⟨fun h1 => ?_, fun h1 => ?_⟩
    · exact hK i
    · refine ⟨rfl, (by have e0 : (yset g 2 1 p) 2 3 = -1 := (yset_nj (by decide)).trans hf; have e1 : (yset g 2 1 p) 2 1 = p := yset_eq; have e2 : (yset g 2 1 p) 2 2 = g 2 2 := yset_nj (by decide); omega), (by have e0 : (yset g 2 1 p) 2 3 = -1 := (yset_nj (by decide)).trans hf; have e1 : (yset g 2 1 p) 2 1 = p := yset_eq; have e2 : (yset g 2 1 p) 2 2 = g 2 2 := yset_nj (by decide); omega), ?_⟩
      intro r2 p30 p31 p32
      refine ⟨_, rfl, ?_⟩
      intro r5 p60
      refine ⟨fun h7 => ?_, fun h7 => ?_⟩
      · omega
      · refine ⟨rfl, (by have e0 : (yset g 2 1 p) 2 3 = -1 := (yset_nj (by decide)).trans hf; have e1 : (yset g 2 1 p) 2 1 = p := yset_eq; have e2 : (yset g 2 1 p) 2 2 = g 2 2 := yset_nj (by decide); omega), (by have e0 : (yset g 2 1 p) 2 3 = -1 := (yset_nj (by decide)).trans hf; have e1 : (yset g 2 1 p) 2 1 = p := yset_eq; have e2 : (yset g 2 1 p) 2 2 = g 2 2 := yset_nj (by decide); omega), ?_⟩
        intro r8 p90 p91 p92
        omega
  | succ n ih =>
    intro i p v hd hp hv hK
    refine yrun_ok (sp := fun pc => Nat.beq pc 12 || Nat.beq pc 59) hY 25 12 _ [] (yset g 2 1 p) ?_
    show ((4 ≤ i → (Y 59 [(3, 2), (1, 4), (1, 0), (1, 9999), (1, q), (1, v), (1, i)] [] (yset g 2 1 p))) ∧ (¬ (4 ≤ i) → ([(3, 2)] = [(3, 2)] ∧ (0 ≤ (yset g 2 1 p) 2 1) ∧ ((yset g 2 1 p) 2 2 ≤ 60) ∧ (∀ (r2 : Int), ((yset g 2 1 p) 2 3 = -1 → (r2 = -1 ∧ (yset g 2 1 p) 2 2 ≤ (yset g 2 1 p) 2 1) ∨ ((yset g 2 1 p) 2 1 < (yset g 2 1 p) 2 2 ∧ r2 = yTs (yset g 2 1 p) ((yset g 2 1 p) 2 1))) → ((yset g 2 1 p) 2 3 ≠ -1 → r2 = -1) → (-1 ≤ r2 ∧ r2 ≤ 255) → (∃ (v4 : Int), [(1, r2)] = [(1, v4)] ∧ (∀ (r5 : Int), ((r5 = 1 ∧ 48 ≤ v4 ∧ v4 ≤ 57) ∨ (r5 = 0 ∧ (v4 < 48 ∨ 57 < v4))) → ((r5 = 0 → (Y 59 [(3, 2), (1, 4), (1, 0), (1, 9999), (1, q), (1, v), (1, i)] [] (yset g 2 1 p))) ∧ (¬ (r5 = 0) → ([(3, 2)] = [(3, 2)] ∧ (0 ≤ (yset g 2 1 p) 2 1) ∧ ((yset g 2 1 p) 2 2 ≤ 60) ∧ (∀ (r8 : Int), ((yset g 2 1 p) 2 3 = -1 → (r8 = -1 ∧ (yset g 2 1 p) 2 2 ≤ (yset g 2 1 p) 2 1) ∨ ((yset g 2 1 p) 2 1 < (yset g 2 1 p) 2 2 ∧ r8 = yTs (yset g 2 1 p) ((yset g 2 1 p) 2 1))) → ((yset g 2 1 p) 2 3 ≠ -1 → r8 = -1) → (-1 ≤ r8 ∧ r8 ≤ 255) → (Y 12 [(3, 2), (1, 4), (1, 0), (1, 9999), (1, q), (1, (yw ((yw ((yw (v * 10)) + r8)) - 48))), (1, (yw (i + 1)))] [] (yset (yset g 2 1 p) 2 1 (yw (((yset g 2 1 p) 2 1) + 1))))))))))))))
    refine ⟨fun h1 => ?_, fun h1 => ?_⟩
    · omega
    · refine ⟨rfl, (by have e0 : (yset g 2 1 p) 2 3 = -1 := (yset_nj (by decide)).trans hf; have e1 : (yset g 2 1 p) 2 1 = p := yset_eq; have e2 : (yset g 2 1 p) 2 2 = g 2 2 := yset_nj (by decide); omega), (by have e0 : (yset g 2 1 p) 2 3 = -1 := (yset_nj (by decide)).trans hf; have e1 : (yset g 2 1 p) 2 1 = p := yset_eq; have e2 : (yset g 2 1 p) 2 2 = g 2 2 := yset_nj (by decide); omega), ?_⟩
      intro r2 p30 p31 p32
      refine ⟨_, rfl, ?_⟩
      intro r5 p60
      refine ⟨fun h7 => ?_, fun h7 => ?_⟩
      · have e0 : (yset g 2 1 p) 2 3 = -1 := (yset_nj (by decide)).trans hf
        have e1 : (yset g 2 1 p) 2 1 = p := yset_eq
        have e2 : (yset g 2 1 p) 2 2 = g 2 2 := yset_nj (by decide)
        have e3 := p30 e0
        rw [e1, e2, yTs_pl g 1 p (by decide)] at e3
        have hb := yTs_b g p
        have tz : g 2 2 ≤ p → yTs g p = 0 := fun h => by
          unfold yTs
          exact if_neg (by omega)
        have e4 := hK i
        have e5 : yNm (yTs g) (n + 1) p v = (p, v) := if_neg (by omega)
        rw [e5] at e4
        exact e4
      · refine ⟨rfl, (by have e0 : (yset g 2 1 p) 2 3 = -1 := (yset_nj (by decide)).trans hf; have e1 : (yset g 2 1 p) 2 1 = p := yset_eq; have e2 : (yset g 2 1 p) 2 2 = g 2 2 := yset_nj (by decide); omega), (by have e0 : (yset g 2 1 p) 2 3 = -1 := (yset_nj (by decide)).trans hf; have e1 : (yset g 2 1 p) 2 1 = p := yset_eq; have e2 : (yset g 2 1 p) 2 2 = g 2 2 := yset_nj (by decide); omega), ?_⟩
        intro r8 p90 p91 p92
        have e0 : (yset g 2 1 p) 2 3 = -1 := (yset_nj (by decide)).trans hf
        have e1 : (yset g 2 1 p) 2 1 = p := yset_eq
        have e2 : (yset g 2 1 p) 2 2 = g 2 2 := yset_nj (by decide)
        have e3 := p30 e0
        rw [e1, e2, yTs_pl g 1 p (by decide)] at e3
        have hb := yTs_b g p
        have tz : g 2 2 ≤ p → yTs g p = 0 := fun h => by
          unfold yTs
          exact if_neg (by omega)
        have e6 := p90 e0
        rw [e1, e2, yTs_pl g 1 p (by decide)] at e6
        have e7 : p < 60 := by omega
        have e5 : yNm (yTs g) (n + 1) p v = yNm (yTs g) n (p + 1) (v * 10 + yTs g p - 48) := if_pos (by omega)
        rw [e5] at hK
        have f1 : (yw ((yw ((yw (v * 10)) + r8)) - 48)) = v * 10 + yTs g p - 48 := by
          have := yw_s ((yw ((yw (v * 10)) + r8)) - 48)
          have := yw_s ((yw (v * 10)) + r8)
          have := yw_s (v * 10)
          omega
        have f2 : (yw (i + 1)) = i + 1 := yw_s (i + 1) (by omega) (by omega)
        have f3 : (yset (yset g 2 1 p) 2 1 (yw (((yset g 2 1 p) 2 1) + 1))) = yset g 2 1 (p + 1) := by
          rw [yset_yset, e1, yw_s (p + 1) (by omega) (by omega)]
        rw [f1, f2, f3]
        exact ih (i + 1) (p + 1) (v * 10 + yTs g p - 48) (by omega) (by omega) (by omega) hK
set_option maxRecDepth 8000 in
theorem yt_RN4 {K : List yV → yM → Prop} {Y : yNx} {m : yM} {q v i : Int} (hY : yCl zpD104 (zpZ, zpRS, zpP9, zpMT, [yC_SG3, yC_ID, yC_SP], (2, 60), 1) K Y) (hq : m 2 1 ≠ q) (hv : 0 ≤ v ∧ v ≤ 9999) (hK : K [(1, v)] m) : Y 59 [(3, 2), (1, 4), (1, 0), (1, 9999), (1, q), (1, v), (1, i)] [] m := by
  refine yrun_ok (sp := fun pc => Nat.beq pc 12) hY 17 59 _ [] m ?_
  show (((m 2 1) = q → ([(3, 2)] = [(3, 2)] ∧ (0 ≤ (yset m 2 1 q) 2 1 ∧ (yset m 2 1 q) 2 1 ≤ 60) ∧ (∀ (g2 : yM), ((yset m 2 1 q) 2 3 = -1 → g2 = yset (yset m 2 1 q) 2 3 ((yset m 2 1 q) 2 1)) → ((yset m 2 1 q) 2 3 ≠ -1 → g2 = (yset m 2 1 q)) → (K [(1, v)] g2)))) ∧ (¬ ((m 2 1) = q) → ((v < 0 → ([(3, 2)] = [(3, 2)] ∧ (0 ≤ (yset m 2 1 q) 2 1 ∧ (yset m 2 1 q) 2 1 ≤ 60) ∧ (∀ (g5 : yM), ((yset m 2 1 q) 2 3 = -1 → g5 = yset (yset m 2 1 q) 2 3 ((yset m 2 1 q) 2 1)) → ((yset m 2 1 q) 2 3 ≠ -1 → g5 = (yset m 2 1 q)) → (K [(1, v)] g5)))) ∧ (¬ (v < 0) → ((v ≤ 9999 → (K [(1, v)] m)) ∧ (¬ (v ≤ 9999) → ([(3, 2)] = [(3, 2)] ∧ (0 ≤ (yset m 2 1 q) 2 1 ∧ (yset m 2 1 q) 2 1 ≤ 60) ∧ (∀ (g8 : yM), ((yset m 2 1 q) 2 3 = -1 → g8 = yset (yset m 2 1 q) 2 3 ((yset m 2 1 q) 2 1)) → ((yset m 2 1 q) 2 3 ≠ -1 → g8 = (yset m 2 1 q)) → (K [(1, v)] g8)))))))))
  refine ⟨fun h1 => ?_, fun h1 => ?_⟩
  · refine ⟨rfl, (by omega), ?_⟩
    intro g2 p30 p31
    omega
  · refine ⟨fun h4 => ?_, fun h4 => ?_⟩
    · refine ⟨rfl, (by omega), ?_⟩
      intro g5 p60 p61
      omega
    · refine ⟨fun h7 => ?_, fun h7 => ?_⟩
      · exact hK
      · refine ⟨rfl, (by omega), ?_⟩
        intro g8 p90 p91
        omega
set_option maxRecDepth 8000 in
theorem yv_RN4 {K : List yV → yM → Prop} {Y : yNx} {g : yM} (hY : yCl zpD104 (zpZ, zpRS, zpP9, zpMT, [yC_SG3, yC_ID, yC_SP], (2, 60), 1) K Y) (hp0 : g 2 3 = -1) (hp1 : 0 ≤ g 2 1 ∧ g 2 1 ≤ 60) (hp2 : g 2 2 ≤ 60) (hp3 : 48 ≤ yTs g (g 2 1) ∧ yTs g (g 2 1) ≤ 57) (hK : ∀ (r : Int) (g' : yM), (r = (yNm (yTs g) 4 (g 2 1) 0).2) → (g' = yset g 2 1 (yNm (yTs g) 4 (g 2 1) 0).1) → (0 ≤ r ∧ r ≤ 9999) → K [(1, r)] g') : Y 0 [(3, 2), (1, 4), (1, 0), (1, 9999), (0, 0), (0, 0), (0, 0)] [] g := by
  refine yrun_ok (sp := fun pc => Nat.beq pc 12) hY 8 0 _ [] g ?_
  show (Y 12 [(3, 2), (1, 4), (1, 0), (1, 9999), (1, (g 2 1)), (1, 0), (1, 0)] [] g)
  have hT : yTg (yTs g) := yTs_tg hp2
  have e5 : yNm (yTs g) 4 (g 2 1) 0 = yNm (yTs g) 3 (g 2 1 + 1) (0 * 10 + yTs g (g 2 1) - 48) := if_pos (by omega)
  have e6 := hT (g 2 1) hp1.1 (by omega)
  have e7 := yNm_p hT 3 (g 2 1 + 1) (0 * 10 + yTs g (g 2 1) - 48) (by omega) (by omega)
  have e8 := yNm_v (S := yTs g) 4 (g 2 1) 0 (by decide)
  have e9 : yNB 4 0 = 9999 := by decide
  have h9 := yl_RN4 (q := g 2 1) hY hp2 hp0 4 0 (g 2 1) 0 (by omega) hp1 (Or.inl ⟨rfl, rfl⟩) (fun i2 => yt_RN4 hY (by rw [yset_eq, e5]; omega) ⟨e8.1, by omega⟩ (hK _ _ rfl rfl ⟨e8.1, by omega⟩))
  rw [yset_id] at h9
  exact h9
theorem yM_RN4 {l : Launch} {Ts : List Cond} {cl : List vw_C} {RO : zRO} (H : zHyp Ts cl RO) : yMet l Ts cl zpZ RO zpMT yC_RN4 := ymet_of2 H.1 H.2.1 zpDj H.2.2.1 yRb H.p9 (ymets_cons (yM_SG3 H) (ymets_cons (yM_ID H) (ymets_cons (yM_SP H) ymets_nil))) (zrc1 rfl) (plainFor_of_name zpy9) zpDk104 (fun as g K Y h hA hY => by
  obtain ⟨rfl, hp0, hp1, hp2, hp3, hK⟩ := h
  exact yv_RN4 hY  hp0 hp1 hp2 hp3 hK)
