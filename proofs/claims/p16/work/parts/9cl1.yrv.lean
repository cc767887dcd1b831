/-! THE SECOND RELATION: tape, comers, values, changes, tellings alike on both sides -/
theorem yset_id (g : yM) (q j : Nat) : yset g q j (g q j) = g := by
  funext a b
  unfold yset
  split
  · rename_i h
    rw [h.1, h.2]
  · rfl
theorem yset_yset (g : yM) (q j : Nat) (u v : Int) : yset (yset g q j u) q j v = yset g q j v := by
  funext a b
  unfold yset
  split <;> rfl
theorem yUn.rf {wr : zWr} {g : yM} : yUn wr g g := fun _ _ _ => rfl
theorem yUn.st {wr : zWr} {g g1 : yM} {q j : Nat} {v : Int} (h : yUn wr g g1) (hc : ∃ w ∈ wr, zcov w q j) : yUn wr g (yset g1 q j v) := fun a b hn => by
  obtain ⟨w, hw, hz⟩ := hc
  rw [yset_ne (fun z => hn w hw (by rw [z.1, z.2]; exact hz))]
  exact h a b hn
theorem yUn.cat {wr wr2 : zWr} {g g1 g2 : yM} (h : yUn wr g g1) (h2 : yUn wr2 g1 g2) (hs : ∀ w ∈ wr2, w ∈ wr) : yUn wr g g2 := fun a b hn => by
  rw [h2 a b (fun w hw => hn w (hs w hw))]
  exact h a b hn
theorem yUn.sub {wr wr2 : zWr} {g g1 : yM} (h : yUn wr2 g g1) (hs : ∀ w ∈ wr2, w ∈ wr) : yUn wr g g1 := fun a b hn => h a b (fun w hw => hn w (hs w hw))
theorem yUn.of {wr : zWr} {g g1 : yM} (h : ∀ a b : Nat, (∀ w ∈ wr, ¬ zcov w a b) → g1 a b = g a b) : yUn wr g g1 := h
/-- a cell that is written whole may change anywhere there -/
theorem yUn.up {wr : zWr} {g g1 g2 : yM} {q : Nat} (h : yUn wr g g1) (hc : ∃ w ∈ wr, w.1 ≤ (q : Int) ∧ (q : Int) ≤ w.2.1 ∧ w.2.2.1 = 0) (he : ∀ a b : Nat, a ≠ q → g2 a b = g1 a b) : yUn wr g g2 := fun a b hn => by
  obtain ⟨w, hw, h1, h2, h3⟩ := hc
  rw [he a b (fun e => hn w hw (by rw [e]; exact ⟨h1, h2, Or.inl h3⟩))]
  exact h a b hn
/-- what the starts' working out writes -/
def yWs (g g' : yM) : Prop := ∀ a b : Nat, ¬ ((50 ≤ a ∧ a ≤ 89) ∧ (9 ≤ b ∧ b ≤ 11)) → g' a b = g a b
def yWSs : zWr := [(50, 89, 1, 9), (50, 89, 1, 10), (50, 89, 1, 11)]
theorem yWs.un {g g' : yM} (h : yWs g g') : yUn yWSs g g' := fun a b hn => h a b (fun z => by
  have hb : b = 9 ∨ b = 10 ∨ b = 11 := by omega
  rcases hb with e | e | e
  · exact hn (50, 89, 1, 9) (by decide) ⟨by show (50 : Int) ≤ a; omega, by show (a : Int) ≤ 89; omega, Or.inr e.symm⟩
  · exact hn (50, 89, 1, 10) (by decide) ⟨by show (50 : Int) ≤ a; omega, by show (a : Int) ≤ 89; omega, Or.inr e.symm⟩
  · exact hn (50, 89, 1, 11) (by decide) ⟨by show (50 : Int) ≤ a; omega, by show (a : Int) ≤ 89; omega, Or.inr e.symm⟩)
theorem yWs_of {wr : zWr} (hw : wr.all (fun w => decide (50 ≤ w.1) && (decide (w.2.1 ≤ 89) && (!(Nat.beq w.2.2.1 0) && (Nat.ble 9 w.2.2.2 && Nat.ble w.2.2.2 11)))) = true) {g g' : yM} (h : yUn wr g g') : yWs g g' := fun a b hn => h a b (fun w hm hc => by
  have := List.all_eq_true.mp hw w hm
  simp only [Bool.and_eq_true, decide_eq_true_eq] at this
  obtain ⟨h1, h2, h3, h4, h5⟩ := this
  have h4 := Nat.le_of_ble_eq_true h4
  have h5 := Nat.le_of_ble_eq_true h5
  obtain ⟨c1, c2, c3⟩ := hc
  rcases c3 with c3 | c3
  · rw [c3] at h3
    cases h3
  · exact hn ⟨by omega, by omega⟩)
/-! typed numbers kept by other writes -/
theorem yk6 : ∀ e ∈ zpZ.1, e.2.2.1 = 6 → e.1 = 31 ∧ e.2.1 = 32 ∧ (e.2.2.2.2.2.headD (0, 0, 0)).1 = 2 := by decide +kernel
theorem yTy.sR {g : yM} {a b q j ci ln : Nat} {fts : List zFT} {lo hi v : Int} (h : yTy zpZ g) (hm : (a, b, (0, ci, ln, fts)) ∈ zpZ.1) (h1 : a ≤ q) (h2 : q ≤ b) (hf : fts[j]? = some (0, lo, hi)) (h6 : q < 33 ∨ 34 < q) (hv : lo ≤ v ∧ v ≤ hi) : yTy zpZ (yset g q j v) := by
  obtain ⟨gh, hg, hT⟩ := h
  exact ⟨gh, hg, hT.set zpDj hm h1 h2 ⟨by show 0 ≠ 6; decide, fun e he h e1 e2 e3 => by have := yk6 e he h; omega⟩ ⟨fun ci ln fts ft h1 h2 => (by
    cases h1
    rw [hf] at h2
    cases h2
    exact hv), fun k t0 len fts ft h1 h2 h3 => by
    cases h1
    omega⟩⟩
theorem yTy.fR {g : yM} {a b q j ci ln : Nat} {fts : List zFT} {lo hi : Int} (h : yTy zpZ g) (hm : (a, b, (0, ci, ln, fts)) ∈ zpZ.1) (h1 : a ≤ q) (h2 : q ≤ b) (hf : fts[j]? = some (0, lo, hi)) : lo ≤ g q j ∧ g q j ≤ hi := by
  obtain ⟨gh, hg, hT⟩ := h
  exact hT _ hm q h1 h2 j _ hf
/-- how many comers there are -/
theorem yTy.sz {g : yM} (h : yTy zpZ g) : 0 ≤ g 1 1 ∧ g 1 1 ≤ 40 := by
  obtain ⟨gh, hg, hT⟩ := h
  have h1 := hT _ (List.mem_of_getElem? (i := 1) rfl) 1 (Nat.le_refl _) (Nat.le_refl _) 1 (3, 1, 0) rfl
  have h1 : g 1 1 = gh 1 := h1
  have h2 := hg.2.1
  omega
/-- the matter of one behind the last comer -/
theorem yTy.sM {g : yM} {q : Nat} {v : Int} (h : yTy zpZ g) (h1 : 50 ≤ q ∧ q ≤ 89) (h2 : 50 + g 1 1 ≤ (q : Int) ∨ (0 ≤ v ∧ v ≤ 5)) : yTy zpZ (yset g q 4 v) := by
  obtain ⟨gh, hg, hT⟩ := h
  have h3 := hT _ (List.mem_of_getElem? (i := 1) rfl) 1 (Nat.le_refl _) (Nat.le_refl _) 1 (3, 1, 0) rfl
  have h3 : g 1 1 = gh 1 := h3
  exact ⟨gh, hg, hT.set zpDj (List.mem_of_getElem? (i := 41) rfl) h1.1 h1.2 ⟨by show 0 ≠ 6; decide, fun e he h e1 e2 e3 => by have := yk6 e he h; omega⟩ ⟨fun ci ln fts ft h1 h2 => (by
    cases h1
    cases h2
    show (q : Int) < 50 + gh 1 → 0 ≤ v ∧ v ≤ 5
    omega), fun k t0 len fts ft h1 h2 h3 => by
    cases h1
    omega⟩⟩
theorem yTy.fM {g : yM} (h : yTy zpZ g) {i : Nat} (hi : (i : Int) < g 1 1) : 0 ≤ g (50 + i) 4 ∧ g (50 + i) 4 ≤ 5 := by
  have hz := h.sz
  obtain ⟨gh, hg, hT⟩ := h
  have h3 := hT _ (List.mem_of_getElem? (i := 1) rfl) 1 (Nat.le_refl _) (Nat.le_refl _) 1 (3, 1, 0) rfl
  have h3 : g 1 1 = gh 1 := h3
  have h4 := hT _ (List.mem_of_getElem? (i := 41) rfl) (50 + i) (by show 50 ≤ 50 + i; omega) (by show 50 + i ≤ 89; omega) 4 (5, 0, 5) rfl
  have h4 : ((50 + i : Nat) : Int) < 50 + gh 1 → 0 ≤ g (50 + i) 4 ∧ g (50 + i) 4 ≤ 5 := h4
  exact h4 (by omega)
theorem yTy.upA {g g' : yM} {q k t len : Nat} {lo hi : Int} (h : yTy zpZ g) (hm : (q, q, (k, t, len, [(0, lo, hi)])) ∈ zpZ.1) (hk : k = 1 ∨ k = 2) (h6 : y67 q = true) (he : ∀ a b : Nat, a ≠ q → g' a b = g a b) (hv : ∀ j : Nat, j < len → lo ≤ g' q j ∧ g' q j ≤ hi) : yTy zpZ g' := by
  obtain ⟨gh, hg, hT⟩ := h
  refine ⟨gh, hg, fun e hem q' h1 h2 => ?_⟩
  have ht := hT e hem q' h1 h2
  by_cases hqq : q' = q
  · subst hqq
    have ee : (k, t, len, [((0 : Nat), lo, hi)]) = e.2.2 := zpDj.1 _ hm e hem q' (Nat.le_refl _) (Nat.le_refl _) h1 h2
    rw [← ee]
    rcases hk with rfl | rfl
    · intro j ft hj h0
      cases h0
      exact hv j hj
    · intro j ft hj h0
      cases h0
      exact hv j hj
  · have h7 := y67_ok h6 e hem
    generalize e.2.2 = ct at ht h7 ⊢
    obtain ⟨tg, ci, len', fts⟩ := ct
    match tg, ht with
    | 0, ht => exact fun j ft hj => by rw [he _ _ hqq]; exact ht j ft hj
    | 1, ht => exact fun j ft hj h0 => by rw [he _ _ hqq]; exact ht j ft hj h0
    | 2, ht => exact fun j ft hj h0 => by rw [he _ _ hqq]; exact ht j ft hj h0
    | 3, _ => trivial
    | 4, _ => trivial
    | 5, _ => trivial
    | 6, ⟨t1, t2⟩ =>
      have h9 := h7 rfl q' h1 h2
      exact ⟨fun j hj => by rw [he _ _ hqq, he _ _ h9]; exact t1 j hj, fun a b => ⟨(t2 a b).1, by rw [he _ _ hqq]; exact (t2 a b).2⟩⟩
    | n + 7, _ => trivial
/-- one more comer -/
theorem yTy.grow {g : yM} (h : yTy zpZ g) (h1 : g 1 1 < 40) (hm : ∀ i : Nat, (i : Int) = g 1 1 → 0 ≤ g (50 + i) 4 ∧ g (50 + i) 4 ≤ 5) : yTy zpZ (yset g 1 1 (g 1 1 + 1)) := by
  obtain ⟨gh, hg, hT⟩ := h
  have h3 := hT _ (List.mem_of_getElem? (i := 1) rfl) 1 (Nat.le_refl _) (Nat.le_refl _) 1 (3, 1, 0) rfl
  have h3 : g 1 1 = gh 1 := h3
  obtain ⟨g0, g1, g2, g3⟩ := hg
  have kft : ∀ e ∈ zpZ.1, e.2.2.1 = 0 → ∀ j, j < 60 → ∀ ft, e.2.2.2.2.2[j]? = some ft → (ft.1 = 3 → e.1 = 1 ∧ e.2.1 = 1 ∧ j = 1 ∧ ft.2.1 = 1) ∧ (e.1 = 1 → j = 1 → ft.1 = 3 ∧ ft.2.1 = 1) ∧ (ft.1 = 5 → e.1 = 50 ∧ j = 4 ∧ ft.2.1 = 0 ∧ ft.2.2 = 5) := by
    have key : zpZ.1.all (fun e => !(Nat.beq e.2.2.1 0) || (List.range 60).all (fun j => match e.2.2.2.2.2[j]? with
      | none => true
      | some ft => (!(Nat.beq ft.1 3) || (Nat.beq e.1 1 && (Nat.beq e.2.1 1 && (Nat.beq j 1 && decide (ft.2.1 = 1))))) && ((!(Nat.beq e.1 1) || (!(Nat.beq j 1) || (Nat.beq ft.1 3 && decide (ft.2.1 = 1)))) && (!(Nat.beq ft.1 5) || (Nat.beq e.1 50 && (Nat.beq j 4 && (decide (ft.2.1 = 0) && decide (ft.2.2 = 5)))))))) = true := by decide +kernel
    intro e he h0 j hj ft hf
    have h9 := List.all_eq_true.mp key e he
    rw [h0] at h9
    rw [Nat.beq_refl, Bool.not_true, Bool.false_or] at h9
    have h9 := List.all_eq_true.mp h9 j (List.mem_range.mpr hj)
    rw [hf] at h9
    simp only [Bool.and_eq_true, Bool.or_eq_true, Bool.not_eq_true', decide_eq_true_eq, Nat.beq_eq_true_eq] at h9
    have nb : ∀ a b : Nat, Nat.beq a b = false → a ≠ b := fun a b h e => by rw [e, Nat.beq_refl] at h; cases h
    obtain ⟨k1, k2, k3⟩ := h9
    refine ⟨fun h => ?_, fun h h' => ?_, fun h => ?_⟩
    · rcases k1 with k | ⟨a1, a2, a3, a4⟩
      · exact absurd h (nb _ _ k)
      · exact ⟨ybeq a1, ybeq a2, ybeq a3, a4⟩
    · rcases k2 with k | k | ⟨a1, a2⟩
      · exact absurd h (nb _ _ k)
      · exact absurd h' (nb _ _ k)
      · exact ⟨ybeq a1, a2⟩
    · rcases k3 with k | ⟨a1, a2, a3, a4⟩
      · exact absurd h (nb _ _ k)
      · exact ⟨ybeq a1, ybeq a2, a3, a4⟩
  have klen : ∀ e ∈ zpZ.1, e.2.2.1 = 0 → e.2.2.2.2.2.length ≤ 60 := by
    have key : zpZ.1.all (fun e => !(Nat.beq e.2.2.1 0) || Nat.ble e.2.2.2.2.2.length 60) = true := by decide +kernel
    intro e he h0
    have h9 := List.all_eq_true.mp key e he
    rw [h0] at h9
    exact Nat.le_of_ble_eq_true h9
  have ks : ∀ e ∈ zpZ.1, ∀ q : Nat, e.1 ≤ q → q ≤ e.2.1 → q = 1 → e.2.2.1 = 0 ∧ e.1 = 1 := by
    have key : zpZ.1.all (fun e => (Nat.blt 1 e.1 || Nat.blt e.2.1 1) || (Nat.beq e.2.2.1 0 && Nat.beq e.1 1)) = true := by decide +kernel
    intro e he q h1 h2 h4
    have h9 := List.all_eq_true.mp key e he
    rcases Bool.or_eq_true_iff.mp h9 with h9 | h9
    · rcases Bool.or_eq_true_iff.mp h9 with h9 | h9
      · have h5 : 1 + 1 ≤ e.1 := Nat.le_of_ble_eq_true h9
        omega
      · have h5 : e.2.1 + 1 ≤ 1 := Nat.le_of_ble_eq_true h9
        omega
    · rw [Bool.and_eq_true] at h9
      exact ⟨ybeq h9.1, ybeq h9.2⟩
  refine ⟨fun n => if n = 1 then gh 1 + 1 else gh n, ⟨g0, ⟨by show 0 ≤ gh 1 + 1; omega, by show gh 1 + 1 ≤ 40; omega⟩, g2, g3⟩, fun e he q h1' h2' => ?_⟩
  have ht := hT e he q h1' h2'
  have k0 := kft e he
  have k1 := klen e he
  have k2 := ks e he q h1' h2'
  have k6 := yk6 e he
  have kz := yZk.1 e he
  by_cases hq : q = 1
  · obtain ⟨a1, a2⟩ := k2 hq
    subst hq
    generalize e.2.2 = ct at ht k0 k1 a1 ⊢
    obtain ⟨tg, ci, len, fts⟩ := ct
    have a1 : tg = 0 := a1
    subst a1
    intro j ft hj
    have hj60 : j < 60 := by
      have := (List.getElem?_eq_some_iff.mp hj).1
      have := k1 rfl
      have e9 : fts.length ≤ 60 := this
      omega
    have ht := ht j ft hj
    have k := k0 rfl j hj60 ft hj
    by_cases hj1 : j = 1
    · subst hj1
      have k9 := k.2.1 a2 rfl
      obtain ⟨f1, f2, f3⟩ := ft
      have k91 : f1 = 3 := k9.1
      have k92 : f2 = 1 := k9.2
      subst k91
      subst k92
      show yset g 1 1 (g 1 1 + 1) 1 1 = gh 1 + 1
      rw [yset_eq]
      omega
    · rw [yset_ne (fun z => hj1 z.2)]
      obtain ⟨f1, f2, f3⟩ := ft
      match f1, ht, k with
      | 0, ht, _ => exact ht
      | 1, _, _ => trivial
      | 2, ht, _ => exact ht
      | 3, _, k => exact absurd (k.1 rfl).2.2.1 hj1
      | 4, _, _ => trivial
      | 5, _, k => exact absurd (k.2.2 rfl).1 (by omega)
      | 6, ht, _ => exact ht
      | 7, ht, _ => exact ht
      | 8, ht, _ => exact ht
      | n + 9, ht, _ => exact ht
  · have hr : ∀ b, yset g 1 1 (g 1 1 + 1) q b = g q b := fun b => yset_nc hq
    generalize e.2.2 = ct at ht k0 k1 k2 k6 kz ⊢
    obtain ⟨tg, ci, len, fts⟩ := ct
    match tg, ht with
    | 0, ht =>
      intro j ft hj
      rw [hr]
      have hj60 : j < 60 := by
        have := (List.getElem?_eq_some_iff.mp hj).1
        have := k1 rfl
        have e9 : fts.length ≤ 60 := this
        omega
      have ht := ht j ft hj
      have k := k0 rfl j hj60 ft hj
      obtain ⟨f1, f2, f3⟩ := ft
      match f1, ht, k with
      | 0, ht, _ => exact ht
      | 1, _, _ => trivial
      | 2, ht, _ => exact ht
      | 3, _, k =>
        have := k.1 rfl
        exact absurd (show q = 1 by omega) hq
      | 4, _, _ => trivial
      | 5, ht, k =>
        obtain ⟨b1, b2, b3, b4⟩ := k.2.2 rfl
        have b3 : f2 = 0 := b3
        have b4 : f3 = 5 := b4
        subst b2
        subst b3
        subst b4
        have ht : (q : Int) < 50 + gh 1 → 0 ≤ g q 4 ∧ g q 4 ≤ 5 := ht
        show (q : Int) < 50 + (gh 1 + 1) → 0 ≤ g q 4 ∧ g q 4 ≤ 5
        intro h9
        by_cases h8 : (q : Int) < 50 + gh 1
        · exact ht h8
        · have h7 := hm (q - 50) (by omega)
          rw [show 50 + (q - 50) = q by omega] at h7
          exact h7
      | 6, ht, _ => exact ht
      | 7, ht, _ => exact ht
      | 8, ht, _ => exact ht
      | n + 9, ht, _ => exact ht
    | 1, ht =>
      intro j ft hj h0
      rw [hr]
      have ht := ht j ft hj h0
      have hk := kz (Or.inl rfl) ft h0
      obtain ⟨f1, f2, f3⟩ := ft
      have hk : f1 = 0 := hk
      subst hk
      exact ht
    | 2, ht =>
      intro j ft hj h0
      rw [hr]
      have ht := ht j ft hj h0
      have hk := kz (Or.inr rfl) ft h0
      obtain ⟨f1, f2, f3⟩ := ft
      have hk : f1 = 0 := hk
      subst hk
      exact ht
    | 3, _ => trivial
    | 4, _ => trivial
    | 5, _ => trivial
    | 6, ⟨t1, t2⟩ =>
      obtain ⟨a1, a2, a3⟩ := k6 rfl
      have a3 : (fts.headD (0, 0, 0)).1 = 2 := a3
      exact ⟨fun j hj => by rw [hr, yset_nc (by omega)]; exact t1 j hj, fun a b => ⟨(t2 a b).1, by rw [hr]; exact (t2 a b).2⟩⟩
    | n + 7, _ => trivial
