/-! NUMBERS WITH THEIR ENDS: OUT OF THE TYPED WORLD AND BACK -/
def yft (gh : Nat → Int) (cb : Int) (q : Nat) (ft : zFT) (z : Int) : Prop := match ft with
  | (0, lo, hi) => lo ≤ z ∧ z ≤ hi
  | (1, _, _) => True
  | (2, lo, hi) => lo ≤ z ∧ z ≤ hi
  | (3, g, _) => z = gh g.toNat
  | (4, _, _) => True
  | (5, lo, hi) => (q : Int) < cb + gh 1 → lo ≤ z ∧ z ≤ hi
  | (7, lo, hi) => lo ≤ z ∧ z ≤ hi
  | (8, lo, hi) => (lo ≤ z ∧ z ≤ hi) ∧ ((q : Int) = gh 3 → gh 2 < z)
  | _ => False
def yTI (a b : Int) : Prop := (a = 78 → 0 ≤ b ∧ b ≤ 7) ∧ (a = 63 → 0 ≤ b)
def ycty (gh : Nat → Int) (cb : Int) (g : yM) (q : Nat) (ct : zCT) : Prop := match ct with
  | (0, _, _, fts) => ∀ (j : Nat) (ft : zFT), fts[j]? = some ft → yft gh cb q ft (g q j)
  | (1, _, len, fts) => ∀ (j : Nat) (ft : zFT), j < len → fts[0]? = some ft → yft gh cb q ft (g q j)
  | (2, _, len, fts) => ∀ (j : Nat) (ft : zFT), j < len → fts[0]? = some ft → yft gh cb q ft (g q j)
  | (6, _, len, fts) => (∀ j : Nat, j < len → yTI (g q j) (g (q + (fts.headD (0, 0, 0)).1) j)) ∧ ((q : Int) = gh 3 + (fts.headD (0, 0, 0)).2.1 → 0 ≤ gh 2 → gh 2 < len ∧ g q (gh 2).toNat = 63)
  | _ => True
def yT (Z : zZ) (gh : Nat → Int) (g : yM) : Prop := ∀ e ∈ Z.1, ∀ q : Nat, e.1 ≤ q → q ≤ e.2.1 → ycty gh Z.2.1 g q e.2.2
theorem yft_of {ad : Nat → Nat} {gh : Nat → Int} {cb : Int} {q : Nat} {ft : zFT} {z : Int} {v : Value} (h : zft ad gh cb q ft v) (hv : yfv ad q ft z v) : yft gh cb q ft z := by
  obtain ⟨tg, lo, hi⟩ := ft
  match tg, h, hv with
  | 0, ⟨x, h1, h2⟩, ⟨y, g1, g2⟩ => subst h1; cases g1; subst g2; exact h2
  | 1, _, _ => trivial
  | 2, _, ⟨r, g1, g2, g3, g4⟩ => exact ⟨by omega, by omega⟩
  | 3, ⟨x, h1, h2⟩, ⟨y, g1, g2⟩ => subst h1; cases g1; subst g2; exact h2
  | 4, _, _ => trivial
  | 5, ⟨x, h1, h2⟩, ⟨y, g1, g2⟩ => subst h1; cases g1; subst g2; exact h2
  | 7, ⟨x, h1, h2⟩, ⟨y, g1, g2⟩ => subst h1; cases g1; subst g2; exact h2
  | 8, ⟨x, h1, h2⟩, ⟨y, g1, g2⟩ => subst h1; cases g1; subst g2; exact h2
theorem zft_of {ad : Nat → Nat} {gh : Nat → Int} {cb : Int} {q : Nat} {ft : zFT} {z : Int} {v : Value} (h : yft gh cb q ft z) (hv : yfv ad q ft z v) : zft ad gh cb q ft v := by
  obtain ⟨tg, lo, hi⟩ := ft
  match tg, h, hv with
  | 0, h, ⟨y, g1, g2⟩ => subst g2; exact ⟨y, g1, h⟩
  | 1, _, ⟨y, g1, _⟩ => exact ⟨y, g1⟩
  | 2, _, ⟨r, g1, g2, g3, _⟩ => exact ⟨r, g1, g2, g3⟩
  | 3, h, ⟨y, g1, g2⟩ => subst g2; exact ⟨y, g1, h⟩
  | 4, _, hv => exact hv
  | 5, h, ⟨y, g1, g2⟩ => subst g2; exact ⟨y, g1, h⟩
  | 7, h, ⟨y, g1, g2⟩ => subst g2; exact ⟨y, g1, h⟩
  | 8, h, ⟨y, g1, g2⟩ => subst g2; exact ⟨y, g1, h⟩
theorem yTI_iff {a b : Int32} : zTI a b ↔ yTI a.toInt b.toInt := Iff.rfl
/-- what the cells' table must be like -/
def yZok (Z : zZ) : Prop := (∀ e ∈ Z.1, (e.2.2.1 = 1 ∨ e.2.2.1 = 2) → ∀ ft : zFT, e.2.2.2.2.2[0]? = some ft → ft.1 = 0) ∧ (∀ e ∈ Z.1, e.2.2.1 = 6 → ∀ q : Nat, e.1 ≤ q → q ≤ e.2.1 → ∃ e' ∈ Z.1, e'.1 ≤ q + (e.2.2.2.2.2.headD (0, 0, 0)).1 ∧ q + (e.2.2.2.2.2.headD (0, 0, 0)).1 ≤ e'.2.1 ∧ e'.2.2.1 = 7 ∧ e'.2.2.2.2.1 = e.2.2.2.2.1) ∧ ∀ e ∈ Z.1, e.2.2.1 ≤ 7
theorem yT_of {Z : zZ} {ad : Nat → Nat} {gh : Nat → Int} {tys : List (ClassId × FieldType)} {ws : va_W} {g : yM} (hZ : yZok Z) (hW : zW Z ad gh tys ws) (hM : yMem Z ad tys ws g) : yT Z gh g := by
  intro e he q h1 h2
  have hw := hW e he q h1 h2
  have hm := hM e he q h1 h2
  have z1 := hZ.1 e he
  have z6 := hZ.2.1 e he
  generalize e.2.2 = ct at hw hm z1 z6 ⊢
  obtain ⟨tg, ci, len, fts⟩ := ct
  match tg, hw, hm with
  | 0, ⟨fs, a1, a2, a3⟩, ⟨fs', b1, b2, b3⟩ =>
    rw [a1] at b1
    cases b1
    intro j ft hj
    have hl : j < fs.length := by rw [a2]; exact (List.getElem?_eq_some_iff.mp hj).1
    exact yft_of (a3 j ft _ hj (List.getElem?_eq_getElem hl)) (b3 j ft _ hj (List.getElem?_eq_getElem hl))
  | 1, ⟨cA, f, a1, a2, a3⟩, ⟨cA', f', b1, b2, b3⟩ =>
    rw [a1] at b1
    cases b1
    intro j ft hj h0
    have := z1 (Or.inl rfl) ft h0
    obtain ⟨tf, lo, hi⟩ := ft
    have : tf = 0 := this
    subst this
    exact yft_of (a3 j _ hj h0) ⟨f j, rfl, b3 j hj⟩
  | 2, ⟨cA, f, a1, a2, a3⟩, ⟨cA', f', b1, b2, b3⟩ =>
    rw [a1] at b1
    cases b1
    intro j ft hj h0
    have := z1 (Or.inr rfl) ft h0
    obtain ⟨tf, lo, hi⟩ := ft
    have : tf = 0 := this
    subst this
    exact yft_of (a3 j _ hj h0) ⟨f j, rfl, b3 j hj⟩
  | 3, _, _ => trivial
  | 4, _, _ => trivial
  | 5, _, _ => trivial
  | 6, ⟨cA, cB, f, k, a1, a2, a3, a4, a5⟩, ⟨cA', f', b1, b2, b3⟩ =>
    rw [a1] at b1
    cases b1
    obtain ⟨e', he', c1, c2, c3, c4⟩ := z6 rfl q h1 h2
    have hm' := hM e' he' _ c1 c2
    generalize e'.2.2 = ct' at hm' c3 c4
    obtain ⟨tg', ci', len', fts'⟩ := ct'
    have c3 : tg' = 7 := c3
    subst c3
    have c4 : len' = len := c4
    subst c4
    obtain ⟨cC, f', d1, d2, d3⟩ := hm'
    have d1 : ws[q + (fts.headD (0, 0, 0)).1]? = _ := d1
    rw [a3] at d1
    cases d1
    refine ⟨fun j hj => ?_, fun hq h0 => ?_⟩
    · rw [← b3 j hj, ← d3 j hj]
      exact a4 j hj
    · have h9 := a5 hq h0
      refine ⟨h9.1, ?_⟩
      rw [← b3 _ (by omega)]
      exact h9.2
  | 7, _, _ => trivial
theorem zW_of {Z : zZ} {ad : Nat → Nat} {gh : Nat → Int} {tys : List (ClassId × FieldType)} {ws : va_W} {g : yM} (hZ : yZok Z) (hT : yT Z gh g) (hM : yMem Z ad tys ws g) : zW Z ad gh tys ws := by
  intro e he q h1 h2
  have ht := hT e he q h1 h2
  have hm := hM e he q h1 h2
  have z1 := hZ.1 e he
  have z6 := hZ.2.1 e he
  generalize e.2.2 = ct at ht hm z1 z6 ⊢
  obtain ⟨tg, ci, len, fts⟩ := ct
  match tg, ht, hm with
  | 0, ht, ⟨fs, b1, b2, b3⟩ => exact ⟨fs, b1, b2, fun j ft v hj hv => zft_of (ht j ft hj) (b3 j ft v hj hv)⟩
  | 1, ht, ⟨cA, f, b1, b2, b3⟩ =>
    refine ⟨cA, f, b1, b2, fun j ft hj h0 => ?_⟩
    have h9 := ht j ft hj h0
    have := z1 (Or.inl rfl) ft h0
    obtain ⟨tf, lo, hi⟩ := ft
    have : tf = 0 := this
    subst this
    exact zft_of h9 ⟨f j, rfl, b3 j hj⟩
  | 2, ht, ⟨cA, f, b1, b2, b3⟩ =>
    refine ⟨cA, f, b1, b2, fun j ft hj h0 => ?_⟩
    have h9 := ht j ft hj h0
    have := z1 (Or.inr rfl) ft h0
    obtain ⟨tf, lo, hi⟩ := ft
    have : tf = 0 := this
    subst this
    exact zft_of h9 ⟨f j, rfl, b3 j hj⟩
  | 3, _, ⟨cA, f, b1, b2, _⟩ => exact ⟨cA, f, b1, b2⟩
  | 4, _, hm => exact hm
  | 5, _, hm => exact hm
  | 6, ⟨t1, t2⟩, ⟨cA, f, b1, b2, b3⟩ =>
    obtain ⟨e', he', c1, c2, c3, c4⟩ := z6 rfl q h1 h2
    have hm' := hM e' he' _ c1 c2
    generalize e'.2.2 = ct' at hm' c3 c4
    obtain ⟨tg', ci', len', fts'⟩ := ct'
    have c3 : tg' = 7 := c3
    subst c3
    have c4 : len' = len := c4
    subst c4
    obtain ⟨cC, f', d1, d2, d3⟩ := hm'
    refine ⟨cA, cC, f, f', b1, b2, d1, fun j hj => ?_, fun hq h0 => ?_⟩
    · rw [yTI_iff, b3 j hj, d3 j hj]
      exact t1 j hj
    · have h9 := t2 hq h0
      refine ⟨h9.1, ?_⟩
      rw [b3 _ (by omega)]
      exact h9.2
  | 7, _, ⟨cA, f, b1, b2, _⟩ => exact ⟨cA, f, b1, b2⟩
/-- a number is a place's -/
def ynum (ad : Nat → Nat) (ct : zCT) (q j : Nat) (o : Option Value) (z : Int) : Prop := match ct with
  | (0, _, _, fts) => ∀ (ft : zFT) (v : Value), fts[j]? = some ft → o = some v → yfv ad q ft z v
  | (3, _, len, _) => ∀ x : Int64, j < len → o = some (.long x) → x.toInt = z
  | (4, _, _, _) => True
  | (5, _, _, _) => True
  | (_, _, len, _) => ∀ x : Int32, j < len → o = some (.int x) → x.toInt = z
theorem ynum_ex {ad : Nat → Nat} {gh : Nat → Int} {cb : Int} {tys : List (ClassId × FieldType)} {ws : va_W} {q : Nat} {ct : zCT} (h : zcell ad gh cb tys ws q ct) (j : Nat) : ∃ z, ynum ad ct q j (zfv ws q j) z := by
  obtain ⟨tg, ci, len, fts⟩ := ct
  have ki : ∀ (cA : ClassId) (n : Nat) (f : Nat → Int32), ws[q]? = some (ad q, .inl (cA, n, .inl f)) → ∃ z, ∀ x : Int32, j < n → zfv ws q j = some (.int x) → x.toInt = z := fun cA n f h1 => ⟨(f j).toInt, fun x hj hx => by
    unfold zfv at hx
    rw [h1] at hx
    simp only [if_pos hj] at hx
    cases hx
    rfl⟩
  match tg, h with
  | 0, ⟨fs, h1, h2, h3⟩ =>
    have e : zfv ws q j = fs[j]? := by
      unfold zfv
      rw [h1]
    cases hf : fts[j]? with
    | none => exact ⟨0, fun ft v a _ => by rw [hf] at a; cases a⟩
    | some ft =>
      have hl : j < fs.length := by rw [h2]; exact (List.getElem?_eq_some_iff.mp hf).1
      have hv : fs[j]? = some fs[j] := List.getElem?_eq_getElem hl
      have h4 := h3 j ft _ hf hv
      have key : ∃ z, yfv ad q ft z fs[j] := by
        generalize fs[j] = v at h4
        obtain ⟨t, lo, hi⟩ := ft
        match t, h4 with
        | 0, ⟨x, h5, _⟩ => exact ⟨_, x, h5, rfl⟩
        | 1, ⟨x, h5⟩ => exact ⟨_, x, h5, rfl⟩
        | 2, ⟨r, h5, h6, h7⟩ => exact ⟨_, r, h5, h6, h7, rfl⟩
        | 3, ⟨x, h5, _⟩ => exact ⟨_, x, h5, rfl⟩
        | 4, h5 => exact ⟨0, h5⟩
        | 5, ⟨x, h5, _⟩ => exact ⟨_, x, h5, rfl⟩
        | 7, ⟨x, h5, _⟩ => exact ⟨_, x, h5, rfl⟩
        | 8, ⟨x, h5, _⟩ => exact ⟨_, x, h5, rfl⟩
      obtain ⟨z, hz⟩ := key
      refine ⟨z, fun ft' v a b => ?_⟩
      rw [hf] at a
      cases a
      rw [e, hv] at b
      cases b
      exact hz
  | 1, ⟨cA, f, h1, _⟩ => exact ki cA len f h1
  | 2, ⟨cA, f, h1, _⟩ => exact ki cA len f h1
  | 3, ⟨cA, f, h1, _⟩ =>
    refine ⟨(f j).toInt, fun x hj hx => ?_⟩
    unfold zfv at hx
    rw [h1] at hx
    simp only [if_pos hj] at hx
    cases hx
    rfl
  | 4, _ => exact ⟨0, trivial⟩
  | 5, _ => exact ⟨0, trivial⟩
  | 6, ⟨cA, cB, f, k, h1, _⟩ => exact ki cA len f h1
  | 7, ⟨cA, f, h1, _⟩ => exact ki cA len f h1
theorem ynum_of {ad : Nat → Nat} {tys : List (ClassId × FieldType)} {ws : va_W} {g : yM} {q : Nat} {ct : zCT} (h : ycell ad tys ws g q ct) (j : Nat) : ynum ad ct q j (zfv ws q j) (g q j) := by
  obtain ⟨tg, ci, len, fts⟩ := ct
  have ki : ∀ (cA : ClassId) (n : Nat) (f : Nat → Int32), ws[q]? = some (ad q, .inl (cA, n, .inl f)) → (∀ j : Nat, j < n → (f j).toInt = g q j) → ∀ x : Int32, j < n → zfv ws q j = some (.int x) → x.toInt = g q j := fun cA n f h1 h3 x hj hx => by
    unfold zfv at hx
    rw [h1] at hx
    simp only [if_pos hj] at hx
    cases hx
    exact h3 j hj
  match tg, h with
  | 0, ⟨fs, h1, h2, h3⟩ =>
    intro ft v a b
    have e : zfv ws q j = fs[j]? := by
      unfold zfv
      rw [h1]
    rw [e] at b
    exact h3 j ft v a b
  | 1, ⟨cA, f, h1, _, h3⟩ => exact ki cA len f h1 h3
  | 2, ⟨cA, f, h1, _, h3⟩ => exact ki cA len f h1 h3
  | 3, ⟨cA, f, h1, _, h3⟩ =>
    intro x hj hx
    unfold zfv at hx
    rw [h1] at hx
    simp only [if_pos hj] at hx
    cases hx
    exact h3 j hj
  | 4, _ => trivial
  | 5, _ => trivial
  | 6, ⟨cA, f, h1, _, h3⟩ => exact ki cA len f h1 h3
  | 7, ⟨cA, f, h1, _, h3⟩ => exact ki cA len f h1 h3
theorem ycell_of {ad : Nat → Nat} {gh : Nat → Int} {cb : Int} {tys : List (ClassId × FieldType)} {ws : va_W} {g : yM} {q : Nat} {ct : zCT} (h : zcell ad gh cb tys ws q ct) (hn : ∀ j : Nat, ynum ad ct q j (zfv ws q j) (g q j)) : ycell ad tys ws g q ct := by
  obtain ⟨tg, ci, len, fts⟩ := ct
  have ki : ∀ (cA : ClassId) (n : Nat) (f : Nat → Int32), ws[q]? = some (ad q, .inl (cA, n, .inl f)) → (∀ (j : Nat) (x : Int32), j < n → zfv ws q j = some (.int x) → x.toInt = g q j) → ∀ j : Nat, j < n → (f j).toInt = g q j := fun cA n f h1 h3 j hj => h3 j (f j) hj (by
    unfold zfv
    rw [h1]
    exact if_pos hj)
  match tg, h, hn with
  | 0, ⟨fs, h1, h2, h3⟩, hn => exact ⟨fs, h1, h2, fun j ft v a b => hn j ft v a (by unfold zfv; rw [h1]; exact b)⟩
  | 1, ⟨cA, f, h1, h2, _⟩, hn => exact ⟨cA, f, h1, h2, ki cA len f h1 (fun j x => hn j x)⟩
  | 2, ⟨cA, f, h1, h2, _⟩, hn => exact ⟨cA, f, h1, h2, ki cA len f h1 (fun j x => hn j x)⟩
  | 3, ⟨cA, f, h1, h2⟩, hn => exact ⟨cA, f, h1, h2, fun j hj => hn j (f j) hj (by
      unfold zfv
      rw [h1]
      exact if_pos hj)⟩
  | 4, h, _ => exact h
  | 5, h, _ => exact h
  | 6, ⟨cA, cB, f, k, h1, h2, _⟩, hn => exact ⟨cA, f, h1, h2, ki cA len f h1 (fun j x => hn j x)⟩
  | 7, ⟨cA, f, h1, h2⟩, hn => exact ⟨cA, f, h1, h2, ki cA len f h1 (fun j x => hn j x)⟩
/-- a world's numbers: what is the same as before keeps its number -/
theorem ynew {Z : zZ} {ad : Nat → Nat} {gh : Nat → Int} {tys : List (ClassId × FieldType)} {ws ws' : va_W} {g : yM} (hZ : zDj Z) (hW : zW Z ad gh tys ws') (hM : yMem Z ad tys ws g) : ∃ g' : yM, yMem Z ad tys ws' g' ∧ ∀ q j : Nat, zfv ws' q j = zfv ws q j → g' q j = g q j := by
  have key : ∀ q j : Nat, ∃ z : Int, (zfv ws' q j = zfv ws q j → z = g q j) ∧ ∀ e ∈ Z.1, e.1 ≤ q → q ≤ e.2.1 → ynum ad e.2.2 q j (zfv ws' q j) z := fun q j => by
    by_cases heq : zfv ws' q j = zfv ws q j
    · refine ⟨g q j, fun _ => rfl, fun e he h1 h2 => ?_⟩
      rw [heq]
      exact ynum_of (hM e he q h1 h2) j
    · by_cases hex : ∃ e ∈ Z.1, e.1 ≤ q ∧ q ≤ e.2.1
      · obtain ⟨e0, he0, h1, h2⟩ := hex
        obtain ⟨z, hz⟩ := ynum_ex (hW e0 he0 q h1 h2) j
        refine ⟨z, fun h => absurd h heq, fun e he g1 g2 => ?_⟩
        rw [hZ.1 e he e0 he0 q g1 g2 h1 h2]
        exact hz
      · exact ⟨0, fun h => absurd h heq, fun e he g1 g2 => absurd ⟨e, he, g1, g2⟩ hex⟩
  obtain ⟨G, hG⟩ := Classical.axiomOfChoice (fun q => Classical.axiomOfChoice (key q))
  exact ⟨G, fun e he q h1 h2 => ycell_of (hW e he q h1 h2) (fun j => (hG q j).2 e he h1 h2), fun q j => (hG q j).1⟩
theorem ynew0 {Z : zZ} {ad : Nat → Nat} {gh : Nat → Int} {tys : List (ClassId × FieldType)} {ws' : va_W} (hZ : zDj Z) (hW : zW Z ad gh tys ws') : ∃ g' : yM, yMem Z ad tys ws' g' := by
  have key : ∀ q j : Nat, ∃ z : Int, ∀ e ∈ Z.1, e.1 ≤ q → q ≤ e.2.1 → ynum ad e.2.2 q j (zfv ws' q j) z := fun q j => by
    by_cases hex : ∃ e ∈ Z.1, e.1 ≤ q ∧ q ≤ e.2.1
    · obtain ⟨e0, he0, h1, h2⟩ := hex
      obtain ⟨z, hz⟩ := ynum_ex (hW e0 he0 q h1 h2) j
      refine ⟨z, fun e he g1 g2 => ?_⟩
      rw [hZ.1 e he e0 he0 q g1 g2 h1 h2]
      exact hz
    · exact ⟨0, fun e he g1 g2 => absurd ⟨e, he, g1, g2⟩ hex⟩
  obtain ⟨G, hG⟩ := Classical.axiomOfChoice (fun q => Classical.axiomOfChoice (key q))
  exact ⟨G, fun e he q h1 h2 => ycell_of (hW e he q h1 h2) (fun j => hG q j e he h1 h2)⟩
/-- a place written -/
theorem yT.set {Z : zZ} {gh : Nat → Int} {g : yM} (hZ : zDj Z) (h : yT Z gh g) {e0 : Nat × Nat × zCT} {q j : Nat} {v : Int} (he : e0 ∈ Z.1) (h1 : e0.1 ≤ q) (h2 : q ≤ e0.2.1) (h67 : e0.2.2.1 ≠ 6 ∧ ∀ e ∈ Z.1, e.2.2.1 = 6 → ∀ q' : Nat, e.1 ≤ q' → q' ≤ e.2.1 → q' + (e.2.2.2.2.2.headD (0, 0, 0)).1 ≠ q)
    (hv : (∀ ci ln fts ft, e0.2.2 = (0, ci, ln, fts) → fts[j]? = some ft → yft gh Z.2.1 q ft v) ∧ (∀ k t0 len fts ft, e0.2.2 = (k, t0, len, fts) → (k = 1 ∨ k = 2) → fts[0]? = some ft → yft gh Z.2.1 q ft v)) : yT Z gh (yset g q j v) := by
  intro e hem q' g1 g2
  have ht := h e hem q' g1 g2
  by_cases hqq : q' = q
  · subst hqq
    have ee := hZ.1 e0 he e hem q' h1 h2 g1 g2
    rw [← ee] at ht ⊢
    obtain ⟨v1, v2⟩ := hv
    have n6 := h67.1
    generalize e0.2.2 = ct at ht v1 v2 n6 ⊢
    obtain ⟨tg, ci, len, fts⟩ := ct
    match tg, ht with
    | 0, ht =>
      intro j' ft hj
      by_cases hjj : j' = j
      · subst hjj
        rw [yset_eq]
        exact v1 _ _ _ ft rfl hj
      · rw [yset_ne (fun z => hjj z.2)]
        exact ht j' ft hj
    | 1, ht =>
      intro j' ft hj h0
      by_cases hjj : j' = j
      · subst hjj
        rw [yset_eq]
        exact v2 _ _ _ _ ft rfl (Or.inl rfl) h0
      · rw [yset_ne (fun z => hjj z.2)]
        exact ht j' ft hj h0
    | 2, ht =>
      intro j' ft hj h0
      by_cases hjj : j' = j
      · subst hjj
        rw [yset_eq]
        exact v2 _ _ _ _ ft rfl (Or.inr rfl) h0
      · rw [yset_ne (fun z => hjj z.2)]
        exact ht j' ft hj h0
    | 3, _ => trivial
    | 4, _ => trivial
    | 5, _ => trivial
    | 6, _ => exact absurd rfl n6
    | n + 7, _ => trivial
  · have h6 := h67.2 e hem
    generalize e.2.2 = ct at ht h6 ⊢
    obtain ⟨tg, ci, len, fts⟩ := ct
    match tg, ht with
    | 0, ht => exact fun j' ft hj => by rw [yset_ne (fun z => hqq z.1)]; exact ht j' ft hj
    | 1, ht => exact fun j' ft hj h0 => by rw [yset_ne (fun z => hqq z.1)]; exact ht j' ft hj h0
    | 2, ht => exact fun j' ft hj h0 => by rw [yset_ne (fun z => hqq z.1)]; exact ht j' ft hj h0
    | 3, _ => trivial
    | 4, _ => trivial
    | 5, _ => trivial
    | 6, ⟨t1, t2⟩ =>
      have h9 := h6 rfl q' g1 g2
      exact ⟨fun j' hj => by rw [yset_ne (fun z => hqq z.1), yset_ne (fun z => h9 z.1)]; exact t1 j' hj, fun a b => ⟨(t2 a b).1, by rw [yset_ne (fun z => hqq z.1)]; exact (t2 a b).2⟩⟩
    | n + 7, _ => trivial
