/-! WHAT THE LAW KEEPS: numbers with their ends, and both sides alike -/
theorem yTy.cong {g g' : yM} (h : yTy zpZ g) (hq : ∀ q : Nat, (∀ e ∈ zpZ.1, e.1 ≤ q → q ≤ e.2.1 → e.2.2.1 = 3) ∨ ∀ j, g' q j = g q j) (h6 : ∀ q : Nat, q = 33 ∨ q = 34 → ∀ j, g' q j = g q j) : yTy zpZ g' := by
  obtain ⟨gh, hg, hT⟩ := h
  refine ⟨gh, hg, fun e he q h1 h2 => ?_⟩
  have ht := hT e he q h1 h2
  rcases hq q with h3 | h3
  · have h4 := h3 e he h1 h2
    generalize e.2.2 = ct at ht h4 ⊢
    obtain ⟨tg, ci, len, fts⟩ := ct
    have h4 : tg = 3 := h4
    subst h4
    trivial
  · have hp : e.2.2.1 = 6 → q + (e.2.2.2.2.2.headD (0, 0, 0)).1 = 33 ∨ q + (e.2.2.2.2.2.headD (0, 0, 0)).1 = 34 := fun h => by
      have key : ∀ e ∈ zpZ.1, e.2.2.1 = 6 → e.1 = 31 ∧ e.2.1 = 32 ∧ (e.2.2.2.2.2.headD (0, 0, 0)).1 = 2 := by decide +kernel
      obtain ⟨k1, k2, k3⟩ := key e he h
      omega
    generalize e.2.2 = ct at ht hp ⊢
    obtain ⟨tg, ci, len, fts⟩ := ct
    match tg, ht with
    | 0, ht => exact fun j ft hj => by rw [h3]; exact ht j ft hj
    | 1, ht => exact fun j ft hj h0 => by rw [h3]; exact ht j ft hj h0
    | 2, ht => exact fun j ft hj h0 => by rw [h3]; exact ht j ft hj h0
    | 3, _ => trivial
    | 4, _ => trivial
    | 5, _ => trivial
    | 6, ⟨t1, t2⟩ =>
      have h9 := h6 _ (hp rfl)
      exact ⟨fun j hj => by rw [h3, h9]; exact t1 j hj, fun a b => ⟨(t2 a b).1, by rw [h3]; exact (t2 a b).2⟩⟩
    | n + 7, _ => trivial
theorem yTy.lng {g g' : yM} (a b : Nat) (hk : zpZ.1.all (fun e => Nat.blt e.2.1 a || (Nat.blt b e.1 || Nat.beq e.2.2.1 3)) = true) (ha : b < 33 ∨ 34 < a) (h : yTy zpZ g) (hq : ∀ q j : Nat, (q < a ∨ b < q) → g' q j = g q j) : yTy zpZ g' := by
  refine h.cong (fun q => ?_) (fun q h j => hq q j (by omega))
  by_cases hab : q < a ∨ b < q
  · exact Or.inr (fun j => hq q j hab)
  · refine Or.inl (fun e he h1 h2 => ?_)
    have := List.all_eq_true.mp hk e he
    rcases Bool.or_eq_true_iff.mp this with h3 | h3
    · have h4 : e.2.1 + 1 ≤ a := Nat.le_of_ble_eq_true h3
      omega
    · rcases Bool.or_eq_true_iff.mp h3 with h3 | h3
      · have h4 : b + 1 ≤ e.1 := Nat.le_of_ble_eq_true h3
        omega
      · exact ybeq h3
def y67 (q : Nat) : Bool := zpZ.1.all (fun e => !(Nat.beq e.2.2.1 6) || (Nat.blt q (e.1 + (e.2.2.2.2.2.headD (0, 0, 0)).1) || Nat.blt (e.2.1 + (e.2.2.2.2.2.headD (0, 0, 0)).1) q))
theorem y67_ok {q : Nat} (h : y67 q = true) : ∀ e ∈ zpZ.1, e.2.2.1 = 6 → ∀ q' : Nat, e.1 ≤ q' → q' ≤ e.2.1 → q' + (e.2.2.2.2.2.headD (0, 0, 0)).1 ≠ q := fun e he h6 q' h1 h2 => by
  have := List.all_eq_true.mp h e he
  rw [h6] at this
  rcases Bool.or_eq_true_iff.mp this with h3 | h3
  · cases h3
  · rcases Bool.or_eq_true_iff.mp h3 with h3 | h3
    · have h4 : q + 1 ≤ _ := Nat.le_of_ble_eq_true h3
      omega
    · have h4 : _ + 1 ≤ q := Nat.le_of_ble_eq_true h3
      omega
theorem yTy.sA {g : yM} {q j t len : Nat} {lo hi v : Int} (h : yTy zpZ g) (hm : (q, q, (1, t, len, [(0, lo, hi)])) ∈ zpZ.1) (h6 : y67 q = true) (hv : lo ≤ v ∧ v ≤ hi) : yTy zpZ (yset g q j v) := by
  obtain ⟨gh, hg, hT⟩ := h
  exact ⟨gh, hg, hT.set zpDj hm (Nat.le_refl _) (Nat.le_refl _) ⟨by show 1 ≠ 6; decide, y67_ok h6⟩ ⟨fun ci ln fts ft h1 h2 => (by cases h1), fun k t0 len fts ft h1 h2 h3 => by
    cases h1
    cases h3
    exact hv⟩⟩
theorem yTy.sO {g : yM} {q j ci ln : Nat} {fts : List zFT} {lo hi v : Int} (h : yTy zpZ g) (hm : (q, q, (0, ci, ln, fts)) ∈ zpZ.1) (hf : fts[j]? = some (0, lo, hi)) (h6 : y67 q = true) (hv : lo ≤ v ∧ v ≤ hi) : yTy zpZ (yset g q j v) := by
  obtain ⟨gh, hg, hT⟩ := h
  exact ⟨gh, hg, hT.set zpDj hm (Nat.le_refl _) (Nat.le_refl _) ⟨by show 0 ≠ 6; decide, y67_ok h6⟩ ⟨fun ci ln fts ft h1 h2 => (by
    cases h1
    rw [hf] at h2
    cases h2
    exact hv), fun k t0 len fts ft h1 h2 h3 => by
    cases h1
    omega⟩⟩
theorem yTy.fO {g : yM} {q j ci ln : Nat} {fts : List zFT} {lo hi : Int} (h : yTy zpZ g) (hm : (q, q, (0, ci, ln, fts)) ∈ zpZ.1) (hf : fts[j]? = some (0, lo, hi)) : lo ≤ g q j ∧ g q j ≤ hi := by
  obtain ⟨gh, hg, hT⟩ := h
  exact hT _ hm q (Nat.le_refl _) (Nat.le_refl _) j _ hf
theorem yTy.fA {g : yM} {q j t len : Nat} {lo hi : Int} (h : yTy zpZ g) (hm : (q, q, (1, t, len, [(0, lo, hi)])) ∈ zpZ.1) (hj : j < len) : lo ≤ g q j ∧ g q j ≤ hi := by
  obtain ⟨gh, hg, hT⟩ := h
  exact hT _ hm q (Nat.le_refl _) (Nat.le_refl _) j _ hj rfl
theorem yb_rng (f : Int32 → Int32 → Int32) (x y : Int) : -2147483648 ≤ yb f x y ∧ yb f x y ≤ 2147483647 := by
  unfold yb
  have h1 := Int32.le_toInt (f (Int32.ofInt x) (Int32.ofInt y))
  have h2 := Int32.toInt_lt (f (Int32.ofInt x) (Int32.ofInt y))
  exact ⟨by omega, by omega⟩
/-- stretches that nobody of a list writes -/
def ydj1 (w r : Int × Int × Nat × Nat) : Bool := zltI w.2.1 r.1 || (zltI r.2.1 w.1 || (!(Nat.beq w.2.2.1 0) && (!(Nat.beq r.2.2.1 0) && !(Nat.beq w.2.2.2 r.2.2.2))))
def ydj (wr rs : zWr) : Bool := wr.all (fun w => rs.all (fun r => ydj1 w r))
def yEq (rs : zWr) (g g' : yM) : Prop := ∀ q j : Nat, (∃ r ∈ rs, zcov r q j) → g' q j = g q j
theorem yUn.eq {wr rs : zWr} {g g' : yM} (h : yUn wr g g') (hd : ydj wr rs = true) : yEq rs g g' := by
  intro q j hr
  obtain ⟨r, hr, h1, h2, h3⟩ := hr
  refine h q j (fun w hw hc => ?_)
  obtain ⟨c1, c2, c3⟩ := hc
  have := List.all_eq_true.mp (List.all_eq_true.mp hd w hw) r hr
  unfold ydj1 at this
  rcases Bool.or_eq_true_iff.mp this with h4 | h4
  · have := zltI_ok h4
    omega
  · rcases Bool.or_eq_true_iff.mp h4 with h4 | h4
    · have := zltI_ok h4
      omega
    · rw [Bool.and_eq_true, Bool.and_eq_true] at h4
      obtain ⟨a1, a2, a3⟩ := h4
      have b1 : w.2.2.1 ≠ 0 := fun e => by rw [e] at a1; cases a1
      have b2 : r.2.2.1 ≠ 0 := fun e => by rw [e] at a2; cases a2
      have d1 : w.2.2.2 = j := by rcases c3 with c | c; exact absurd c b1; exact c
      have d2 : r.2.2.2 = j := by rcases h3 with c | c; exact absurd c b2; exact c
      rw [d1, d2] at a3
      have : Nat.beq j j = true := Nat.beq_refl j
      rw [this] at a3
      cases a3
theorem yEq.at {rs : zWr} {g g' : yM} (h : yEq rs g g') {r : Int × Int × Nat × Nat} (hr : r ∈ rs) {q j : Nat} (h1 : r.1 ≤ (q : Int) ∧ (q : Int) ≤ r.2.1) (h2 : r.2.2.1 = 0 ∨ r.2.2.2 = j) : g' q j = g q j := h q j ⟨r, hr, h1.1, h1.2, h2⟩
/-- places and rules alike -/
def yrsA : zWr := [(6, 6, 1, 8), (90, 90, 1, 38), (40, 42, 0, 0), (121, 123, 0, 0), (44, 49, 0, 0), (30, 30, 0, 0), (114, 114, 0, 0), (90, 90, 1, 4), (90, 90, 1, 5)]
def yRA (g : yM) : Prop := (0 ≤ g 6 8 ∧ g 6 8 ≤ 20 ∧ g 90 38 = g 6 8) ∧
  (∀ p : Nat, p < 6 → ((g 40 p = -1 ∧ g 121 p = -1) ∨ (g 40 p = -2 ∧ 0 ≤ g 121 p ∧ g 121 p < g 6 8 ∧ g 41 p = g 121 p) ∨ (0 ≤ g 40 p ∧ g 40 p ≤ 4 ∧ g 121 p = g 40 p + 20 ∧ g 122 p = g 42 p)) ∧ (0 ≤ g 42 p ∧ g 42 p ≤ 60) ∧ (0 ≤ g 122 p ∧ g 122 p ≤ 60)) ∧
  (∀ p k : Nat, p < 6 → k < 60 → g 123 (60 * p + k) = g (44 + p) k) ∧ (∀ r : Nat, r < 20 → g 114 r = g 30 r) ∧ (0 ≤ g 90 5 ∧ g 90 5 ≤ g 90 4 ∧ g 90 4 ≤ 40)
theorem yRA.mono {g g' : yM} (h : yRA g) (e : yEq yrsA g g') : yRA g' := by
  obtain ⟨h1, h2, h3, h4, h5⟩ := h
  have e1 : g' 6 8 = g 6 8 := e.at (r := (6, 6, 1, 8)) (by decide) ⟨by decide, by decide⟩ (Or.inr rfl)
  have e2 : g' 90 38 = g 90 38 := e.at (r := (90, 90, 1, 38)) (by decide) ⟨by decide, by decide⟩ (Or.inr rfl)
  have e3 : ∀ q j : Nat, 40 ≤ q → q ≤ 42 → g' q j = g q j := fun q j a b => e.at (r := (40, 42, 0, 0)) (by decide) ⟨by show (40 : Int) ≤ q; omega, by show (q : Int) ≤ 42; omega⟩ (Or.inl rfl)
  have e4 : ∀ q j : Nat, 121 ≤ q → q ≤ 123 → g' q j = g q j := fun q j a b => e.at (r := (121, 123, 0, 0)) (by decide) ⟨by show (121 : Int) ≤ q; omega, by show (q : Int) ≤ 123; omega⟩ (Or.inl rfl)
  have e5 : ∀ q j : Nat, 44 ≤ q → q ≤ 49 → g' q j = g q j := fun q j a b => e.at (r := (44, 49, 0, 0)) (by decide) ⟨by show (44 : Int) ≤ q; omega, by show (q : Int) ≤ 49; omega⟩ (Or.inl rfl)
  have e6 : ∀ j : Nat, g' 30 j = g 30 j := fun j => e.at (r := (30, 30, 0, 0)) (by decide) ⟨by decide, by decide⟩ (Or.inl rfl)
  have e7 : ∀ j : Nat, g' 114 j = g 114 j := fun j => e.at (r := (114, 114, 0, 0)) (by decide) ⟨by decide, by decide⟩ (Or.inl rfl)
  have e8 : g' 90 4 = g 90 4 := e.at (r := (90, 90, 1, 4)) (by decide) ⟨by decide, by decide⟩ (Or.inr rfl)
  have e9 : g' 90 5 = g 90 5 := e.at (r := (90, 90, 1, 5)) (by decide) ⟨by decide, by decide⟩ (Or.inr rfl)
  refine ⟨by rw [e1, e2]; exact h1, fun p hp => ?_, fun p k hp hk => ?_, fun r hr => by rw [e6, e7]; exact h4 r hr, by rw [e8, e9]; exact h5⟩
  · rw [e3 40 p (by omega) (by omega), e3 41 p (by omega) (by omega), e3 42 p (by omega) (by omega), e4 121 p (by omega) (by omega), e4 122 p (by omega) (by omega), e1]
    exact h2 p hp
  · rw [e4 123 _ (by omega) (by omega), e5 (44 + p) k (by omega) (by omega)]
    exact h3 p k hp hk
def yInv (g : yM) : Prop := yTy zpZ g ∧ yRA g
theorem yZk : yZok zpZ := ⟨by
    have key : ∀ e ∈ zpZ.1, (e.2.2.1 = 1 ∨ e.2.2.1 = 2) → (e.2.2.2.2.2.headD (9, 0, 0)).1 = 0 := by decide +kernel
    intro e he h ft h0
    have := key e he h
    cases hf : e.2.2.2.2.2 with
    | nil => rw [hf] at h0; cases h0
    | cons a r => rw [hf] at h0 this; cases h0; exact this, by
    have key : ∀ e ∈ zpZ.1, e.2.2.1 = 6 → e.1 = 31 ∧ e.2.1 = 32 ∧ (e.2.2.2.2.2.headD (0, 0, 0)).1 = 2 ∧ e.2.2.2.2.1 = 61 := by decide +kernel
    have k7 : ∃ e' ∈ zpZ.1, e'.1 = 33 ∧ e'.2.1 = 34 ∧ e'.2.2.1 = 7 ∧ e'.2.2.2.2.1 = 61 := by decide +kernel
    intro e he h6 q h1 h2
    obtain ⟨a1, a2, a3, a4⟩ := key e he h6
    obtain ⟨e', b0, b1, b2, b3, b4⟩ := k7
    exact ⟨e', b0, by omega, by omega, b3, by omega⟩, by decide +kernel⟩
