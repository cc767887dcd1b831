/-! A STEP MORE IN A TEXT -/
def zTX (ci : Nat) : zCT := (0, ci, 0, [(2, 2, 2), (4, 21, 0), (4, 23, 0), (4, 25, 0), (8, 0, 61)])
def zplB (ct : zCT) : Bool := !(ct.1 == 6) && (!(ct.1 == 7) && ct.2.2.2.all (fun ft => !(ft.1 == 8) && (!(ft.1 == 3) || ft.2.1 == 1)))
def zeqE (e u : Nat × Nat × zCT) : Bool := e.1 == u.1 && (e.2.1 == u.2.1 && (e.2.2.1 == u.2.2.1 && (e.2.2.2.1 == u.2.2.2.1 && (e.2.2.2.2.1 == u.2.2.2.2.1 && decide (e.2.2.2.2.2 = u.2.2.2.2.2)))))
theorem zeqE_ok {e u : Nat × Nat × zCT} (h : zeqE e u = true) : e = u := by
  unfold zeqE at h
  rw [Bool.and_eq_true, Bool.and_eq_true, Bool.and_eq_true, Bool.and_eq_true, Bool.and_eq_true, beq_iff_eq, beq_iff_eq, beq_iff_eq, beq_iff_eq, beq_iff_eq, decide_eq_true_eq] at h
  obtain ⟨h1, h2, h3, h4, h5, h6⟩ := h
  obtain ⟨a1, a2, a3, a4, a5, a6⟩ := e
  obtain ⟨b1, b2, b3, b4, b5, b6⟩ := u
  simp only at h1 h2 h3 h4 h5 h6
  subst h1 h2 h3 h4 h5 h6
  rfl
def zTxB (Z : zZ) (ci : Nat) : Bool := Z.1.all (fun e => zeqE e (10, 11, zTX ci) || (zeqE e (31, 32, (6, 0, 61, [(2, 21, 0)])) || (zeqE e (33, 34, (7, 0, 61, [])) || (zplB e.2.2 && ((decide (e.2.1 < 10) || decide (11 < e.1)) && (decide (e.2.1 < 31) || decide (34 < e.1))))))) &&
  (Z.1.any (fun e => zeqE e (10, 11, zTX ci)) && (Z.1.any (fun e => zeqE e (31, 32, (6, 0, 61, [(2, 21, 0)]))) && Z.1.any (fun e => zeqE e (33, 34, (7, 0, 61, [])))))
theorem zTxB_ok {Z : zZ} {ci : Nat} (h : zTxB Z ci = true) : (∀ e ∈ Z.1, e = (10, 11, zTX ci) ∨ e = (31, 32, (6, 0, 61, [(2, 21, 0)])) ∨ e = (33, 34, (7, 0, 61, [])) ∨ (zplB e.2.2 = true ∧ (e.2.1 < 10 ∨ 11 < e.1) ∧ (e.2.1 < 31 ∨ 34 < e.1))) ∧
    (10, 11, zTX ci) ∈ Z.1 ∧ (31, 32, ((6, 0, 61, [(2, 21, 0)]) : zCT)) ∈ Z.1 ∧ (33, 34, ((7, 0, 61, []) : zCT)) ∈ Z.1 := by
  unfold zTxB at h
  rw [Bool.and_eq_true, Bool.and_eq_true, Bool.and_eq_true] at h
  obtain ⟨h1, h2, h3, h4⟩ := h
  refine ⟨fun e he => ?_, ?_, ?_, ?_⟩
  · have := List.all_eq_true.mp h1 e he
    rw [Bool.or_eq_true, Bool.or_eq_true, Bool.or_eq_true, Bool.and_eq_true, Bool.and_eq_true, Bool.or_eq_true, Bool.or_eq_true, decide_eq_true_eq, decide_eq_true_eq, decide_eq_true_eq, decide_eq_true_eq] at this
    rcases this with h | h | h | h
    · exact Or.inl (zeqE_ok h)
    · exact Or.inr (Or.inl (zeqE_ok h))
    · exact Or.inr (Or.inr (Or.inl (zeqE_ok h)))
    · exact Or.inr (Or.inr (Or.inr h))
  · obtain ⟨e, he, h⟩ := List.any_eq_true.mp h2
    rwa [zeqE_ok h] at he
  · obtain ⟨e, he, h⟩ := List.any_eq_true.mp h3
    rwa [zeqE_ok h] at he
  · obtain ⟨e, he, h⟩ := List.any_eq_true.mp h4
    rwa [zeqE_ok h] at he
theorem zft_gh {ad : Nat → Nat} {gh gh' : Nat → Int} {cb : Int} {q : Nat} {ft : zFT} {v : Value} (hg : ∀ n, n ≠ 2 → n ≠ 3 → gh' n = gh n) (h8 : ft.1 ≠ 8) (h3 : ft.1 = 3 → ft.2.1 = 1) (h : zft ad gh cb q ft v) : zft ad gh' cb q ft v := by
  obtain ⟨tg, lo, hi⟩ := ft
  match tg, h, h3, h8 with
  | 0, h, _, _ => exact h
  | 1, h, _, _ => exact h
  | 2, h, _, _ => exact h
  | 3, ⟨x, h1, h2⟩, h3, _ =>
    have e : lo = 1 := h3 rfl
    subst e
    exact ⟨x, h1, by rw [h2]; exact (hg 1 (by decide) (by decide)).symm⟩
  | 4, h, _, _ => exact h
  | 5, ⟨x, h1, h2⟩, _, _ => exact ⟨x, h1, fun hq => h2 (by rw [← hg 1 (by decide) (by decide)]; exact hq)⟩
  | 7, h, _, _ => exact h
  | 8, _, _, h8 => exact absurd rfl h8
theorem zcell_gh {ad : Nat → Nat} {gh gh' : Nat → Int} {cb : Int} {tys : List (ClassId × FieldType)} {ws ws' : va_W} {q : Nat} {ct : zCT} (hg : ∀ n, n ≠ 2 → n ≠ 3 → gh' n = gh n) (hp : zplB ct = true) (hw : ws'[q]? = ws[q]?) (h : zcell ad gh cb tys ws q ct) : zcell ad gh' cb tys ws' q ct := by
  unfold zplB at hp
  rw [Bool.and_eq_true, Bool.and_eq_true] at hp
  obtain ⟨p1, p2, p3⟩ := hp
  obtain ⟨tg, ci, len, fts⟩ := ct
  have hf : ∀ (j : Nat) (ft : zFT), fts[j]? = some ft → ft.1 ≠ 8 ∧ (ft.1 = 3 → ft.2.1 = 1) := fun j ft hj => by
    have := List.all_eq_true.mp p3 ft (List.mem_of_getElem? hj)
    rw [Bool.and_eq_true, Bool.or_eq_true] at this
    refine ⟨by simpa using this.1, fun h => ?_⟩
    rcases this.2 with h2 | h2
    · rw [h] at h2
      simp at h2
    · simpa using h2
  match tg, h with
  | 0, ⟨fs, c1, c2, c3⟩ => exact ⟨fs, by rw [hw]; exact c1, c2, fun j ft v hj hv => zft_gh hg (hf j ft hj).1 (hf j ft hj).2 (c3 j ft v hj hv)⟩
  | 1, ⟨cA, f, c1, c2, c3⟩ => exact ⟨cA, f, by rw [hw]; exact c1, c2, fun j ft hj hv => zft_gh hg (hf 0 ft hv).1 (hf 0 ft hv).2 (c3 j ft hj hv)⟩
  | 2, ⟨cA, f, c1, c2, c3⟩ => exact ⟨cA, f, by rw [hw]; exact c1, c2, fun j ft hj hv => zft_gh hg (hf 0 ft hv).1 (hf 0 ft hv).2 (c3 j ft hj hv)⟩
  | 3, ⟨cA, f, c1, c2⟩ => exact ⟨cA, f, by rw [hw]; exact c1, c2⟩
  | 4, ⟨cA, C, f, c1, c2⟩ => exact ⟨cA, C, f, by rw [hw]; exact c1, c2⟩
  | 5, ⟨cA, f, c1, c2⟩ => exact ⟨cA, f, by rw [hw]; exact c1, c2⟩
  | 6, _ => simp at p1
  | 7, _ => simp at p2
/-- the watch is left -/
theorem zW_off {Z : zZ} {ci : Nat} {ad : Nat → Nat} {gh gh' : Nat → Int} {tys : List (ClassId × FieldType)} {ws : va_W} (hT : zTxB Z ci = true) (hg : ∀ n, n ≠ 2 → n ≠ 3 → gh' n = gh n) (h2 : gh' 2 = -1) (h : zW Z ad gh tys ws) : zW Z ad gh' tys ws := by
  intro e he q q1 q2
  have hc := h e he q q1 q2
  rcases (zTxB_ok hT).1 e he with rfl | rfl | rfl | ⟨h3, -⟩
  · obtain ⟨fs, c1, c2, c3⟩ := hc
    refine ⟨fs, c1, c2, fun j ft v hj hv => ?_⟩
    have h1 := c3 j ft v hj hv
    by_cases h8 : ft.1 = 8
    · obtain ⟨tg, lo, hi⟩ := ft
      have h8 : tg = 8 := h8
      subst h8
      obtain ⟨x, x1, x2, x3⟩ := h1
      refine ⟨x, x1, x2, fun _ => ?_⟩
      have hlo : 0 ≤ lo := by
        match j, hj with
        | 0, hj => cases hj
        | 1, hj => cases hj
        | 2, hj => cases hj
        | 3, hj => cases hj
        | 4, hj => cases hj; decide
        | n + 5, hj => simp [zTX] at hj
      omega
    · refine zft_gh hg h8 (fun h3 => ?_) h1
      match j, hj with
      | 0, hj => cases hj; cases h3
      | 1, hj => cases hj; cases h3
      | 2, hj => cases hj; cases h3
      | 3, hj => cases hj; cases h3
      | 4, hj => cases hj; cases h3
      | n + 5, hj => simp [zTX] at hj
  · obtain ⟨cA, cB, f, g, w1, w2, w3, w4, w5⟩ := hc
    exact ⟨cA, cB, f, g, w1, w2, w3, w4, fun _ h0 => by omega⟩
  · exact hc
  · exact zcell_gh hg h3 rfl hc
