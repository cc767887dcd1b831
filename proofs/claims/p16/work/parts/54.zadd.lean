/-! A STEP MORE IN A TEXT: the world behind it, and the walk -/
theorem zx1 {x : Int32} (h0 : 0 ≤ x.toInt) (h1 : x.toInt < 61) : (x + 1).toInt = x.toInt + 1 := by
  rw [Int32.toInt_add, show (1 : Int32).toInt = 1 from rfl, Int.bmod_eq_of_le (by omega) (by omega)]
theorem zcl {x : Int32} (h0 : 0 ≤ x.toInt) : (x.toNatClampNeg : Int) = x.toInt := by
  have e : x.toNatClampNeg = x.toInt.toNat := rfl
  omega
def zaddW (ad : Nat → Nat) (ws : va_W) (q ci : Nat) (fs : List Value) (cA cB : ClassId) (f g : Nat → Int32) (x a b : Int32) : va_W :=
  ((ws.set (q + 21) (ad (q + 21), .inl (cA, 61, .inl (upd f x.toNatClampNeg a)))).set (q + 23) (ad (q + 23), .inl (cB, 61, .inl (upd g x.toNatClampNeg b)))).set q (ad q, .inr (ci, fs.set 4 (.int (x + 1))))
theorem zaddW_ne {ad : Nat → Nat} {ws : va_W} {q ci : Nat} {fs : List Value} {cA cB : ClassId} {f g : Nat → Int32} {x a b : Int32} {q2 : Nat} (h1 : q2 ≠ q) (h2 : q2 ≠ q + 21) (h3 : q2 ≠ q + 23) : (zaddW ad ws q ci fs cA cB f g x a b)[q2]? = ws[q2]? := by
  unfold zaddW
  rw [List.getElem?_set_ne (Ne.symm h1), List.getElem?_set_ne (Ne.symm h3), List.getElem?_set_ne (Ne.symm h2)]
theorem zaddW_q {ad : Nat → Nat} {ws : va_W} {q ci : Nat} {fs : List Value} {cA cB : ClassId} {f g : Nat → Int32} {x a b : Int32} (h : q < ws.length) : (zaddW ad ws q ci fs cA cB f g x a b)[q]? = some (ad q, .inr (ci, fs.set 4 (.int (x + 1)))) := by
  unfold zaddW
  exact List.getElem?_set_self (by rw [List.length_set, List.length_set]; exact h)
theorem zaddW_N {ad : Nat → Nat} {ws : va_W} {q ci : Nat} {fs : List Value} {cA cB : ClassId} {f g : Nat → Int32} {x a b : Int32} (h : q + 23 < ws.length) : (zaddW ad ws q ci fs cA cB f g x a b)[q + 23]? = some (ad (q + 23), .inl (cB, 61, .inl (upd g x.toNatClampNeg b))) := by
  unfold zaddW
  rw [List.getElem?_set_ne (by omega)]
  exact List.getElem?_set_self (by rw [List.length_set]; exact h)
theorem zaddW_S {ad : Nat → Nat} {ws : va_W} {q ci : Nat} {fs : List Value} {cA cB : ClassId} {f g : Nat → Int32} {x a b : Int32} (h : q + 21 < ws.length) : (zaddW ad ws q ci fs cA cB f g x a b)[q + 21]? = some (ad (q + 21), .inl (cA, 61, .inl (upd f x.toNatClampNeg a))) := by
  unfold zaddW
  rw [List.getElem?_set_ne (by omega), List.getElem?_set_ne (by omega)]
  exact List.getElem?_set_self h
theorem zW_add {Z : zZ} {ci : Nat} {ad : Nat → Nat} {gh gh' : Nat → Int} {tys : List (ClassId × FieldType)} {ws : va_W} {q : Nat} {fs : List Value} {cA cB : ClassId} {f g : Nat → Int32} {x a b : Int32} (hT : zTxB Z ci = true) (hW : zW Z ad gh tys ws) (hq : q = 10 ∨ q = 11) (c1 : ws[q]? = some (ad q, .inr (ci, fs))) (hv : fs[4]? = some (.int x)) (x0 : 0 ≤ x.toInt) (x1 : x.toInt < 61)
    (w1 : ws[q + 21]? = some (ad (q + 21), .inl (cA, 61, .inl f))) (w3 : ws[q + 23]? = some (ad (q + 23), .inl (cB, 61, .inl g))) (hab : zTI a b) (hg : ∀ n, n ≠ 2 → n ≠ 3 → gh' n = gh n) (hs : (gh' 2 = gh 2 ∧ gh' 3 = gh 3) ∨ (gh' 2 = x.toInt ∧ gh' 3 = q ∧ a.toInt = 63)) : zW Z ad gh' tys (zaddW ad ws q ci fs cA cB f g x a b) := by
  have l1 := (List.getElem?_eq_some_iff.mp c1).1
  have l2 := (List.getElem?_eq_some_iff.mp w1).1
  have l3 := (List.getElem?_eq_some_iff.mp w3).1
  have hx1 := zx1 x0 x1
  have hcl := zcl x0
  obtain ⟨hT1, hT2, hT3, hT4⟩ := zTxB_ok hT
  intro e he q2 g1 g2
  have hc := hW e he q2 g1 g2
  rcases hT1 e he with rfl | rfl | rfl | ⟨h3, h4, h5⟩
  · -- a text
    obtain ⟨fs2, c2, c3, c4⟩ := hc
    have hf8 : ∀ (j : Nat) (ft : zFT), (zTX ci).2.2.2[j]? = some ft → (ft.1 = 8 → ft = (8, 0, 61) ∧ j = 4) ∧ ft.1 ≠ 3 := fun j ft hj => by
      match j, hj with
      | 0, hj => cases hj; exact ⟨fun h => (by cases h), by decide⟩
      | 1, hj => cases hj; exact ⟨fun h => (by cases h), by decide⟩
      | 2, hj => cases hj; exact ⟨fun h => (by cases h), by decide⟩
      | 3, hj => cases hj; exact ⟨fun h => (by cases h), by decide⟩
      | 4, hj => cases hj; exact ⟨fun h => ⟨rfl, rfl⟩, by decide⟩
      | n + 5, hj => simp [zTX] at hj
    by_cases hqq : q2 = q
    · subst hqq
      rw [c1] at c2
      cases c2
      refine ⟨fs.set 4 (.int (x + 1)), zaddW_q l1, by rw [List.length_set]; exact c3, fun j ft v hj hv2 => ?_⟩
      have h8 := hf8 j ft hj
      by_cases hj4 : j = 4
      · subst hj4
        rw [List.getElem?_set_self (List.getElem?_eq_some_iff.mp hv).1] at hv2
        cases hv2
        have hft : ft = (8, 0, 61) := by cases hj; rfl
        subst hft
        have hold := c4 4 _ _ hj hv
        obtain ⟨x', e', -, h9⟩ := hold
        cases e'
        refine ⟨x + 1, rfl, ⟨by omega, by omega⟩, fun hq3 => ?_⟩
        rcases hs with ⟨s2, s3⟩ | ⟨s2, s3, -⟩
        · have := h9 (by rw [← s3]; exact hq3)
          omega
        · omega
      · rw [List.getElem?_set_ne (Ne.symm hj4)] at hv2
        exact zft_gh hg (fun h => hj4 (h8.1 h).2) (fun h => absurd h h8.2) (c4 j ft v hj hv2)
    · refine ⟨fs2, by rw [zaddW_ne hqq (by simp only at g1 g2; omega) (by simp only at g1 g2; omega)]; exact c2, c3, fun j ft v hj hv2 => ?_⟩
      have h8 := hf8 j ft hj
      have hold := c4 j ft v hj hv2
      by_cases h88 : ft.1 = 8
      · obtain ⟨e8, -⟩ := h8.1 h88
        subst e8
        obtain ⟨x', e', h10, h9⟩ := hold
        refine ⟨x', e', h10, fun hq3 => ?_⟩
        rcases hs with ⟨s2, s3⟩ | ⟨s2, s3, -⟩
        · have := h9 (by rw [← s3]; exact hq3)
          omega
        · exact absurd (show q2 = q by omega) hqq
      · exact zft_gh hg h88 (fun h => absurd h h8.2) hold
  · -- signs
    obtain ⟨dA, dB, f2, g2', w1', w2, w3', w4, w5⟩ := hc
    have w3' : ws[q2 + 2]? = some (ad (q2 + 2), .inl (dB, 61, .inl g2')) := w3'
    have w5 : (q2 : Int) = gh 3 + 21 → 0 ≤ gh 2 → gh 2 < ((61 : Nat) : Int) ∧ (f2 (gh 2).toNat).toInt = 63 := w5
    by_cases hqq : q2 = q + 21
    · subst hqq
      rw [w1] at w1'
      cases w1'
      have w3' : ws[q + 23]? = some (ad (q + 23), .inl (dB, 61, .inl g2')) := w3'
      rw [w3] at w3'
      cases w3'
      refine ⟨cA, cB, upd f x.toNatClampNeg a, upd g x.toNatClampNeg b, zaddW_S l2, w2, zaddW_N l3, fun j hj => ?_, fun hq3 h0 => ?_⟩
      · by_cases hjx : j = x.toNatClampNeg
        · subst hjx
          simp only [upd, if_true]
          exact hab
        · simp only [upd, if_neg hjx]
          exact w4 j hj
      · have hq3 : ((q + 21 : Nat) : Int) = gh' 3 + 21 := hq3
        show gh' 2 < ((61 : Nat) : Int) ∧ (upd f x.toNatClampNeg a (gh' 2).toNat).toInt = 63
        rcases hs with ⟨s2, s3⟩ | ⟨s2, s3, s4⟩
        · obtain ⟨fs2, c2, c3, c4⟩ := hW _ hT2 q (by simp only; omega) (by simp only; omega)
          rw [c1] at c2
          cases c2
          obtain ⟨x', e', -, h9⟩ := c4 4 (8, 0, 61) _ rfl hv
          cases e'
          have h10 := h9 (by omega)
          have h11 := w5 (by omega) (by omega)
          have hne : (gh' 2).toNat ≠ x.toNatClampNeg := by omega
          rw [s2] at hne ⊢
          simp only [upd, if_neg hne]
          exact h11
        · have e2 : (gh' 2).toNat = x.toNatClampNeg := by omega
          rw [e2]
          simp only [upd, if_true]
          exact ⟨by omega, s4⟩
    · refine ⟨dA, dB, f2, g2', by rw [zaddW_ne (by simp only at g1 g2; omega) hqq (by simp only at g1 g2; omega)]; exact w1', w2, ?_, w4, fun hq3 h0 => ?_⟩
      · show (zaddW ad ws q ci fs cA cB f g x a b)[q2 + 2]? = some (ad (q2 + 2), .inl (dB, 61, .inl g2'))
        rw [zaddW_ne (by simp only at g1 g2; omega) (by simp only at g1 g2; omega) (by omega)]
        exact w3'
      · have hq3 : (q2 : Int) = gh' 3 + 21 := hq3
        show gh' 2 < ((61 : Nat) : Int) ∧ (f2 (gh' 2).toNat).toInt = 63
        rcases hs with ⟨s2, s3⟩ | ⟨s2, s3, s4⟩
        · rw [s2]
          exact w5 (by omega) (by omega)
        · exact absurd (show q2 = q + 21 by omega) hqq
  · -- numbers
    obtain ⟨dA, f2, w1', w2⟩ := hc
    by_cases hqq : q2 = q + 23
    · subst hqq
      rw [w3] at w1'
      cases w1'
      exact ⟨cB, _, zaddW_N l3, w2⟩
    · exact ⟨dA, f2, by rw [zaddW_ne (by simp only at g1 g2; omega) (by simp only at g1 g2; omega) hqq]; exact w1', w2⟩
  · exact zcell_gh hg h3 (zaddW_ne (by omega) (by omega) (by omega)) hc
