/-! RULES AND TEXTS ALIKE, KEPT -/
def yT4 (g : yM) : Prop := ∃ q : Nat, (q = 10 ∨ q = 11) ∧ g 6 5 = (q : Int) ∧ g 6 6 = 21 - (q : Int) ∧ ((g 90 15 = -1 ∧ g q 4 = 0) ∨ (0 ≤ g 90 15 ∧ g 90 15 ≤ 60 ∧ yTxF (yTn g) (g 90 15) = -1 ∧ yHc q g (yLk (yTn g) 60 0 0)))
def yR4 (g : yM) : Prop := (∀ i : Nat, (i : Int) < g 6 8 → g 115 i = g 27 i ∧ g 116 i = g 28 i ∧ g 117 i = g 29 i ∧ 0 ≤ g 29 i ∧ g 29 i ≤ 99) ∧ yT4 g
def yR4s (a b : Nat) : Prop := (a = 6 ∧ (b = 5 ∨ b = 6 ∨ b = 8)) ∨ ((a = 10 ∨ a = 11) ∧ b = 4) ∨ (27 ≤ a ∧ a ≤ 29) ∨ (31 ≤ a ∧ a ≤ 34) ∨ (a = 90 ∧ b = 15) ∨ a = 99 ∨ (115 ≤ a ∧ a ≤ 117)
def yrs4 : zWr := [(6, 6, 1, 5), (6, 6, 1, 6), (6, 6, 1, 8), (10, 11, 1, 4), (27, 29, 0, 0), (31, 34, 0, 0), (90, 90, 1, 15), (99, 99, 0, 0), (115, 117, 0, 0)]
theorem yT4.mono' {g m : yM} (h : yT4 g) (e : ∀ a b : Nat, (a = 6 ∧ (b = 5 ∨ b = 6)) ∨ ((a = 10 ∨ a = 11) ∧ b = 4) ∨ (31 ≤ a ∧ a ≤ 34) ∨ (a = 90 ∧ b = 15) ∨ a = 99 → m a b = g a b) : yT4 m := by
  obtain ⟨q, hq, h5, h6, h⟩ := h
  have e15 : m 90 15 = g 90 15 := e 90 15 (by omega)
  have eT : yTn m = yTn g := yTn_of e15 (fun j => e 99 j (by omega))
  refine ⟨q, hq, by rw [e 6 5 (by omega)]; exact h5, by rw [e 6 6 (by omega)]; exact h6, ?_⟩
  rw [eT, e15, e q 4 (by omega)]
  exact h.imp id (fun ⟨h1, h2, h3, h4⟩ => ⟨h1, h2, h3, h4.of (e q 4 (by omega)) (fun j => e _ j (by omega)) (fun j => e _ j (by omega))⟩)
theorem yR4.mono' {g m : yM} (h : yR4 g) (e : ∀ a b : Nat, yR4s a b → m a b = g a b) : yR4 m := by
  refine ⟨fun i hi => ?_, h.2.mono' (fun a b hab => e a b (by unfold yR4s; omega))⟩
  rw [e 6 8 (by unfold yR4s; omega)] at hi
  rw [e 115 i (by unfold yR4s; omega), e 116 i (by unfold yR4s; omega), e 117 i (by unfold yR4s; omega), e 27 i (by unfold yR4s; omega), e 28 i (by unfold yR4s; omega), e 29 i (by unfold yR4s; omega)]
  exact h.1 i hi
theorem yR4s_of {g m : yM} (e : yEq yrs4 g m) : ∀ a b : Nat, yR4s a b → m a b = g a b := fun a b h => by
  rcases h with ⟨rfl, rfl | rfl | rfl⟩ | ⟨h, rfl⟩ | h | h | ⟨rfl, rfl⟩ | rfl | h
  · exact e.one (by decide)
  · exact e.one (by decide)
  · exact e.one (by decide)
  · exact e.fld (a := 10) (b := 11) (by decide) (by omega) (by omega)
  · exact e.all (a := 27) (b := 29) (n := 0) (by decide) (by omega) (by omega) b
  · exact e.all (a := 31) (b := 34) (n := 0) (by decide) (by omega) (by omega) b
  · exact e.one (by decide)
  · exact e.all (a := 99) (b := 99) (n := 0) (by decide) (by decide) (by decide) b
  · exact e.all (a := 115) (b := 117) (n := 0) (by decide) (by omega) (by omega) b
theorem yR4.mono {g m : yM} (h : yR4 g) (e : yEq yrs4 g m) : yR4 m := h.mono' (yR4s_of e)
theorem yR4.bec {g1 g2 : yM} {w v : Int} {p : Prop} (h : yR4 g1) (m2 : p → g2 = g1) (m3 : ¬ p → g2 = ybec g1 w v) : yR4 g2 := by
  by_cases e : p
  · rw [m2 e]
    exact h
  · exact h.mono' (fun a b hab => by rw [m3 e]; exact ybec_nc (by unfold yR4s at hab; omega))
theorem yk4_ch {g g1 : yM} {k o v r1 : Int} (h : yR4 g) (hk : yok g k o) (ha : r1 = ykv g k o ∧ (r1 = v → g1 = g) ∧ (r1 ≠ v → yTy zpZ g1 ∧ yWz (ymk g k o v) g1)) : yR4 g1 := by
  by_cases e : r1 = v
  · rw [ha.2.1 e]
    exact h
  · obtain ⟨t1, s1⟩ := ha.2.2 e
    exact h.mono ((ymk_un hk s1).eq (by decide +kernel))
/-- the relation with rules and texts -/
def yQnv (g : yM) : Prop := yKnv g ∧ yR4 g
theorem yk4_MA {g g1 g2 : yM} {a b v r1 r2 : Int} (hQ : yQnv g)  (a0 : ¬ (0 ≤ a ∧ a < 6 ∧ 0 ≤ b ∧ b ≤ 1 ∧ 1 ≤ v ∧ v ≤ 99 ∧ (b = 0 → v ≤ g 14 (Int.toNat a)) ∧ (b = 1 → g 13 (Int.toNat a) ≤ v)) → r1 = -1 ∧ g1 = g) (a1 : (0 ≤ a ∧ a < 6 ∧ 0 ≤ b ∧ b ≤ 1 ∧ 1 ≤ v ∧ v ≤ 99 ∧ (b = 0 → v ≤ g 14 (Int.toNat a)) ∧ (b = 1 → g 13 (Int.toNat a) ≤ v)) → b = 0 → r1 = ykv g 1 a ∧ (r1 = v → g1 = g) ∧ (r1 ≠ v → yTy zpZ g1 ∧ yWz (ymk g 1 a v) g1)) (a2 : (0 ≤ a ∧ a < 6 ∧ 0 ≤ b ∧ b ≤ 1 ∧ 1 ≤ v ∧ v ≤ 99 ∧ (b = 0 → v ≤ g 14 (Int.toNat a)) ∧ (b = 1 → g 13 (Int.toNat a) ≤ v)) → b = 1 → r1 = ykv g 2 a ∧ (r1 = v → g1 = g) ∧ (r1 ≠ v → yTy zpZ g1 ∧ yWz (ymk g 2 a v) g1)) (b0 : ¬ (0 ≤ a ∧ a < 6 ∧ 0 ≤ b ∧ b ≤ 1 ∧ 1 ≤ v ∧ v ≤ 99 ∧ (b = 0 → v ≤ g1 91 (Int.toNat (46 + a))) ∧ (b = 1 → g1 91 (Int.toNat (40 + a)) ≤ v)) → r2 = -1 ∧ g2 = g1) (b1 : (0 ≤ a ∧ a < 6 ∧ 0 ≤ b ∧ b ≤ 1 ∧ 1 ≤ v ∧ v ≤ 99 ∧ (b = 0 → v ≤ g1 91 (Int.toNat (46 + a))) ∧ (b = 1 → g1 91 (Int.toNat (40 + a)) ≤ v)) → b = 0 → r2 = g1 91 (Int.toNat (40 + a)) ∧ (g1 91 (Int.toNat (40 + a)) = v → g2 = g1) ∧ (g1 91 (Int.toNat (40 + a)) ≠ v → g2 = ybec g1 (40 + a) v)) (b2 : (0 ≤ a ∧ a < 6 ∧ 0 ≤ b ∧ b ≤ 1 ∧ 1 ≤ v ∧ v ≤ 99 ∧ (b = 0 → v ≤ g1 91 (Int.toNat (46 + a))) ∧ (b = 1 → g1 91 (Int.toNat (40 + a)) ≤ v)) → b = 1 → r2 = g1 91 (Int.toNat (46 + a)) ∧ (g1 91 (Int.toNat (46 + a)) = v → g2 = g1) ∧ (g1 91 (Int.toNat (46 + a)) ≠ v → g2 = ybec g1 (46 + a) v)) : yR4 g2 := by
  have hJ := hQ.1.1
  have h4 := hQ.2
  have hz := hJ.1.1.sz
  have s1 : yR4 g1 := by
    by_cases ok : (0 ≤ a ∧ a < 6 ∧ 0 ≤ b ∧ b ≤ 1 ∧ 1 ≤ v ∧ v ≤ 99 ∧ (b = 0 → v ≤ g 14 (Int.toNat a)) ∧ (b = 1 → g 13 (Int.toNat a) ≤ v))
    · by_cases hb : b = 0
      · exact yk4_ch h4 (Or.inr (Or.inl ⟨rfl, ok.1, ok.2.1⟩)) (a1 ok hb)
      · exact yk4_ch h4 (Or.inr (Or.inr (Or.inl ⟨rfl, ok.1, ok.2.1⟩))) (a2 ok (by omega))
    · rw [(a0 ok).2]
      exact h4
  by_cases ok : (0 ≤ a ∧ a < 6 ∧ 0 ≤ b ∧ b ≤ 1 ∧ 1 ≤ v ∧ v ≤ 99 ∧ (b = 0 → v ≤ g1 91 (Int.toNat (46 + a))) ∧ (b = 1 → g1 91 (Int.toNat (40 + a)) ≤ v))
  · by_cases hb : b = 0
    · exact s1.bec (b1 ok hb).2.1 (b1 ok hb).2.2
    · exact s1.bec (b2 ok (by omega)).2.1 (b2 ok (by omega)).2.2
  · rw [(b0 ok).2]
    exact s1
theorem yk4_YA {g g1 g2 : yM} {a v r1 r2 : Int} (hQ : yQnv g)  (a0 : ¬ (0 ≤ a ∧ a ≤ 2 ∧ 0 ≤ v ∧ v ≤ 30 ∧ (a = 0 → v ≤ 3) ∧ (a = 2 → v ≤ 1)) → r1 = -1 ∧ g1 = g) (a1 : (0 ≤ a ∧ a ≤ 2 ∧ 0 ≤ v ∧ v ≤ 30 ∧ (a = 0 → v ≤ 3) ∧ (a = 2 → v ≤ 1)) → a = 0 → r1 = g 1 8 ∧ g1 = yset g 1 8 v) (a2 : (0 ≤ a ∧ a ≤ 2 ∧ 0 ≤ v ∧ v ≤ 30 ∧ (a = 0 → v ≤ 3) ∧ (a = 2 → v ≤ 1)) → a = 2 → r1 = g 1 10 ∧ g1 = yset g 1 10 v) (a3 : (0 ≤ a ∧ a ≤ 2 ∧ 0 ≤ v ∧ v ≤ 30 ∧ (a = 0 → v ≤ 3) ∧ (a = 2 → v ≤ 1)) → a = 1 → r1 = ykv g 3 0 ∧ (r1 = v → g1 = g) ∧ (r1 ≠ v → yTy zpZ g1 ∧ yWz (ymk g 3 0 v) g1)) (b0 : ¬ (0 ≤ a ∧ a ≤ 2 ∧ 0 ≤ v ∧ v ≤ 30 ∧ (a = 0 → v ≤ 3) ∧ (a = 2 → v ≤ 1)) → r2 = -1 ∧ g2 = g1) (b1 : (0 ≤ a ∧ a ≤ 2 ∧ 0 ≤ v ∧ v ≤ 30 ∧ (a = 0 → v ≤ 3) ∧ (a = 2 → v ≤ 1)) → a = 0 → r2 = g1 90 10 ∧ g2 = yset g1 90 10 v) (b2 : (0 ≤ a ∧ a ≤ 2 ∧ 0 ≤ v ∧ v ≤ 30 ∧ (a = 0 → v ≤ 3) ∧ (a = 2 → v ≤ 1)) → a = 2 → r2 = g1 90 11 ∧ g2 = yset g1 90 11 v) (b3 : (0 ≤ a ∧ a ≤ 2 ∧ 0 ≤ v ∧ v ≤ 30 ∧ (a = 0 → v ≤ 3) ∧ (a = 2 → v ≤ 1)) → a = 1 → r2 = g1 91 52 ∧ (g1 91 52 = v → g2 = g1) ∧ (g1 91 52 ≠ v → g2 = ybec g1 52 v)) : yR4 g2 := by
  have hJ := hQ.1.1
  have h4 := hQ.2
  have hz := hJ.1.1.sz
  by_cases ok : (0 ≤ a ∧ a ≤ 2 ∧ 0 ≤ v ∧ v ≤ 30 ∧ (a = 0 → v ≤ 3) ∧ (a = 2 → v ≤ 1))
  · by_cases h0 : a = 0
    · have s1 : yR4 g1 := by
        rw [(a1 ok h0).2]
        exact h4.mono' (fun x y hab => yset_ne (by unfold yR4s at hab; omega))
      exact s1.mono' (fun x y hab => by rw [(b1 ok h0).2]; exact yset_ne (by unfold yR4s at hab; omega))
    · by_cases h2 : a = 2
      · have s1 : yR4 g1 := by
          rw [(a2 ok h2).2]
          exact h4.mono' (fun x y hab => yset_ne (by unfold yR4s at hab; omega))
        exact s1.mono' (fun x y hab => by rw [(b2 ok h2).2]; exact yset_ne (by unfold yR4s at hab; omega))
      · have s1 : yR4 g1 := yk4_ch h4 (Or.inr (Or.inr (Or.inr ⟨rfl, rfl⟩))) (a3 ok (by omega))
        exact s1.bec (b3 ok (by omega)).2.1 (b3 ok (by omega)).2.2
  · rw [(b0 ok).2, (a0 ok).2]
    exact h4
theorem yk4_CA {g g1 g2 : yM} {w v r1 r2 : Int} (hQ : yQnv g)  (a0 : ¬ (0 ≤ w ∧ w < g 1 1 ∧ 0 ≤ v ∧ v < g (50 + Int.toNat w) 2) → r1 = -1 ∧ g1 = g) (a1 : (0 ≤ w ∧ w < g 1 1 ∧ 0 ≤ v ∧ v < g (50 + Int.toNat w) 2) → r1 = ykv g 0 w ∧ (r1 = v → g1 = g) ∧ (r1 ≠ v → yTy zpZ g1 ∧ yWz (ymk g 0 w v) g1)) (b0 : ¬ (0 ≤ w ∧ w < g1 90 22 ∧ 0 ≤ v ∧ v < g1 102 (Int.toNat w)) → r2 = -1 ∧ g2 = g1) (b1 : (0 ≤ w ∧ w < g1 90 22 ∧ 0 ≤ v ∧ v < g1 102 (Int.toNat w)) → r2 = g1 91 (Int.toNat (w)) ∧ (g1 91 (Int.toNat (w)) = v → g2 = g1) ∧ (g1 91 (Int.toNat (w)) ≠ v → g2 = ybec g1 (w) v)) : yR4 g2 := by
  have hJ := hQ.1.1
  have h4 := hQ.2
  have hz := hJ.1.1.sz
  have s1 : yR4 g1 := by
    by_cases ok : (0 ≤ w ∧ w < g 1 1 ∧ 0 ≤ v ∧ v < g (50 + Int.toNat w) 2)
    · exact yk4_ch h4 (Or.inl ⟨rfl, ok.1, ok.2.1, by omega⟩) (a1 ok)
    · rw [(a0 ok).2]
      exact h4
  by_cases ok : (0 ≤ w ∧ w < g1 90 22 ∧ 0 ≤ v ∧ v < g1 102 (Int.toNat w))
  · exact s1.bec (b1 ok).2.1 (b1 ok).2.2
  · rw [(b0 ok).2]
    exact s1
theorem yk4_UN {g g1 g2 : yM} {r1 r2 : Int} (hQ : yQnv g)  (a0 : (r1 = -5 ∧ g 4 5 = 0) ∨ (r1 = g 4 5 - 1 ∧ 0 < g 4 5)) (a1 : g 4 5 = 0 → g1 = g) (a2 : 0 < g 4 5 → yTy zpZ g1 ∧ yWz (ysv (yset g 4 5 (g 4 5 - 1)) (g 19 (Int.toNat (g 4 5 - 1))) (g 20 (Int.toNat (g 4 5 - 1))) (g 21 (Int.toNat (g 4 5 - 1)))) g1) (b0 : (r2 = -5 ∧ g1 90 5 = 0) ∨ (r2 = g1 90 5 - 1 ∧ 0 < g1 90 5)) (b1 : g1 90 5 = 0 → g2 = g1) (b2 : 0 < g1 90 5 → g2 = yset (yset g1 90 5 (g1 90 5 - 1)) 91 (Int.toNat (g1 92 (Int.toNat (g1 90 5 - 1)))) (g1 93 (Int.toNat (g1 90 5 - 1)))) : yR4 g2 := by
  have hJ := hQ.1.1
  have h4 := hQ.2
  have hz := hJ.1.1.sz
  obtain ⟨⟨d1, d2, d3, d4, d5⟩, hE⟩ := hJ.2.2.2.2.1
  by_cases h0 : g 4 5 = 0
  · have e := a1 h0
    subst e
    rw [b1 (by omega)]
    exact h4
  · obtain ⟨k1, k2, k3, k4, k5, k6⟩ := hE (Int.toNat (g 4 5 - 1)) (by omega)
    obtain ⟨t1, s1⟩ := a2 (by omega)
    have kM : yok (yset g 4 5 (g 4 5 - 1)) (g 19 (Int.toNat (g 4 5 - 1))) (g 20 (Int.toNat (g 4 5 - 1))) := k1.mono (yset_nc (by decide))
    have f5 : g1 90 5 = g 4 5 := by rw [s1.1 90 5 (by omega), ysv_nc kM (by omega), yset_nc (by omega)]; exact d1
    have eM := b2 (by omega)
    have q1 : yR4 g1 := h4.mono' (fun a b hab => by rw [s1.1 a b (by unfold yR4s at hab; omega), ysv_nc kM (by unfold yR4s at hab; omega), yset_ne (by unfold yR4s at hab; omega)])
    exact q1.mono' (fun a b hab => by rw [eM, yset_ne (by unfold yR4s at hab; omega), yset_ne (by unfold yR4s at hab; omega)])
theorem yk4_RE {g g1 g2 : yM} {r1 r2 : Int} (hQ : yQnv g)  (a0 : (r1 = -5 ∧ g 4 5 = g 4 6) ∨ (r1 = g 4 6 - (g 4 5 + 1) ∧ g 4 5 < g 4 6)) (a1 : g 4 5 = g 4 6 → g1 = g) (a2 : g 4 5 < g 4 6 → yTy zpZ g1 ∧ ∃ M, yWz (ysv g (g 19 (Int.toNat (g 4 5))) (g 20 (Int.toNat (g 4 5))) (g 22 (Int.toNat (g 4 5)))) M ∧ g1 = yset M 4 5 (g 4 5 + 1)) (b0 : (r2 = -5 ∧ g1 90 5 = g1 90 4) ∨ (r2 = g1 90 4 - (g1 90 5 + 1) ∧ g1 90 5 < g1 90 4)) (b1 : g1 90 5 = g1 90 4 → g2 = g1) (b2 : g1 90 5 < g1 90 4 → g2 = yset (yset g1 91 (Int.toNat (g1 92 (Int.toNat (g1 90 5)))) (g1 94 (Int.toNat (g1 90 5)))) 90 5 (g1 90 5 + 1)) : yR4 g2 := by
  have hJ := hQ.1.1
  have h4 := hQ.2
  have hz := hJ.1.1.sz
  obtain ⟨⟨d1, d2, d3, d4, d5⟩, hE⟩ := hJ.2.2.2.2.1
  by_cases h0 : g 4 5 = g 4 6
  · have e := a1 h0
    subst e
    rw [b1 (by omega)]
    exact h4
  · obtain ⟨k1, k2, k3, k4, k5, k6⟩ := hE (Int.toNat (g 4 5)) (by omega)
    obtain ⟨t1, M, s1, e⟩ := a2 (by omega)
    have fr : ∀ x j : Nat, 90 ≤ x → g1 x j = g x j := fun x j hx => by
      rw [e, yset_nc (by omega), s1.1 x j (by omega), ysv_nc k1 (by omega)]
    have f5 : g1 90 5 = g 4 5 := by rw [fr 90 5 (by decide)]; exact d1
    have f4 : g1 90 4 = g 4 6 := by rw [fr 90 4 (by decide)]; exact d2
    have eM := b2 (by omega)
    have q1 : yR4 g1 := h4.mono' (fun a b hab => by rw [e, yset_ne (by unfold yR4s at hab; omega), s1.1 a b (by unfold yR4s at hab; omega), ysv_nc k1 (by unfold yR4s at hab; omega)])
    exact q1.mono' (fun a b hab => by rw [eM, yset_ne (by unfold yR4s at hab; omega), yset_ne (by unfold yR4s at hab; omega)])
theorem yk4_FE {g g1 g2 : yM} {n v r1 r2 : Int} (hQ : yQnv g)  (a0 : (r1 = -1 ∧ ¬ (1 ≤ n ∧ n ≤ 4)) ∨ ((1 ≤ n ∧ n ≤ 4) ∧ ((r1 = -3 ∧ 60 < g 2 2 + n) ∨ (r1 = g 2 2 + n ∧ g 2 2 + n ≤ 60)))) (a1 : r1 < 0 → g1 = g) (a2 : 0 ≤ r1 → g1 = yfd 2 2 18 (ybc v) (Int.toNat n) g) (a3 : -2147483648 ≤ v ∧ v ≤ 2147483647) (b0 : (r2 = -1 ∧ ¬ (1 ≤ n ∧ n ≤ 4)) ∨ ((1 ≤ n ∧ n ≤ 4) ∧ ((r2 = -3 ∧ 60 < g1 90 13 + n) ∨ (r2 = g1 90 13 + n ∧ g1 90 13 + n ≤ 60)))) (b1 : r2 < 0 → g2 = g1) (b2 : 0 ≤ r2 → g2 = yfd 90 13 98 (ybm v) (Int.toNat n) g1) (b3 : -2147483648 ≤ v ∧ v ≤ 2147483647) : yR4 g2 := by
  have hJ := hQ.1.1
  have h4 := hQ.2
  have hz := hJ.1.1.sz
  have s1 : yR4 g1 := by
    by_cases h : r1 < 0
    · rw [a1 h]
      exact h4
    · rw [a2 (by omega)]
      exact h4.mono' (fun x y hab => yfd_nc ⟨by unfold yR4s at hab; omega, by unfold yR4s at hab; omega⟩ _ _)
  by_cases h : r2 < 0
  · rw [b1 h]
    exact s1
  · exact s1.mono' (fun x y hab => by rw [b2 (by omega)]; exact yfd_nc ⟨by unfold yR4s at hab; omega, by unfold yR4s at hab; omega⟩ _ _)
theorem yk4_ST {g g1 g2 : yM} {w v r1 r2 : Int} (hQ : yQnv g)  (a0 : (r1 = -1 ∧ ¬ (0 ≤ w ∧ w < g 1 1 ∧ -1 ≤ v ∧ v ≤ 719)) ∨ (r1 = 1 ∧ (0 ≤ w ∧ w < g 1 1 ∧ -1 ≤ v ∧ v ≤ 719))) (a1 : r1 ≠ 1 → g1 = g) (a2 : r1 = 1 → g1 = yset g (50 + Int.toNat w) 8 v) (b0 : (r2 = -1 ∧ ¬ (0 ≤ w ∧ w < g1 90 22 ∧ -1 ≤ v ∧ v ≤ 719)) ∨ (r2 = 1 ∧ (0 ≤ w ∧ w < g1 90 22 ∧ -1 ≤ v ∧ v ≤ 719))) (b1 : r2 ≠ 1 → g2 = g1) (b2 : r2 = 1 → g2 = yset g1 108 (Int.toNat w) v) : yR4 g2 := by
  have hJ := hQ.1.1
  have h4 := hQ.2
  have hz := hJ.1.1.sz
  have s1 : yR4 g1 := by
    by_cases h : r1 = 1
    · have hw : w < 40 := by omega
      rw [a2 h]
      exact h4.mono' (fun x y hab => yset_ne (by unfold yR4s at hab; omega))
    · rw [a1 h]
      exact h4
  by_cases h : r2 = 1
  · exact s1.mono' (fun x y hab => by rw [b2 h]; exact yset_ne (by unfold yR4s at hab; omega))
  · rw [b1 h]
    exact s1
theorem yk4_AW {g g1 g2 : yM} {d v r1 r2 : Int} (hQ : yQnv g)  (a0 : ¬ (0 ≤ d ∧ d < 4 ∧ 0 ≤ v ∧ 0 ≤ (yb (fun x y => x - x / y * y) v 1000) ∧ (yb (fun x y => x - x / y * y) v 1000) < 720 ∧ 0 ≤ (yb (fun x y => x / y) v 1000) ∧ (yb (fun x y => x / y) v 1000) ≤ (yb (fun x y => x - x / y * y) v 1000)) → r1 = -1 ∧ g1 = g) (a1 : (0 ≤ d ∧ d < 4 ∧ 0 ≤ v ∧ 0 ≤ (yb (fun x y => x - x / y * y) v 1000) ∧ (yb (fun x y => x - x / y * y) v 1000) < 720 ∧ 0 ≤ (yb (fun x y => x / y) v 1000) ∧ (yb (fun x y => x / y) v 1000) ≤ (yb (fun x y => x - x / y * y) v 1000)) → g 1 7 = 12 → r1 = -3 ∧ g1 = g) (a2 : (0 ≤ d ∧ d < 4 ∧ 0 ≤ v ∧ 0 ≤ (yb (fun x y => x - x / y * y) v 1000) ∧ (yb (fun x y => x - x / y * y) v 1000) < 720 ∧ 0 ≤ (yb (fun x y => x / y) v 1000) ∧ (yb (fun x y => x / y) v 1000) ≤ (yb (fun x y => x - x / y * y) v 1000)) → g 1 7 < 12 → r1 = g 1 7 + 1 ∧ yTy zpZ g1 ∧ yWz (yaw 1 7 15 16 17 g d (yb (fun x y => x / y) v 1000) (yb (fun x y => x - x / y * y) v 1000)) g1) (b0 : ¬ (0 ≤ d ∧ d < 4 ∧ 0 ≤ v ∧ 0 ≤ (yb (fun x y => x - x / y * y) v 1000) ∧ (yb (fun x y => x - x / y * y) v 1000) < 720 ∧ 0 ≤ (yb (fun x y => x / y) v 1000) ∧ (yb (fun x y => x / y) v 1000) ≤ (yb (fun x y => x - x / y * y) v 1000)) → r2 = -1 ∧ g2 = g1) (b1 : (0 ≤ d ∧ d < 4 ∧ 0 ≤ v ∧ 0 ≤ (yb (fun x y => x - x / y * y) v 1000) ∧ (yb (fun x y => x - x / y * y) v 1000) < 720 ∧ 0 ≤ (yb (fun x y => x / y) v 1000) ∧ (yb (fun x y => x / y) v 1000) ≤ (yb (fun x y => x - x / y * y) v 1000)) → g1 90 6 = 12 → r2 = -3 ∧ g2 = g1) (b2 : (0 ≤ d ∧ d < 4 ∧ 0 ≤ v ∧ 0 ≤ (yb (fun x y => x - x / y * y) v 1000) ∧ (yb (fun x y => x - x / y * y) v 1000) < 720 ∧ 0 ≤ (yb (fun x y => x / y) v 1000) ∧ (yb (fun x y => x / y) v 1000) ≤ (yb (fun x y => x - x / y * y) v 1000)) → g1 90 6 < 12 → r2 = g1 90 6 + 1 ∧ g2 = yaw 90 6 95 96 97 g1 d (yb (fun x y => x / y) v 1000) (yb (fun x y => x - x / y * y) v 1000)) : yR4 g2 := by
  have hJ := hQ.1.1
  have h4 := hQ.2
  have hz := hJ.1.1.sz
  have h7 := hJ.2.2.2.2.2.1
  by_cases ok : (0 ≤ d ∧ d < 4 ∧ 0 ≤ v ∧ 0 ≤ (yb (fun x y => x - x / y * y) v 1000) ∧ (yb (fun x y => x - x / y * y) v 1000) < 720 ∧ 0 ≤ (yb (fun x y => x / y) v 1000) ∧ (yb (fun x y => x / y) v 1000) ≤ (yb (fun x y => x - x / y * y) v 1000))
  · by_cases h : g 1 7 = 12
    · have e := (a1 ok h).2
      subst e
      rw [(b1 ok (by omega)).2]
      exact h4
    · obtain ⟨p1, p2, p3, p4⟩ := a2 ok (by omega)
      have f6 : g1 90 6 = g 1 7 := by rw [p3 90 6 (by omega), yaw_nc ⟨by decide, by decide, by decide, by decide⟩]; exact h7.1
      have s1 : yR4 g1 := h4.mono' (fun x y hab => by rw [p3 x y (by unfold yR4s at hab; omega)]; exact yaw_nc ⟨by unfold yR4s at hab; omega, by unfold yR4s at hab; omega, by unfold yR4s at hab; omega, by unfold yR4s at hab; omega⟩)
      exact s1.mono' (fun x y hab => by rw [(b2 ok (by omega)).2]; exact yaw_nc ⟨by unfold yR4s at hab; omega, by unfold yR4s at hab; omega, by unfold yR4s at hab; omega, by unfold yR4s at hab; omega⟩)
  · have e := (a0 ok).2
    subst e
    rw [(b0 ok).2]
    exact h4
theorem yk4_CO {g g1 g2 : yM} {r1 r2 : Int} (hQ : yQnv g)  (a0 : g 1 1 = 40 → r1 = -3 ∧ g1 = g) (a1 : g 1 1 < 40 → yPf (ySc g) (g 2 2) ≠ -1 → r1 = -100 - yPf (ySc g) (g 2 2) ∧ yTy zpZ g1 ∧ g1 2 2 = 0 ∧ (∀ a b : Nat, ¬ (a = 2 ∧ 1 ≤ b ∧ b ≤ 3) → ¬ (a = (50 + Int.toNat (g 1 1)) ∧ 1 ≤ b ∧ b ≤ 7) → g1 a b = g a b)) (a2 : g 1 1 < 40 → yPf (ySc g) (g 2 2) = -1 → r1 = g 1 1 ∧ yTy zpZ g1 ∧ g1 2 2 = 0 ∧ g1 1 1 = g 1 1 + 1 ∧ (∀ j : Nat, 1 ≤ j → j ≤ 7 → g1 (50 + Int.toNat (g 1 1)) j = yPv (ySc g) j) ∧ g1 (50 + Int.toNat (g 1 1)) 0 = g 1 8 ∧ g1 (50 + Int.toNat (g 1 1)) 8 = -1 ∧ (∀ a b : Nat, ¬ (a = 2 ∧ 1 ≤ b ∧ b ≤ 3) → a ≠ (50 + Int.toNat (g 1 1)) → ¬ (a = 1 ∧ b = 1) → ¬ ((50 ≤ a ∧ a ≤ 89) ∧ (9 ≤ b ∧ b ≤ 11)) → g1 a b = g a b) ∧ yStl g1) (b0 : g1 90 22 = 40 → r2 = -3 ∧ g2 = g1) (b1 : g1 90 22 ≠ 40 → yPf (yTm g1) (g1 90 13) ≠ -1 → r2 = -100 - yPf (yTm g1) (g1 90 13) ∧ yTy zpZ g2 ∧ g2 90 13 = 0 ∧ (∀ a b : Nat, ¬ (a = 90 ∧ (b = 13 ∨ (16 ≤ b ∧ b ≤ 19))) → a ≠ 109 → g2 a b = g1 a b)) (b2 : g1 90 22 ≠ 40 → yPf (yTm g1) (g1 90 13) = -1 → r2 = g1 90 22 ∧ yTy zpZ g2 ∧ g2 90 13 = 0 ∧ g2 90 22 = g1 90 22 + 1 ∧ (g2 91 (Int.toNat (g1 90 22)) = yPv (yTm g1) 1 ∧ g2 102 (Int.toNat (g1 90 22)) = yPv (yTm g1) 2 ∧ g2 103 (Int.toNat (g1 90 22)) = yPv (yTm g1) 3 ∧ g2 104 (Int.toNat (g1 90 22)) = yPv (yTm g1) 4 ∧ g2 105 (Int.toNat (g1 90 22)) = yPv (yTm g1) 5 ∧ g2 106 (Int.toNat (g1 90 22)) = yPv (yTm g1) 6 ∧ g2 107 (Int.toNat (g1 90 22)) = yPv (yTm g1) 7) ∧ g2 101 (Int.toNat (g1 90 22)) = g1 90 10 ∧ g2 108 (Int.toNat (g1 90 22)) = -1 ∧ (∀ a b : Nat, ¬ (a = 90 ∧ (b = 13 ∨ (16 ≤ b ∧ b ≤ 19) ∨ b = 22)) → a ≠ 109 → ¬ ((a = 91 ∨ (101 ≤ a ∧ a ≤ 108)) ∧ b = (Int.toNat (g1 90 22))) → g2 a b = g1 a b)) : yR4 g2 := by
  have hJ := hQ.1.1
  have h4 := hQ.2
  have hz := hJ.1.1.sz
  have hc := hJ.2.2.1.1
  have s1 : yR4 g1 := by
    by_cases h : g 1 1 = 40
    · rw [(a0 h).2]
      exact h4
    · by_cases hF : yPf (ySc g) (g 2 2) = -1
      · obtain ⟨p1, p2, p3, p4, p5, p6, p7, p8, p9⟩ := a2 (by omega) hF
        exact h4.mono' (fun a b hab => p8 a b (by unfold yR4s at hab; omega) (by unfold yR4s at hab; omega) (by unfold yR4s at hab; omega) (by unfold yR4s at hab; omega))
      · obtain ⟨p1, p2, p3, p4⟩ := a1 (by omega) hF
        exact h4.mono' (fun a b hab => p4 a b (by unfold yR4s at hab; omega) (by unfold yR4s at hab; omega))
  by_cases h : g1 90 22 = 40
  · rw [(b0 h).2]
    exact s1
  · by_cases hF : yPf (yTm g1) (g1 90 13) = -1
    · have q := (b2 h hF).2.2.2.2.2.2.2
      exact s1.mono' (fun x y hab => q x y (by unfold yR4s at hab; omega) (by unfold yR4s at hab; omega) (by unfold yR4s at hab; omega))
    · have q := (b1 h hF).2.2.2
      exact s1.mono' (fun x y hab => q x y (by unfold yR4s at hab; omega) (by unfold yR4s at hab; omega))
theorem yk4_CS {g g1 g2 : yM} {p i n r1 r2 : Int} (hQ : yQnv g)  (a0 : ¬ (0 ≤ p ∧ p < 6 ∧ 1 ≤ n ∧ n ≤ 12) → r1 = -1 ∧ g1 = g) (a1 : (0 ≤ p ∧ p < 6 ∧ 1 ≤ n ∧ n ≤ 12) → g 40 (Int.toNat p) = -1 → r1 = 0 ∧ g1 = g) (a2 : (0 ≤ p ∧ p < 6 ∧ 1 ≤ n ∧ n ≤ 12) → g 40 (Int.toNat p) ≠ -1 → g 40 (Int.toNat p) ≠ 1 → r1 = -12 ∧ g1 = g) (a3 : (0 ≤ p ∧ p < 6 ∧ 1 ≤ n ∧ n ≤ 12) → g 40 (Int.toNat p) = 1 → ∃ c : Nat, r1 = (c : Int) ∧ (c : Int) ≤ n ∧ g 1 1 + c ≤ 40 ∧ ((c : Int) = n ∨ g 1 1 + c = 40 ∨ ¬ yfV g p (i + 5 * c)) ∧ yCr g p i c g1) (b0 : ¬ (0 ≤ p ∧ p < 6 ∧ 1 ≤ n ∧ n ≤ 12) → r2 = -1 ∧ g2 = g1) (b1 : (0 ≤ p ∧ p < 6 ∧ 1 ≤ n ∧ n ≤ 12) → g1 121 (Int.toNat p) < 0 → r2 = 0 ∧ g2 = g1) (b2 : (0 ≤ p ∧ p < 6 ∧ 1 ≤ n ∧ n ≤ 12) → 0 ≤ g1 121 (Int.toNat p) → g1 121 (Int.toNat p) ≠ 21 → r2 = -12 ∧ g2 = g1) (b3 : (0 ≤ p ∧ p < 6 ∧ 1 ≤ n ∧ n ≤ 12) → g1 121 (Int.toNat p) = 21 → ∃ c : Nat, r2 = (c : Int) ∧ (c : Int) ≤ n ∧ g1 90 22 + c ≤ 40 ∧ ((c : Int) = n ∨ g1 90 22 + c = 40 ∨ ¬ yfVm g1 p (i + 5 * c)) ∧ yMr g1 p i c g2) : yR4 g2 := by
  have hJ := hQ.1.1
  have h4 := hQ.2
  have hz := hJ.1.1.sz
  have s1 : yR4 g1 := by
    by_cases ok : (0 ≤ p ∧ p < 6 ∧ 1 ≤ n ∧ n ≤ 12)
    · by_cases h1 : g 40 (Int.toNat p) = -1
      · rw [(a1 ok h1).2]
        exact h4
      · by_cases h2 : g 40 (Int.toNat p) = 1
        · obtain ⟨c, -, -, c3, -, t1, z1, N1, F1, S1⟩ := a3 ok h2
          exact h4.mono' (fun a b hab => F1 a b (by unfold yR4s at hab; omega) (by unfold yR4s at hab; omega) (by unfold yR4s at hab; omega))
        · rw [(a2 ok h1 h2).2]
          exact h4
    · rw [(a0 ok).2]
      exact h4
  by_cases ok : (0 ≤ p ∧ p < 6 ∧ 1 ≤ n ∧ n ≤ 12)
  · by_cases h1 : g1 121 (Int.toNat p) < 0
    · rw [(b1 ok h1).2]
      exact s1
    · by_cases h2 : g1 121 (Int.toNat p) = 21
      · obtain ⟨c, -, -, -, -, t2, z2, N2, F2⟩ := b3 ok h2
        exact s1.mono' (fun x y hab => F2 x y (by unfold yR4s at hab; omega) (by unfold yR4s at hab; omega) (by unfold yR4s at hab; omega))
      · rw [(b2 ok (by omega) h2).2]
        exact s1
  · rw [(b0 ok).2]
    exact s1
theorem yk4_RW_ {g g1 g2 : yM} {p s n r1 r2 : Int} (hQ : yQnv g) (a0 : (r1 = -1 ∧ ¬ (0 ≤ p ∧ p < 6 ∧ 0 ≤ s ∧ s < 5 ∧ n ≤ 60)) ∨ ((0 ≤ p ∧ p < 6 ∧ 0 ≤ s ∧ s < 5 ∧ n ≤ 60) ∧ ((r1 = -14 ∧ n < 0) ∨ (r1 = 1 ∧ 0 ≤ n)))) (a1 : r1 ≠ 1 → g1 = g) (a2 : r1 = 1 → g1 = yzr (yset (yset g 40 (Int.toNat p) s) 42 (Int.toNat p) n) (44 + Int.toNat p) 0 60) (b0 : (r2 = -1 ∧ ¬ (0 ≤ p ∧ p < 6 ∧ 0 ≤ s ∧ s < 5 ∧ n ≤ 60)) ∨ ((0 ≤ p ∧ p < 6 ∧ 0 ≤ s ∧ s < 5 ∧ n ≤ 60) ∧ ((r2 = -14 ∧ n < 0) ∨ (r2 = 1 ∧ 0 ≤ n)))) (b1 : r2 ≠ 1 → g2 = g1) (b2 : r2 = 1 → g2 = yzr (yset (yset g1 121 (Int.toNat p) (20 + s)) 122 (Int.toNat p) n) 123 (Int.toNat (60 * p)) 60) : yR4 g2 := by
  have hJ := hQ.1.1
  have h4 := hQ.2
  have hz := hJ.1.1.sz
  refine h4.mono' (fun x y hab => ?_)
  unfold yR4s at hab
  have e1 : g1 x y = g x y := by
    by_cases h : r1 = 1
    · rw [a2 h, yzr_nc (by omega), yset_nc (by omega), yset_nc (by omega)]
    · rw [a1 h]
  rw [← e1]
  by_cases h : r2 = 1
  · rw [b2 h, yzr_nc (by omega), yset_nc (by omega), yset_nc (by omega)]
  · rw [b1 h]
theorem yk4_KP {g g1 g2 : yM} {p w r1 r2 : Int} (hQ : yQnv g) (a0 : (r1 = -1 ∧ ¬ (0 ≤ p ∧ p < 6 ∧ (w = -1 ∨ (0 ≤ w ∧ w < g 6 8)))) ∨ (r1 = 1 ∧ 0 ≤ p ∧ p < 6 ∧ (w = -1 ∨ (0 ≤ w ∧ w < g 6 8)))) (a1 : r1 ≠ 1 → g1 = g) (a2 : r1 = 1 → w = -1 → g1 = yset g 40 (Int.toNat p) (-1)) (a3 : r1 = 1 → w ≠ -1 → g1 = yset (yset g 40 (Int.toNat p) (-2)) 41 (Int.toNat p) w) (b0 : (r2 = -1 ∧ ¬ (0 ≤ p ∧ p < 6 ∧ (w = -1 ∨ (0 ≤ w ∧ w < g1 90 38)))) ∨ (r2 = 1 ∧ 0 ≤ p ∧ p < 6 ∧ (w = -1 ∨ (0 ≤ w ∧ w < g1 90 38)))) (b1 : r2 ≠ 1 → g2 = g1) (b2 : r2 = 1 → g2 = yset (yset g1 121 (Int.toNat p) w) 122 (Int.toNat p) 0) : yR4 g2 := by
  have hJ := hQ.1.1
  have h4 := hQ.2
  have hz := hJ.1.1.sz
  refine h4.mono' (fun x y hab => ?_)
  unfold yR4s at hab
  have e1 : g1 x y = g x y := by
    by_cases h : r1 = 1
    · by_cases hw : w = -1
      · rw [a2 h hw, yset_nc (by omega)]
      · rw [a3 h hw, yset_nc (by omega), yset_nc (by omega)]
    · rw [a1 h]
  rw [← e1]
  by_cases h : r2 = 1
  · rw [b2 h, yset_nc (by omega), yset_nc (by omega)]
  · rw [b1 h]
theorem yk4_PT {g g1 g2 : yM} {p i v r1 r2 : Int} (hQ : yQnv g) (a0 : ∃ r0 : Int, ((r0 = -1 ∧ ¬ (0 ≤ p ∧ p < 6)) ∨ ((0 ≤ p ∧ p < 6) ∧ ((r0 = -11 ∧ g 40 (Int.toNat p) = -1) ∨ (g 40 (Int.toNat p) ≠ -1 ∧ ((r0 = -12 ∧ g 40 (Int.toNat p) = -2) ∨ (g 40 (Int.toNat p) ≠ -2 ∧ ((r0 = -13 ∧ (i < 0 ∨ g 42 (Int.toNat p) ≤ i)) ∨ (r0 = 0 ∧ 0 ≤ i ∧ i < g 42 (Int.toNat p))))))))) ∧ (r0 = 0 → r1 = 1 ∧ g1 = yset g (44 + Int.toNat p) (Int.toNat i) (ynar (g 40 (Int.toNat p)) v)) ∧ (r0 ≠ 0 → r1 = r0 ∧ g1 = g)) (b0 : ∃ r0 : Int, ((r0 = -1 ∧ ¬ (0 ≤ p ∧ p < 6)) ∨ ((0 ≤ p ∧ p < 6) ∧ ((r0 = -11 ∧ g1 121 (Int.toNat p) < 0) ∨ (0 ≤ g1 121 (Int.toNat p) ∧ ((r0 = -12 ∧ g1 121 (Int.toNat p) < 20) ∨ (20 ≤ g1 121 (Int.toNat p) ∧ ((r0 = -13 ∧ (i < 0 ∨ g1 122 (Int.toNat p) ≤ i)) ∨ (r0 = 0 ∧ 0 ≤ i ∧ i < g1 122 (Int.toNat p))))))))) ∧ (r0 = 0 → r2 = 1 ∧ g2 = yset g1 123 (Int.toNat (60 * p + i)) (ynar (g1 121 (Int.toNat p) - 20) v)) ∧ (r0 ≠ 0 → r2 = r0 ∧ g2 = g1)) : yR4 g2 := by
  have hJ := hQ.1.1
  have h4 := hQ.2
  have hz := hJ.1.1.sz
  refine h4.mono' (fun x y hab => ?_)
  unfold yR4s at hab
  have e1 : g1 x y = g x y := by
    obtain ⟨r0, c0, c1, c2⟩ := a0
    by_cases h : r0 = 0
    · rw [(c1 h).2, yset_nc (by omega)]
    · rw [(c2 h).2]
  rw [← e1]
  obtain ⟨r0, c0, c1, c2⟩ := b0
  by_cases h : r0 = 0
  · rw [(c1 h).2, yset_nc (by omega)]
  · rw [(c2 h).2]
theorem yk4_SF {g g1 g2 : yM} {p i q j n r1 r2 : Int} (hQ : yQnv g) (a0 : ∃ r0 : Int, ((r0 = -1 ∧ ¬ (0 ≤ p ∧ p < 6 ∧ 0 ≤ q ∧ q < 6)) ∨ ((0 ≤ p ∧ p < 6 ∧ 0 ≤ q ∧ q < 6) ∧ ((r0 = -11 ∧ (g 40 (Int.toNat p) = -1 ∨ g 40 (Int.toNat q) = -1)) ∨ (g 40 (Int.toNat p) ≠ -1 ∧ g 40 (Int.toNat q) ≠ -1 ∧ ((r0 = -12 ∧ (g 40 (Int.toNat p) = -2 ∨ g 40 (Int.toNat p) ≠ g 40 (Int.toNat q))) ∨ (r0 = 0 ∧ g 40 (Int.toNat p) ≠ -2 ∧ g 40 (Int.toNat p) = g 40 (Int.toNat q))))))) ∧ (r0 ≠ 0 → r1 = r0 ∧ g1 = g) ∧ (r0 = 0 → ¬ (0 ≤ n ∧ 0 ≤ i ∧ 0 ≤ j ∧ i + n ≤ g 42 (Int.toNat p) ∧ j + n ≤ g 42 (Int.toNat q)) → r1 = -13 ∧ g1 = g) ∧ (r0 = 0 → (0 ≤ n ∧ 0 ≤ i ∧ 0 ≤ j ∧ i + n ≤ g 42 (Int.toNat p) ∧ j + n ≤ g 42 (Int.toNat q)) → r1 = n ∧ g1 = ycpy g (44 + Int.toNat q) (44 + Int.toNat p) (Int.toNat i) (Int.toNat j) (Int.toNat n))) (b0 : ∃ r0 : Int, ((r0 = -1 ∧ ¬ (0 ≤ p ∧ p < 6 ∧ 0 ≤ q ∧ q < 6)) ∨ ((0 ≤ p ∧ p < 6 ∧ 0 ≤ q ∧ q < 6) ∧ ((r0 = -11 ∧ (g1 121 (Int.toNat p) < 0 ∨ g1 121 (Int.toNat q) < 0)) ∨ (0 ≤ g1 121 (Int.toNat p) ∧ 0 ≤ g1 121 (Int.toNat q) ∧ ((r0 = -12 ∧ (g1 121 (Int.toNat p) < 20 ∨ g1 121 (Int.toNat p) ≠ g1 121 (Int.toNat q))) ∨ (20 ≤ g1 121 (Int.toNat p) ∧ g1 121 (Int.toNat p) = g1 121 (Int.toNat q) ∧ ((r0 = -13 ∧ ¬ (0 ≤ n ∧ 0 ≤ i ∧ 0 ≤ j ∧ i + n ≤ g1 122 (Int.toNat p) ∧ j + n ≤ g1 122 (Int.toNat q))) ∨ (r0 = 0 ∧ (0 ≤ n ∧ 0 ≤ i ∧ 0 ≤ j ∧ i + n ≤ g1 122 (Int.toNat p) ∧ j + n ≤ g1 122 (Int.toNat q)))))))))) ∧ (r0 ≠ 0 → r2 = r0 ∧ g2 = g1) ∧ (r0 = 0 → r2 = n ∧ g2 = ycpy (ycpy g1 124 123 (Int.toNat (60 * p + i)) 0 (Int.toNat n)) 123 124 0 (Int.toNat (60 * q + j)) (Int.toNat n))) : yR4 g2 := by
  have hJ := hQ.1.1
  have h4 := hQ.2
  have hz := hJ.1.1.sz
  refine h4.mono' (fun x y hab => ?_)
  unfold yR4s at hab
  have e1 : g1 x y = g x y := by
    obtain ⟨r0, c0, c1, c2, c3⟩ := a0
    by_cases h : r0 = 0
    · by_cases hr : (0 ≤ n ∧ 0 ≤ i ∧ 0 ≤ j ∧ i + n ≤ g 42 (Int.toNat p) ∧ j + n ≤ g 42 (Int.toNat q))
      · rw [(c3 h hr).2, ycpy_nc (by omega)]
      · rw [(c2 h hr).2]
    · rw [(c1 h).2]
  rw [← e1]
  obtain ⟨r0, c0, c1, c2⟩ := b0
  by_cases h : r0 = 0
  · rw [(c2 h).2, ycpy_nc (by omega), ycpy_nc (by omega)]
  · rw [(c1 h).2]
theorem yk4_RL {g g1 g2 : yM} {c a w r1 r2 : Int} (hQ : yQnv g) (a0 : (r1 = -1 ∧ ¬ (0 ≤ c ∧ c < 8 ∧ 0 ≤ a ∧ a < 10000 ∧ 0 ≤ w ∧ w < 100)) ∨ ((0 ≤ c ∧ c < 8 ∧ 0 ≤ a ∧ a < 10000 ∧ 0 ≤ w ∧ w < 100) ∧ ((r1 = -3 ∧ g 6 8 = 20) ∨ (r1 = g 6 8 ∧ g 6 8 < 20)))) (a1 : r1 < 0 → g1 = g) (a2 : 0 ≤ r1 → g1 = yset (yset (yset (yset (yset g 30 (Int.toNat (g 6 8)) c) 27 (Int.toNat (g 6 8)) (yb (fun x y => x / y) a 100)) 28 (Int.toNat (g 6 8)) (yb (fun x y => x - x / y * y) a 100)) 29 (Int.toNat (g 6 8)) w) 6 8 (g 6 8 + 1)) (b0 : (r2 = -1 ∧ ¬ (0 ≤ c ∧ c < 8 ∧ 0 ≤ a ∧ a < 10000 ∧ 0 ≤ w ∧ w < 100)) ∨ ((0 ≤ c ∧ c < 8 ∧ 0 ≤ a ∧ a < 10000 ∧ 0 ≤ w ∧ w < 100) ∧ ((r2 = -3 ∧ g1 90 38 = 20) ∨ (r2 = g1 90 38 ∧ g1 90 38 < 20)))) (b1 : r2 < 0 → g2 = g1) (b2 : 0 ≤ r2 → g2 = yset (yset (yset (yset (yset g1 114 (Int.toNat (g1 90 38)) c) 115 (Int.toNat (g1 90 38)) (yb (fun x y => x / y) a 100)) 116 (Int.toNat (g1 90 38)) (yb (fun x y => x - x / y * y) a 100)) 117 (Int.toNat (g1 90 38)) w) 90 38 (g1 90 38 + 1)) : yR4 g2 := by
  have hJ := hQ.1.1
  have h4 := hQ.2
  have hz := hJ.1.1.sz
  have al := (yj_RL hJ a0 a1 a2 b0 b1 b2).2
  have e38 := hJ.1.2.1.2.2
  by_cases h : r1 < 0
  · rw [b1 (by omega), a1 h]
    exact h4
  · have e1 := a2 (by omega)
    have f38 : g1 90 38 = g 90 38 := by rw [e1]; simp only [yset_nc, ne_eq, Nat.reduceEqDiff, not_false_eq_true]
    have e2 := b2 (by omega)
    rw [f38, e38] at e2
    have z0 := hJ.1.2.1
    have fr : ∀ a b : Nat, a ≠ 30 → a ≠ 27 → a ≠ 28 → a ≠ 29 → ¬ (a = 6 ∧ b = 8) → a ≠ 114 → a ≠ 115 → a ≠ 116 → a ≠ 117 → ¬ (a = 90 ∧ b = 38) → g2 a b = g a b := fun a b c1 c2 c3 c4 c5 c6 c7 c8 c9 c10 => by
      rw [e2, yset_ne c10, yset_nc c9, yset_nc c8, yset_nc c7, yset_nc c6, e1, yset_ne c5, yset_nc c4, yset_nc c3, yset_nc c2, yset_nc c1]
    refine ⟨fun i hi => ?_, h4.2.mono' (fun a b hab => fr a b (by omega) (by omega) (by omega) (by omega) (by omega) (by omega) (by omega) (by omega) (by omega) (by omega))⟩
    have s8 : g2 6 8 = g 6 8 + 1 := by
      rw [e2, e1]
      simp only [yset_nc, ne_eq, Nat.reduceEqDiff, not_false_eq_true, yset_eq]
    rw [s8] at hi
    by_cases ei : i = Int.toNat (g 6 8)
    · rw [ei, e2, e1]
      simp only [yset_nc, ne_eq, Nat.reduceEqDiff, not_false_eq_true, yset_eq]
      exact ⟨trivial, trivial, trivial, by omega, by omega⟩
    · have old := h4.1 i (by omega)
      rw [e2, e1]
      simp only [yset_nc, yset_nj, ei, ne_eq, Nat.reduceEqDiff, not_false_eq_true]
      exact old
theorem yks_TF {g g1 g2 : yM} {r1 r2 : Int} (hK : yKnv g) (ht : yTy zpZ g2) (a0 : r1 = (if yTxF (yTs g) (g 2 2) = -1 then 1 else yw (-100 - yTxF (yTs g) (g 2 2)))) (a1 : ∃ m : yM, yTy zpZ m ∧ yXtf g m ∧ yTS g m (yTxF (yTs g) (g 2 2)) ∧ g1 = yset m 2 2 0) (b0 : r2 = (if yTxF (yTz g1) (g1 90 13) = -1 then 1 else yw (-100 - yTxF (yTz g1) (g1 90 13)))) (b1 : yTy zpZ g2) (b2 : g2 90 13 = 0) (b3 : yUn yTXs g1 g2) (b4 : (yTxF (yTz g1) (g1 90 13) = -1 → g2 90 15 = g1 90 13 ∧ ∀ j : Nat, (j : Int) < g1 90 13 → g2 99 j = g1 98 j) ∧ (yTxF (yTz g1) (g1 90 13) ≠ -1 → g2 90 15 = g1 90 15 ∧ ∀ j : Nat, g2 99 j = g1 99 j)) : yStV g2 := by
  obtain ⟨m, h1, h2, h4, h3⟩ := a1
  have u1 : yUn (yTFs ++ [(2, 2, 1, 2)]) g g1 := by
    rw [h3]
    exact yUn.st (yUn.sub h2.un (fun w hw => List.mem_append_left _ hw)) ⟨(2, 2, 1, 2), List.mem_append_right _ List.mem_cons_self, by decide, by decide, Or.inr rfl⟩
  have hz := hK.1.1.1.sz.2
  have e11 : g1 1 1 = g 1 1 := (u1.eq (rs := [(1, 1, 1, 1)]) (by decide +kernel)).one (by decide)
  exact (hK.2.mono hz (u1.eq (by decide +kernel))).mono (by omega) (b3.eq (by decide +kernel))
theorem yk4_TF {g g1 g2 : yM} {r1 r2 : Int} (hQ : yQnv g) (a0 : r1 = (if yTxF (yTs g) (g 2 2) = -1 then 1 else yw (-100 - yTxF (yTs g) (g 2 2)))) (a1 : ∃ m : yM, yTy zpZ m ∧ yXtf g m ∧ yTS g m (yTxF (yTs g) (g 2 2)) ∧ g1 = yset m 2 2 0) (b0 : r2 = (if yTxF (yTz g1) (g1 90 13) = -1 then 1 else yw (-100 - yTxF (yTz g1) (g1 90 13)))) (b1 : yTy zpZ g2) (b2 : g2 90 13 = 0) (b3 : yUn yTXs g1 g2) (b4 : (yTxF (yTz g1) (g1 90 13) = -1 → g2 90 15 = g1 90 13 ∧ ∀ j : Nat, (j : Int) < g1 90 13 → g2 99 j = g1 98 j) ∧ (yTxF (yTz g1) (g1 90 13) ≠ -1 → g2 90 15 = g1 90 15 ∧ ∀ j : Nat, g2 99 j = g1 99 j)) : yR4 g2 := by
  have hJ := hQ.1.1
  obtain ⟨h4r, h4t⟩ := hQ.2
  obtain ⟨m, h1, h2, hS, h3⟩ := a1
  obtain ⟨q, hq, s66, sF, sT, sN⟩ := hS
  obtain ⟨p, hp, t5, t6, hT⟩ := h4t
  obtain ⟨hVt, -, -, -, -⟩ := hJ.2
  have v1 := hVt.1
  have v2 := hVt.2.1
  have v3 := hVt.2.2
  have f1 : ∀ a b : Nat, ¬ (a = 2 ∧ b = 2) → g1 a b = m a b := fun a b c => by rw [h3]; exact yset_ne c
  have u1 : yUn (yTFs ++ [(2, 2, 1, 2)]) g g1 := by
    rw [h3]
    exact yUn.st (yUn.sub h2.un (fun w hw => List.mem_append_left _ hw)) ⟨(2, 2, 1, 2), List.mem_append_right _ List.mem_cons_self, by decide, by decide, Or.inr rfl⟩
  have f13 : g1 90 13 = g 90 13 := (u1.eq (rs := [(90, 90, 1, 13)]) (by decide +kernel)).one (by decide)
  have f98 : ∀ j : Nat, g1 98 j = g 98 j := fun j => (u1.eq (rs := [(98, 98, 0, 0)]) (by decide +kernel)).all (List.mem_singleton.mpr rfl : ((98 : Int), (98 : Int), (0 : Nat), (0 : Nat)) ∈ [((98 : Int), (98 : Int), (0 : Nat), (0 : Nat))]) (by decide) (by decide) j
  have ef : yTz g1 = yTs g := funext fun p => by
    unfold yTz yTs
    rw [f13, f98, v1]
    by_cases c : 0 ≤ p ∧ p < g 2 2
    · rw [if_pos c, if_pos c]
      exact v3 _ (by omega)
    · rw [if_neg c, if_neg c]
  rw [ef, f13, v1] at b4
  have f2 : ∀ a b : Nat, a ≠ 90 → a ≠ 99 → g2 a b = g1 a b := fun a b c1 c2 => b3 a b (fun w hw hc => by
    have hw2 : w = (99, 99, 0, 0) ∨ (w.1 = 90 ∧ w.2.1 = 90) := by
      have key : ∀ w ∈ yTXs, w = (99, 99, 0, 0) ∨ (w.1 = 90 ∧ w.2.1 = 90) := by decide
      exact key w hw
    obtain ⟨c3, c4, -⟩ := hc
    rcases hw2 with e | ⟨e1, e2⟩
    · rw [e] at c3 c4
      have c3 : (99 : Int) ≤ a := c3
      have c4 : (a : Int) ≤ 99 := c4
      omega
    · omega)
  have g115 : ∀ a b : Nat, (a = 6 ∧ b = 8) ∨ (27 ≤ a ∧ a ≤ 29) ∨ (115 ≤ a ∧ a ≤ 117) → g2 a b = g a b := fun a b c => by
    rw [f2 a b (by omega) (by omega), f1 a b (by omega)]
    exact h2 a b (by omega) (by omega) (by omega) (by omega)
  refine ⟨fun i hi => ?_, ?_⟩
  · rw [g115 6 8 (by omega)] at hi
    rw [g115 115 i (by omega), g115 116 i (by omega), g115 117 i (by omega), g115 27 i (by omega), g115 28 i (by omega), g115 29 i (by omega)]
    exact h4r i hi
  · by_cases hF : yTxF (yTs g) (g 2 2) = -1
    · obtain ⟨n5, n6, n7⟩ := sT hF
      obtain ⟨c15, c99⟩ := b4.1 hF
      have eT : yTn g2 = yTs g := funext fun p => by
        unfold yTn yTs
        rw [c15]
        by_cases c : 0 ≤ p ∧ p < g 2 2
        · rw [if_pos c, if_pos c, c99 _ (by omega), f98]
          exact v3 _ (by omega)
        · rw [if_neg c, if_neg c]
      refine ⟨q, hq, by rw [f2 6 5 (by decide) (by decide), f1 6 5 (by decide), n5, s66], by rw [f2 6 6 (by decide) (by decide), f1 6 6 (by decide), n6]; omega, Or.inr ⟨by omega, by omega, by rw [eT, c15]; exact hF, ?_⟩⟩
      rw [eT]
      exact n7.of (by rw [f2 q 4 (by omega) (by omega), f1 q 4 (by omega)]) (fun j => by rw [f2 _ j (by omega) (by omega), f1 _ j (by omega)]) (fun j => by rw [f2 _ j (by omega) (by omega), f1 _ j (by omega)])
    · obtain ⟨n5, n6⟩ := sN hF
      obtain ⟨c15, c99⟩ := b4.2 hF
      have k15 : g2 90 15 = g 90 15 := by
        rw [c15, f1 90 15 (by omega)]
        exact h2 90 15 (by omega) (by omega) (by omega) (by omega)
      have k99 : ∀ j : Nat, g2 99 j = g 99 j := fun j => by
        rw [c99, f1 99 j (by omega)]
        exact h2 99 j (by omega) (by omega) (by omega) (by omega)
      have hpq : p ≠ q := by omega
      have kp : ∀ a b : Nat, (a = p ∧ b = 4) ∨ a = p + 21 ∨ a = p + 23 → g2 a b = g a b := fun a b c => by
        rw [f2 a b (by omega) (by omega), f1 a b (by omega)]
        exact sF a b (by omega) (by omega) (by omega) (by omega) (by omega)
      have eT : yTn g2 = yTn g := yTn_of k15 k99
      refine ⟨p, hp, by rw [f2 6 5 (by decide) (by decide), f1 6 5 (by decide), n5, t5], by rw [f2 6 6 (by decide) (by decide), f1 6 6 (by decide), n6, t6], ?_⟩
      rw [eT, k15, kp p 4 (by omega)]
      exact hT.imp id (fun ⟨x1, x2, x3, x4⟩ => ⟨x1, x2, x3, x4.of (kp p 4 (by omega)) (fun j => kp _ j (by omega)) (fun j => kp _ j (by omega))⟩)
