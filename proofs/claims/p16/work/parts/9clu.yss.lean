/-! THE STARTS KEPT SETTLED -/
def yStV (g : yM) : Prop := yStl g ∧ yVe g
def yRs (a b : Nat) : Prop := (a = 1 ∧ (b = 1 ∨ b = 7 ∨ b = 9)) ∨ (13 ≤ a ∧ a ≤ 17) ∨ ((50 ≤ a ∧ a ≤ 89) ∧ (b ≤ 4 ∨ (9 ≤ b ∧ b ≤ 11)))
def yrsS : zWr := [(1, 1, 1, 1), (1, 1, 1, 7), (1, 1, 1, 9), (13, 17, 0, 0), (50, 89, 1, 0), (50, 89, 1, 1), (50, 89, 1, 2), (50, 89, 1, 3), (50, 89, 1, 4), (50, 89, 1, 9), (50, 89, 1, 10), (50, 89, 1, 11)]
theorem yVe.keep {g m : yM} (h : yVe g) (e7 : m 1 7 = g 1 7) (e6 : ∀ j : Nat, m 16 j = g 16 j ∧ m 17 j = g 17 j) : yVe m := fun j hj => by
  rw [e7] at hj
  rw [(e6 j).1, (e6 j).2]
  exact h j hj
theorem yStV.mono' {g m : yM} (h : yStV g) (hz : g 1 1 ≤ 40) (e : ∀ a b : Nat, yRs a b → m a b = g a b) : yStV m :=
  ⟨h.1.keep hz (e 1 1 (by unfold yRs; omega)) (e 1 7 (by unfold yRs; omega)) (e 1 9 (by unfold yRs; omega)) (fun a b h1 h2 => e a b (by unfold yRs; omega)) (fun i b h1 h2 => e _ b (by unfold yRs; omega)), h.2.keep (e 1 7 (by unfold yRs; omega)) (fun j => ⟨e 16 j (by unfold yRs; omega), e 17 j (by unfold yRs; omega)⟩)⟩
theorem yRs_of {g m : yM} (e : yEq yrsS g m) : ∀ a b : Nat, yRs a b → m a b = g a b := fun a b h => by
  rcases h with ⟨rfl, rfl | rfl | rfl⟩ | h | ⟨h, h2⟩
  · exact e.one (by decide)
  · exact e.one (by decide)
  · exact e.one (by decide)
  · exact e.all (a := 13) (b := 17) (n := 0) (by decide) (by omega) (by omega) b
  · have hb : b = 0 ∨ b = 1 ∨ b = 2 ∨ b = 3 ∨ b = 4 ∨ b = 9 ∨ b = 10 ∨ b = 11 := by omega
    rcases hb with rfl | rfl | rfl | rfl | rfl | rfl | rfl | rfl
    all_goals exact e.fld (a := 50) (b := 89) (by decide) (by omega) (by omega)
theorem yStV.mono {g m : yM} (h : yStV g) (hz : g 1 1 ≤ 40) (e : yEq yrsS g m) : yStV m := h.mono' hz (yRs_of e)
theorem yStV.ref {g m : yM} (h : yStV g) (hz : m 1 1 ≤ 40) (e : ∀ a b : Nat, a < 90 → m a b = g a b) : yStV m := h.mono' (by have := e 1 1 (by decide); omega) (fun a b hab => e a b (by unfold yRs at hab; omega))
theorem yStV.bec {g1 g2 : yM} {w v : Int} {p : Prop} (h : yStV g1) (hz : g2 1 1 ≤ 40) (m2 : p → g2 = g1) (m3 : ¬ p → g2 = ybec g1 w v) : yStV g2 := by
  by_cases e : p
  · rw [m2 e]
    exact h
  · exact h.ref hz (fun a b hab => by rw [m3 e]; exact ybec_nc (by omega))
theorem yks_ch {g g1 : yM} {k o v r1 : Int} (hS : yStV g) (hk : yok g k o) (ha : r1 = ykv g k o ∧ (r1 = v → g1 = g) ∧ (r1 ≠ v → yTy zpZ g1 ∧ yWz (ymk g k o v) g1)) : yStV g1 := by
  by_cases e : r1 = v
  · rw [ha.2.1 e]
    exact hS
  · obtain ⟨t1, s1⟩ := ha.2.2 e
    have u := ymk_un hk s1
    exact ⟨s1.2, hS.2.keep ((u.eq (rs := [(1, 1, 1, 7)]) (by decide +kernel)).one (by decide)) (fun j => ⟨(u.eq (rs := [(16, 17, 0, 0)]) (by decide +kernel)).all (a := 16) (b := 17) (n := 0) (by decide) (by decide) (by decide) j, (u.eq (rs := [(16, 17, 0, 0)]) (by decide +kernel)).all (a := 16) (b := 17) (n := 0) (by decide) (by decide) (by decide) j⟩)⟩
/-- the relation with settled starts -/
def yKnv (g : yM) : Prop := yJnv g ∧ yStV g
theorem yks_MA {g g1 g2 : yM} {a b v r1 r2 : Int} (hK : yKnv g) (ht : yTy zpZ g2)  (a0 : ¬ (0 ≤ a ∧ a < 6 ∧ 0 ≤ b ∧ b ≤ 1 ∧ 1 ≤ v ∧ v ≤ 99 ∧ (b = 0 → v ≤ g 14 (Int.toNat a)) ∧ (b = 1 → g 13 (Int.toNat a) ≤ v)) → r1 = -1 ∧ g1 = g) (a1 : (0 ≤ a ∧ a < 6 ∧ 0 ≤ b ∧ b ≤ 1 ∧ 1 ≤ v ∧ v ≤ 99 ∧ (b = 0 → v ≤ g 14 (Int.toNat a)) ∧ (b = 1 → g 13 (Int.toNat a) ≤ v)) → b = 0 → r1 = ykv g 1 a ∧ (r1 = v → g1 = g) ∧ (r1 ≠ v → yTy zpZ g1 ∧ yWz (ymk g 1 a v) g1)) (a2 : (0 ≤ a ∧ a < 6 ∧ 0 ≤ b ∧ b ≤ 1 ∧ 1 ≤ v ∧ v ≤ 99 ∧ (b = 0 → v ≤ g 14 (Int.toNat a)) ∧ (b = 1 → g 13 (Int.toNat a) ≤ v)) → b = 1 → r1 = ykv g 2 a ∧ (r1 = v → g1 = g) ∧ (r1 ≠ v → yTy zpZ g1 ∧ yWz (ymk g 2 a v) g1)) (b0 : ¬ (0 ≤ a ∧ a < 6 ∧ 0 ≤ b ∧ b ≤ 1 ∧ 1 ≤ v ∧ v ≤ 99 ∧ (b = 0 → v ≤ g1 91 (Int.toNat (46 + a))) ∧ (b = 1 → g1 91 (Int.toNat (40 + a)) ≤ v)) → r2 = -1 ∧ g2 = g1) (b1 : (0 ≤ a ∧ a < 6 ∧ 0 ≤ b ∧ b ≤ 1 ∧ 1 ≤ v ∧ v ≤ 99 ∧ (b = 0 → v ≤ g1 91 (Int.toNat (46 + a))) ∧ (b = 1 → g1 91 (Int.toNat (40 + a)) ≤ v)) → b = 0 → r2 = g1 91 (Int.toNat (40 + a)) ∧ (g1 91 (Int.toNat (40 + a)) = v → g2 = g1) ∧ (g1 91 (Int.toNat (40 + a)) ≠ v → g2 = ybec g1 (40 + a) v)) (b2 : (0 ≤ a ∧ a < 6 ∧ 0 ≤ b ∧ b ≤ 1 ∧ 1 ≤ v ∧ v ≤ 99 ∧ (b = 0 → v ≤ g1 91 (Int.toNat (46 + a))) ∧ (b = 1 → g1 91 (Int.toNat (40 + a)) ≤ v)) → b = 1 → r2 = g1 91 (Int.toNat (46 + a)) ∧ (g1 91 (Int.toNat (46 + a)) = v → g2 = g1) ∧ (g1 91 (Int.toNat (46 + a)) ≠ v → g2 = ybec g1 (46 + a) v)) : yStV g2 := by
  have hJ := hK.1
  have hS := hK.2
  have hz := hJ.1.1.sz
  have hz1 := ht.sz
  have s1 : yStV g1 := by
    by_cases ok : (0 ≤ a ∧ a < 6 ∧ 0 ≤ b ∧ b ≤ 1 ∧ 1 ≤ v ∧ v ≤ 99 ∧ (b = 0 → v ≤ g 14 (Int.toNat a)) ∧ (b = 1 → g 13 (Int.toNat a) ≤ v))
    · by_cases hb : b = 0
      · exact yks_ch hS (Or.inr (Or.inl ⟨rfl, ok.1, ok.2.1⟩)) (a1 ok hb)
      · exact yks_ch hS (Or.inr (Or.inr (Or.inl ⟨rfl, ok.1, ok.2.1⟩))) (a2 ok (by omega))
    · rw [(a0 ok).2]
      exact hS
  by_cases ok : (0 ≤ a ∧ a < 6 ∧ 0 ≤ b ∧ b ≤ 1 ∧ 1 ≤ v ∧ v ≤ 99 ∧ (b = 0 → v ≤ g1 91 (Int.toNat (46 + a))) ∧ (b = 1 → g1 91 (Int.toNat (40 + a)) ≤ v))
  · by_cases hb : b = 0
    · exact s1.bec hz1.2 (b1 ok hb).2.1 (b1 ok hb).2.2
    · exact s1.bec hz1.2 (b2 ok (by omega)).2.1 (b2 ok (by omega)).2.2
  · rw [(b0 ok).2]
    exact s1
theorem yks_YA {g g1 g2 : yM} {a v r1 r2 : Int} (hK : yKnv g) (ht : yTy zpZ g2)  (a0 : ¬ (0 ≤ a ∧ a ≤ 2 ∧ 0 ≤ v ∧ v ≤ 30 ∧ (a = 0 → v ≤ 3) ∧ (a = 2 → v ≤ 1)) → r1 = -1 ∧ g1 = g) (a1 : (0 ≤ a ∧ a ≤ 2 ∧ 0 ≤ v ∧ v ≤ 30 ∧ (a = 0 → v ≤ 3) ∧ (a = 2 → v ≤ 1)) → a = 0 → r1 = g 1 8 ∧ g1 = yset g 1 8 v) (a2 : (0 ≤ a ∧ a ≤ 2 ∧ 0 ≤ v ∧ v ≤ 30 ∧ (a = 0 → v ≤ 3) ∧ (a = 2 → v ≤ 1)) → a = 2 → r1 = g 1 10 ∧ g1 = yset g 1 10 v) (a3 : (0 ≤ a ∧ a ≤ 2 ∧ 0 ≤ v ∧ v ≤ 30 ∧ (a = 0 → v ≤ 3) ∧ (a = 2 → v ≤ 1)) → a = 1 → r1 = ykv g 3 0 ∧ (r1 = v → g1 = g) ∧ (r1 ≠ v → yTy zpZ g1 ∧ yWz (ymk g 3 0 v) g1)) (b0 : ¬ (0 ≤ a ∧ a ≤ 2 ∧ 0 ≤ v ∧ v ≤ 30 ∧ (a = 0 → v ≤ 3) ∧ (a = 2 → v ≤ 1)) → r2 = -1 ∧ g2 = g1) (b1 : (0 ≤ a ∧ a ≤ 2 ∧ 0 ≤ v ∧ v ≤ 30 ∧ (a = 0 → v ≤ 3) ∧ (a = 2 → v ≤ 1)) → a = 0 → r2 = g1 90 10 ∧ g2 = yset g1 90 10 v) (b2 : (0 ≤ a ∧ a ≤ 2 ∧ 0 ≤ v ∧ v ≤ 30 ∧ (a = 0 → v ≤ 3) ∧ (a = 2 → v ≤ 1)) → a = 2 → r2 = g1 90 11 ∧ g2 = yset g1 90 11 v) (b3 : (0 ≤ a ∧ a ≤ 2 ∧ 0 ≤ v ∧ v ≤ 30 ∧ (a = 0 → v ≤ 3) ∧ (a = 2 → v ≤ 1)) → a = 1 → r2 = g1 91 52 ∧ (g1 91 52 = v → g2 = g1) ∧ (g1 91 52 ≠ v → g2 = ybec g1 52 v)) : yStV g2 := by
  have hJ := hK.1
  have hS := hK.2
  have hz := hJ.1.1.sz
  have hz1 := ht.sz
  by_cases ok : (0 ≤ a ∧ a ≤ 2 ∧ 0 ≤ v ∧ v ≤ 30 ∧ (a = 0 → v ≤ 3) ∧ (a = 2 → v ≤ 1))
  · by_cases h0 : a = 0
    · have s1 : yStV g1 := by
        rw [(a1 ok h0).2]
        exact hS.mono' hz.2 (fun x y hab => yset_ne (by unfold yRs at hab; omega))
      exact s1.ref hz1.2 (fun x y hab => by rw [(b1 ok h0).2]; exact yset_nc (by omega))
    · by_cases h2 : a = 2
      · have s1 : yStV g1 := by
          rw [(a2 ok h2).2]
          exact hS.mono' hz.2 (fun x y hab => yset_ne (by unfold yRs at hab; omega))
        exact s1.ref hz1.2 (fun x y hab => by rw [(b2 ok h2).2]; exact yset_nc (by omega))
      · have s1 : yStV g1 := yks_ch hS (Or.inr (Or.inr (Or.inr ⟨rfl, rfl⟩))) (a3 ok (by omega))
        exact s1.bec hz1.2 (b3 ok (by omega)).2.1 (b3 ok (by omega)).2.2
  · rw [(b0 ok).2, (a0 ok).2]
    exact hS
theorem yks_CA {g g1 g2 : yM} {w v r1 r2 : Int} (hK : yKnv g) (ht : yTy zpZ g2)  (a0 : ¬ (0 ≤ w ∧ w < g 1 1 ∧ 0 ≤ v ∧ v < g (50 + Int.toNat w) 2) → r1 = -1 ∧ g1 = g) (a1 : (0 ≤ w ∧ w < g 1 1 ∧ 0 ≤ v ∧ v < g (50 + Int.toNat w) 2) → r1 = ykv g 0 w ∧ (r1 = v → g1 = g) ∧ (r1 ≠ v → yTy zpZ g1 ∧ yWz (ymk g 0 w v) g1)) (b0 : ¬ (0 ≤ w ∧ w < g1 90 22 ∧ 0 ≤ v ∧ v < g1 102 (Int.toNat w)) → r2 = -1 ∧ g2 = g1) (b1 : (0 ≤ w ∧ w < g1 90 22 ∧ 0 ≤ v ∧ v < g1 102 (Int.toNat w)) → r2 = g1 91 (Int.toNat (w)) ∧ (g1 91 (Int.toNat (w)) = v → g2 = g1) ∧ (g1 91 (Int.toNat (w)) ≠ v → g2 = ybec g1 (w) v)) : yStV g2 := by
  have hJ := hK.1
  have hS := hK.2
  have hz := hJ.1.1.sz
  have hz1 := ht.sz
  have s1 : yStV g1 := by
    by_cases ok : (0 ≤ w ∧ w < g 1 1 ∧ 0 ≤ v ∧ v < g (50 + Int.toNat w) 2)
    · exact yks_ch hS (Or.inl ⟨rfl, ok.1, ok.2.1, by omega⟩) (a1 ok)
    · rw [(a0 ok).2]
      exact hS
  by_cases ok : (0 ≤ w ∧ w < g1 90 22 ∧ 0 ≤ v ∧ v < g1 102 (Int.toNat w))
  · exact s1.bec hz1.2 (b1 ok).2.1 (b1 ok).2.2
  · rw [(b0 ok).2]
    exact s1
theorem yks_UN {g g1 g2 : yM} {r1 r2 : Int} (hK : yKnv g) (ht : yTy zpZ g2)  (a0 : (r1 = -5 ∧ g 4 5 = 0) ∨ (r1 = g 4 5 - 1 ∧ 0 < g 4 5)) (a1 : g 4 5 = 0 → g1 = g) (a2 : 0 < g 4 5 → yTy zpZ g1 ∧ yWz (ysv (yset g 4 5 (g 4 5 - 1)) (g 19 (Int.toNat (g 4 5 - 1))) (g 20 (Int.toNat (g 4 5 - 1))) (g 21 (Int.toNat (g 4 5 - 1)))) g1) (b0 : (r2 = -5 ∧ g1 90 5 = 0) ∨ (r2 = g1 90 5 - 1 ∧ 0 < g1 90 5)) (b1 : g1 90 5 = 0 → g2 = g1) (b2 : 0 < g1 90 5 → g2 = yset (yset g1 90 5 (g1 90 5 - 1)) 91 (Int.toNat (g1 92 (Int.toNat (g1 90 5 - 1)))) (g1 93 (Int.toNat (g1 90 5 - 1)))) : yStV g2 := by
  have hJ := hK.1
  have hS := hK.2
  have hz := hJ.1.1.sz
  have hz1 := ht.sz
  obtain ⟨⟨d1, d2, d3, d4, d5⟩, hE⟩ := hJ.2.2.2.2.1
  by_cases h0 : g 4 5 = 0
  · have e := a1 h0
    subst e
    rw [b1 (by omega)]
    exact hS
  · obtain ⟨k1, k2, k3, k4, k5, k6⟩ := hE (Int.toNat (g 4 5 - 1)) (by omega)
    obtain ⟨t1, s1⟩ := a2 (by omega)
    have kM : yok (yset g 4 5 (g 4 5 - 1)) (g 19 (Int.toNat (g 4 5 - 1))) (g 20 (Int.toNat (g 4 5 - 1))) := k1.mono (yset_nc (by decide))
    have f5 : g1 90 5 = g 4 5 := by rw [s1.1 90 5 (by omega), ysv_nc kM (by omega), yset_nc (by omega)]; exact d1
    have eM := b2 (by omega)
    have q1 : yStV g1 := ⟨s1.2, hS.2.keep (by rw [s1.1 1 7 (by omega), ysv_nc kM (by omega), yset_nc (by omega)]) (fun j => ⟨by rw [s1.1 16 j (by omega), ysv_nc kM (by omega), yset_nc (by omega)], by rw [s1.1 17 j (by omega), ysv_nc kM (by omega), yset_nc (by omega)]⟩)⟩
    exact q1.ref hz1.2 (fun a b hab => by rw [eM, yset_nc (by omega), yset_nc (by omega)])
theorem yks_RE {g g1 g2 : yM} {r1 r2 : Int} (hK : yKnv g) (ht : yTy zpZ g2)  (a0 : (r1 = -5 ∧ g 4 5 = g 4 6) ∨ (r1 = g 4 6 - (g 4 5 + 1) ∧ g 4 5 < g 4 6)) (a1 : g 4 5 = g 4 6 → g1 = g) (a2 : g 4 5 < g 4 6 → yTy zpZ g1 ∧ ∃ M, yWz (ysv g (g 19 (Int.toNat (g 4 5))) (g 20 (Int.toNat (g 4 5))) (g 22 (Int.toNat (g 4 5)))) M ∧ g1 = yset M 4 5 (g 4 5 + 1)) (b0 : (r2 = -5 ∧ g1 90 5 = g1 90 4) ∨ (r2 = g1 90 4 - (g1 90 5 + 1) ∧ g1 90 5 < g1 90 4)) (b1 : g1 90 5 = g1 90 4 → g2 = g1) (b2 : g1 90 5 < g1 90 4 → g2 = yset (yset g1 91 (Int.toNat (g1 92 (Int.toNat (g1 90 5)))) (g1 94 (Int.toNat (g1 90 5)))) 90 5 (g1 90 5 + 1)) : yStV g2 := by
  have hJ := hK.1
  have hS := hK.2
  have hz := hJ.1.1.sz
  have hz1 := ht.sz
  obtain ⟨⟨d1, d2, d3, d4, d5⟩, hE⟩ := hJ.2.2.2.2.1
  by_cases h0 : g 4 5 = g 4 6
  · have e := a1 h0
    subst e
    rw [b1 (by omega)]
    exact hS
  · obtain ⟨k1, k2, k3, k4, k5, k6⟩ := hE (Int.toNat (g 4 5)) (by omega)
    obtain ⟨t1, M, s1, e⟩ := a2 (by omega)
    have fr : ∀ x j : Nat, 90 ≤ x → g1 x j = g x j := fun x j hx => by
      rw [e, yset_nc (by omega), s1.1 x j (by omega), ysv_nc k1 (by omega)]
    have f5 : g1 90 5 = g 4 5 := by rw [fr 90 5 (by decide)]; exact d1
    have f4 : g1 90 4 = g 4 6 := by rw [fr 90 4 (by decide)]; exact d2
    have eM := b2 (by omega)
    have zM : M 1 1 ≤ 40 := by
      have h9 : g1 1 1 = M 1 1 := by rw [e]; exact yset_nc (by decide)
      have h8 : g2 1 1 = g1 1 1 := by rw [eM, yset_nc (by decide), yset_nc (by decide)]
      omega
    have qM : yStV M := ⟨s1.2, hS.2.keep (by rw [s1.1 1 7 (by omega), ysv_nc k1 (by omega)]) (fun j => ⟨by rw [s1.1 16 j (by omega), ysv_nc k1 (by omega)], by rw [s1.1 17 j (by omega), ysv_nc k1 (by omega)]⟩)⟩
    have q1 : yStV g1 := by
      rw [e]
      exact qM.mono' zM (fun a b hab => yset_nc (by unfold yRs at hab; omega))
    exact q1.ref hz1.2 (fun a b hab => by rw [eM, yset_nc (by omega), yset_nc (by omega)])
theorem yks_FE {g g1 g2 : yM} {n v r1 r2 : Int} (hK : yKnv g) (ht : yTy zpZ g2)  (a0 : (r1 = -1 ∧ ¬ (1 ≤ n ∧ n ≤ 4)) ∨ ((1 ≤ n ∧ n ≤ 4) ∧ ((r1 = -3 ∧ 60 < g 2 2 + n) ∨ (r1 = g 2 2 + n ∧ g 2 2 + n ≤ 60)))) (a1 : r1 < 0 → g1 = g) (a2 : 0 ≤ r1 → g1 = yfd 2 2 18 (ybc v) (Int.toNat n) g) (a3 : -2147483648 ≤ v ∧ v ≤ 2147483647) (b0 : (r2 = -1 ∧ ¬ (1 ≤ n ∧ n ≤ 4)) ∨ ((1 ≤ n ∧ n ≤ 4) ∧ ((r2 = -3 ∧ 60 < g1 90 13 + n) ∨ (r2 = g1 90 13 + n ∧ g1 90 13 + n ≤ 60)))) (b1 : r2 < 0 → g2 = g1) (b2 : 0 ≤ r2 → g2 = yfd 90 13 98 (ybm v) (Int.toNat n) g1) (b3 : -2147483648 ≤ v ∧ v ≤ 2147483647) : yStV g2 := by
  have hJ := hK.1
  have hS := hK.2
  have hz := hJ.1.1.sz
  have hz1 := ht.sz
  have s1 : yStV g1 := by
    by_cases h : r1 < 0
    · rw [a1 h]
      exact hS
    · rw [a2 (by omega)]
      exact hS.mono' hz.2 (fun x y hab => yfd_nc ⟨by unfold yRs at hab; omega, by unfold yRs at hab; omega⟩ _ _)
  by_cases h : r2 < 0
  · rw [b1 h]
    exact s1
  · exact s1.ref hz1.2 (fun x y hab => by rw [b2 (by omega)]; exact yfd_nc ⟨by omega, by omega⟩ _ _)
theorem yks_ST {g g1 g2 : yM} {w v r1 r2 : Int} (hK : yKnv g) (ht : yTy zpZ g2)  (a0 : (r1 = -1 ∧ ¬ (0 ≤ w ∧ w < g 1 1 ∧ -1 ≤ v ∧ v ≤ 719)) ∨ (r1 = 1 ∧ (0 ≤ w ∧ w < g 1 1 ∧ -1 ≤ v ∧ v ≤ 719))) (a1 : r1 ≠ 1 → g1 = g) (a2 : r1 = 1 → g1 = yset g (50 + Int.toNat w) 8 v) (b0 : (r2 = -1 ∧ ¬ (0 ≤ w ∧ w < g1 90 22 ∧ -1 ≤ v ∧ v ≤ 719)) ∨ (r2 = 1 ∧ (0 ≤ w ∧ w < g1 90 22 ∧ -1 ≤ v ∧ v ≤ 719))) (b1 : r2 ≠ 1 → g2 = g1) (b2 : r2 = 1 → g2 = yset g1 108 (Int.toNat w) v) : yStV g2 := by
  have hJ := hK.1
  have hS := hK.2
  have hz := hJ.1.1.sz
  have hz1 := ht.sz
  have s1 : yStV g1 := by
    by_cases h : r1 = 1
    · rw [a2 h]
      exact hS.mono' hz.2 (fun x y hab => yset_ne (by unfold yRs at hab; omega))
    · rw [a1 h]
      exact hS
  by_cases h : r2 = 1
  · exact s1.ref hz1.2 (fun x y hab => by rw [b2 h]; exact yset_nc (by omega))
  · rw [b1 h]
    exact s1
theorem yks_AW {g g1 g2 : yM} {d v r1 r2 : Int} (hK : yKnv g) (ht : yTy zpZ g2)  (a0 : ¬ (0 ≤ d ∧ d < 4 ∧ 0 ≤ v ∧ 0 ≤ (yb (fun x y => x - x / y * y) v 1000) ∧ (yb (fun x y => x - x / y * y) v 1000) < 720 ∧ 0 ≤ (yb (fun x y => x / y) v 1000) ∧ (yb (fun x y => x / y) v 1000) ≤ (yb (fun x y => x - x / y * y) v 1000)) → r1 = -1 ∧ g1 = g) (a1 : (0 ≤ d ∧ d < 4 ∧ 0 ≤ v ∧ 0 ≤ (yb (fun x y => x - x / y * y) v 1000) ∧ (yb (fun x y => x - x / y * y) v 1000) < 720 ∧ 0 ≤ (yb (fun x y => x / y) v 1000) ∧ (yb (fun x y => x / y) v 1000) ≤ (yb (fun x y => x - x / y * y) v 1000)) → g 1 7 = 12 → r1 = -3 ∧ g1 = g) (a2 : (0 ≤ d ∧ d < 4 ∧ 0 ≤ v ∧ 0 ≤ (yb (fun x y => x - x / y * y) v 1000) ∧ (yb (fun x y => x - x / y * y) v 1000) < 720 ∧ 0 ≤ (yb (fun x y => x / y) v 1000) ∧ (yb (fun x y => x / y) v 1000) ≤ (yb (fun x y => x - x / y * y) v 1000)) → g 1 7 < 12 → r1 = g 1 7 + 1 ∧ yTy zpZ g1 ∧ yWz (yaw 1 7 15 16 17 g d (yb (fun x y => x / y) v 1000) (yb (fun x y => x - x / y * y) v 1000)) g1) (b0 : ¬ (0 ≤ d ∧ d < 4 ∧ 0 ≤ v ∧ 0 ≤ (yb (fun x y => x - x / y * y) v 1000) ∧ (yb (fun x y => x - x / y * y) v 1000) < 720 ∧ 0 ≤ (yb (fun x y => x / y) v 1000) ∧ (yb (fun x y => x / y) v 1000) ≤ (yb (fun x y => x - x / y * y) v 1000)) → r2 = -1 ∧ g2 = g1) (b1 : (0 ≤ d ∧ d < 4 ∧ 0 ≤ v ∧ 0 ≤ (yb (fun x y => x - x / y * y) v 1000) ∧ (yb (fun x y => x - x / y * y) v 1000) < 720 ∧ 0 ≤ (yb (fun x y => x / y) v 1000) ∧ (yb (fun x y => x / y) v 1000) ≤ (yb (fun x y => x - x / y * y) v 1000)) → g1 90 6 = 12 → r2 = -3 ∧ g2 = g1) (b2 : (0 ≤ d ∧ d < 4 ∧ 0 ≤ v ∧ 0 ≤ (yb (fun x y => x - x / y * y) v 1000) ∧ (yb (fun x y => x - x / y * y) v 1000) < 720 ∧ 0 ≤ (yb (fun x y => x / y) v 1000) ∧ (yb (fun x y => x / y) v 1000) ≤ (yb (fun x y => x - x / y * y) v 1000)) → g1 90 6 < 12 → r2 = g1 90 6 + 1 ∧ g2 = yaw 90 6 95 96 97 g1 d (yb (fun x y => x / y) v 1000) (yb (fun x y => x - x / y * y) v 1000)) : yStV g2 := by
  have hJ := hK.1
  have hS := hK.2
  have hz := hJ.1.1.sz
  have hz1 := ht.sz
  have h7 := hJ.2.2.2.2.2.1
  by_cases ok : (0 ≤ d ∧ d < 4 ∧ 0 ≤ v ∧ 0 ≤ (yb (fun x y => x - x / y * y) v 1000) ∧ (yb (fun x y => x - x / y * y) v 1000) < 720 ∧ 0 ≤ (yb (fun x y => x / y) v 1000) ∧ (yb (fun x y => x / y) v 1000) ≤ (yb (fun x y => x - x / y * y) v 1000))
  · by_cases h : g 1 7 = 12
    · have e := (a1 ok h).2
      subst e
      rw [(b1 ok (by omega)).2]
      exact hS
    · obtain ⟨p1, p2, p3, p4⟩ := a2 ok (by omega)
      have f6 : g1 90 6 = g 1 7 := by rw [p3 90 6 (by omega), yaw_nc ⟨by decide, by decide, by decide, by decide⟩]; exact h7.1
      have s1 : yStV g1 := ⟨p4, fun j hj => by
        rw [p3 1 7 (by omega)] at hj
        have hj : (j : Int) < g 1 7 + 1 := by
          unfold yaw at hj
          rw [yset_eq] at hj
          exact hj
        rw [p3 16 j (by omega), p3 17 j (by omega)]
        unfold yaw
        by_cases hh : j = Int.toNat (g 1 7)
        · rw [hh]
          simp only [yset_nc, ne_eq, Nat.reduceEqDiff, not_false_eq_true, yset_eq]
          exact ok.2.2.2.2.2.2
        · simp only [yset_nj, hh, yset_nc, ne_eq, Nat.reduceEqDiff, not_false_eq_true]
          exact hS.2 j (by omega)⟩
      exact s1.ref hz1.2 (fun x y hab => by rw [(b2 ok (by omega)).2]; exact yaw_nc ⟨by omega, by omega, by omega, by omega⟩)
  · have e := (a0 ok).2
    subst e
    rw [(b0 ok).2]
    exact hS
theorem yks_CO {g g1 g2 : yM} {r1 r2 : Int} (hK : yKnv g) (ht : yTy zpZ g2)  (a0 : g 1 1 = 40 → r1 = -3 ∧ g1 = g) (a1 : g 1 1 < 40 → yPf (ySc g) (g 2 2) ≠ -1 → r1 = -100 - yPf (ySc g) (g 2 2) ∧ yTy zpZ g1 ∧ g1 2 2 = 0 ∧ (∀ a b : Nat, ¬ (a = 2 ∧ 1 ≤ b ∧ b ≤ 3) → ¬ (a = (50 + Int.toNat (g 1 1)) ∧ 1 ≤ b ∧ b ≤ 7) → g1 a b = g a b)) (a2 : g 1 1 < 40 → yPf (ySc g) (g 2 2) = -1 → r1 = g 1 1 ∧ yTy zpZ g1 ∧ g1 2 2 = 0 ∧ g1 1 1 = g 1 1 + 1 ∧ (∀ j : Nat, 1 ≤ j → j ≤ 7 → g1 (50 + Int.toNat (g 1 1)) j = yPv (ySc g) j) ∧ g1 (50 + Int.toNat (g 1 1)) 0 = g 1 8 ∧ g1 (50 + Int.toNat (g 1 1)) 8 = -1 ∧ (∀ a b : Nat, ¬ (a = 2 ∧ 1 ≤ b ∧ b ≤ 3) → a ≠ (50 + Int.toNat (g 1 1)) → ¬ (a = 1 ∧ b = 1) → ¬ ((50 ≤ a ∧ a ≤ 89) ∧ (9 ≤ b ∧ b ≤ 11)) → g1 a b = g a b) ∧ yStl g1) (b0 : g1 90 22 = 40 → r2 = -3 ∧ g2 = g1) (b1 : g1 90 22 ≠ 40 → yPf (yTm g1) (g1 90 13) ≠ -1 → r2 = -100 - yPf (yTm g1) (g1 90 13) ∧ yTy zpZ g2 ∧ g2 90 13 = 0 ∧ (∀ a b : Nat, ¬ (a = 90 ∧ (b = 13 ∨ (16 ≤ b ∧ b ≤ 19))) → a ≠ 109 → g2 a b = g1 a b)) (b2 : g1 90 22 ≠ 40 → yPf (yTm g1) (g1 90 13) = -1 → r2 = g1 90 22 ∧ yTy zpZ g2 ∧ g2 90 13 = 0 ∧ g2 90 22 = g1 90 22 + 1 ∧ (g2 91 (Int.toNat (g1 90 22)) = yPv (yTm g1) 1 ∧ g2 102 (Int.toNat (g1 90 22)) = yPv (yTm g1) 2 ∧ g2 103 (Int.toNat (g1 90 22)) = yPv (yTm g1) 3 ∧ g2 104 (Int.toNat (g1 90 22)) = yPv (yTm g1) 4 ∧ g2 105 (Int.toNat (g1 90 22)) = yPv (yTm g1) 5 ∧ g2 106 (Int.toNat (g1 90 22)) = yPv (yTm g1) 6 ∧ g2 107 (Int.toNat (g1 90 22)) = yPv (yTm g1) 7) ∧ g2 101 (Int.toNat (g1 90 22)) = g1 90 10 ∧ g2 108 (Int.toNat (g1 90 22)) = -1 ∧ (∀ a b : Nat, ¬ (a = 90 ∧ (b = 13 ∨ (16 ≤ b ∧ b ≤ 19) ∨ b = 22)) → a ≠ 109 → ¬ ((a = 91 ∨ (101 ≤ a ∧ a ≤ 108)) ∧ b = (Int.toNat (g1 90 22))) → g2 a b = g1 a b)) : yStV g2 := by
  have hJ := hK.1
  have hS := hK.2
  have hz := hJ.1.1.sz
  have hz1 := ht.sz
  obtain ⟨hsal, hsb⟩ := yj_tape hJ
  have hc := hJ.2.2.1.1
  have fr : ∀ x j : Nat, 90 ≤ x → g1 x j = g x j := fun x j hx => by
    by_cases h : g 1 1 = 40
    · rw [(a0 h).2]
    · by_cases hF : yPf (ySc g) (g 2 2) = -1
      · exact (a2 (by omega) hF).2.2.2.2.2.2.2.1 x j (by omega) (by omega) (by omega) (by omega)
      · exact (a1 (by omega) hF).2.2.2 x j (by omega) (by omega)
  have s1 : yStV g1 := by
    by_cases h : g 1 1 = 40
    · rw [(a0 h).2]
      exact hS
    · by_cases hF : yPf (ySc g) (g 2 2) = -1
      · obtain ⟨p1, p2, p3, p4, p5, p6, p7, p8, p9⟩ := a2 (by omega) hF
        exact ⟨p9, hS.2.keep (p8 1 7 (by omega) (by omega) (by omega) (by omega)) (fun j => ⟨p8 16 j (by omega) (by omega) (by omega) (by omega), p8 17 j (by omega) (by omega) (by omega) (by omega)⟩)⟩
      · obtain ⟨p1, p2, p3, p4⟩ := a1 (by omega) hF
        exact ⟨hS.1.keep hz.2 (p4 1 1 (by omega) (by omega)) (p4 1 7 (by omega) (by omega)) (p4 1 9 (by omega) (by omega)) (fun a b h1 h2 => p4 a b (by omega) (by omega)) (fun i b h1 h2 => p4 _ b (by omega) (by omega)), hS.2.keep (p4 1 7 (by omega) (by omega)) (fun j => ⟨p4 16 j (by omega) (by omega), p4 17 j (by omega) (by omega)⟩)⟩
  by_cases h : g1 90 22 = 40
  · rw [(b0 h).2]
    exact s1
  · by_cases hF : yPf (yTm g1) (g1 90 13) = -1
    · have q := (b2 h hF).2.2.2.2.2.2.2
      exact s1.ref hz1.2 (fun x y hab => q x y (by omega) (by omega) (by omega))
    · have q := (b1 h hF).2.2.2
      exact s1.ref hz1.2 (fun x y hab => q x y (by omega) (by omega))
theorem yks_CS {g g1 g2 : yM} {p i n r1 r2 : Int} (hK : yKnv g) (ht : yTy zpZ g2)  (a0 : ¬ (0 ≤ p ∧ p < 6 ∧ 1 ≤ n ∧ n ≤ 12) → r1 = -1 ∧ g1 = g) (a1 : (0 ≤ p ∧ p < 6 ∧ 1 ≤ n ∧ n ≤ 12) → g 40 (Int.toNat p) = -1 → r1 = 0 ∧ g1 = g) (a2 : (0 ≤ p ∧ p < 6 ∧ 1 ≤ n ∧ n ≤ 12) → g 40 (Int.toNat p) ≠ -1 → g 40 (Int.toNat p) ≠ 1 → r1 = -12 ∧ g1 = g) (a3 : (0 ≤ p ∧ p < 6 ∧ 1 ≤ n ∧ n ≤ 12) → g 40 (Int.toNat p) = 1 → ∃ c : Nat, r1 = (c : Int) ∧ (c : Int) ≤ n ∧ g 1 1 + c ≤ 40 ∧ ((c : Int) = n ∨ g 1 1 + c = 40 ∨ ¬ yfV g p (i + 5 * c)) ∧ yCr g p i c g1) (b0 : ¬ (0 ≤ p ∧ p < 6 ∧ 1 ≤ n ∧ n ≤ 12) → r2 = -1 ∧ g2 = g1) (b1 : (0 ≤ p ∧ p < 6 ∧ 1 ≤ n ∧ n ≤ 12) → g1 121 (Int.toNat p) < 0 → r2 = 0 ∧ g2 = g1) (b2 : (0 ≤ p ∧ p < 6 ∧ 1 ≤ n ∧ n ≤ 12) → 0 ≤ g1 121 (Int.toNat p) → g1 121 (Int.toNat p) ≠ 21 → r2 = -12 ∧ g2 = g1) (b3 : (0 ≤ p ∧ p < 6 ∧ 1 ≤ n ∧ n ≤ 12) → g1 121 (Int.toNat p) = 21 → ∃ c : Nat, r2 = (c : Int) ∧ (c : Int) ≤ n ∧ g1 90 22 + c ≤ 40 ∧ ((c : Int) = n ∨ g1 90 22 + c = 40 ∨ ¬ yfVm g1 p (i + 5 * c)) ∧ yMr g1 p i c g2) : yStV g2 := by
  have hJ := hK.1
  have hS := hK.2
  have hz := hJ.1.1.sz
  have hz1 := ht.sz
  have s1 : yStV g1 := by
    by_cases ok : (0 ≤ p ∧ p < 6 ∧ 1 ≤ n ∧ n ≤ 12)
    · by_cases h1 : g 40 (Int.toNat p) = -1
      · rw [(a1 ok h1).2]
        exact hS
      · by_cases h2 : g 40 (Int.toNat p) = 1
        · obtain ⟨c, -, -, -, -, t1, z1, N1, F1, S1⟩ := a3 ok h2
          exact ⟨S1 hS.1, hS.2.keep (F1 1 7 (by omega) (by omega) (by omega)) (fun j => ⟨F1 16 j (by omega) (by omega) (by omega), F1 17 j (by omega) (by omega) (by omega)⟩)⟩
        · rw [(a2 ok h1 h2).2]
          exact hS
    · rw [(a0 ok).2]
      exact hS
  by_cases ok : (0 ≤ p ∧ p < 6 ∧ 1 ≤ n ∧ n ≤ 12)
  · by_cases h1 : g1 121 (Int.toNat p) < 0
    · rw [(b1 ok h1).2]
      exact s1
    · by_cases h2 : g1 121 (Int.toNat p) = 21
      · obtain ⟨c, -, -, -, -, t2, z2, N2, F2⟩ := b3 ok h2
        exact s1.ref hz1.2 (fun x y hab => F2 x y (by omega) (by omega) (by omega))
      · rw [(b2 ok (by omega) h2).2]
        exact s1
  · rw [(b0 ok).2]
    exact s1
theorem yks_RW_ {g g1 g2 : yM} {p s n r1 r2 : Int} (hK : yKnv g) (ht : yTy zpZ g2) (a0 : (r1 = -1 ∧ ¬ (0 ≤ p ∧ p < 6 ∧ 0 ≤ s ∧ s < 5 ∧ n ≤ 60)) ∨ ((0 ≤ p ∧ p < 6 ∧ 0 ≤ s ∧ s < 5 ∧ n ≤ 60) ∧ ((r1 = -14 ∧ n < 0) ∨ (r1 = 1 ∧ 0 ≤ n)))) (a1 : r1 ≠ 1 → g1 = g) (a2 : r1 = 1 → g1 = yzr (yset (yset g 40 (Int.toNat p) s) 42 (Int.toNat p) n) (44 + Int.toNat p) 0 60) (b0 : (r2 = -1 ∧ ¬ (0 ≤ p ∧ p < 6 ∧ 0 ≤ s ∧ s < 5 ∧ n ≤ 60)) ∨ ((0 ≤ p ∧ p < 6 ∧ 0 ≤ s ∧ s < 5 ∧ n ≤ 60) ∧ ((r2 = -14 ∧ n < 0) ∨ (r2 = 1 ∧ 0 ≤ n)))) (b1 : r2 ≠ 1 → g2 = g1) (b2 : r2 = 1 → g2 = yzr (yset (yset g1 121 (Int.toNat p) (20 + s)) 122 (Int.toNat p) n) 123 (Int.toNat (60 * p)) 60) : yStV g2 := by
  have hJ := hK.1
  have hS := hK.2
  have hz := hJ.1.1.sz
  have hz1 := ht.sz
  refine hS.mono' hz.2 (fun x y hab => ?_)
  unfold yRs at hab
  have e1 : g1 x y = g x y := by
    by_cases h : r1 = 1
    · rw [a2 h, yzr_nc (by omega), yset_nc (by omega), yset_nc (by omega)]
    · rw [a1 h]
  rw [← e1]
  by_cases h : r2 = 1
  · rw [b2 h, yzr_nc (by omega), yset_nc (by omega), yset_nc (by omega)]
  · rw [b1 h]
theorem yks_KP {g g1 g2 : yM} {p w r1 r2 : Int} (hK : yKnv g) (ht : yTy zpZ g2) (a0 : (r1 = -1 ∧ ¬ (0 ≤ p ∧ p < 6 ∧ (w = -1 ∨ (0 ≤ w ∧ w < g 6 8)))) ∨ (r1 = 1 ∧ 0 ≤ p ∧ p < 6 ∧ (w = -1 ∨ (0 ≤ w ∧ w < g 6 8)))) (a1 : r1 ≠ 1 → g1 = g) (a2 : r1 = 1 → w = -1 → g1 = yset g 40 (Int.toNat p) (-1)) (a3 : r1 = 1 → w ≠ -1 → g1 = yset (yset g 40 (Int.toNat p) (-2)) 41 (Int.toNat p) w) (b0 : (r2 = -1 ∧ ¬ (0 ≤ p ∧ p < 6 ∧ (w = -1 ∨ (0 ≤ w ∧ w < g1 90 38)))) ∨ (r2 = 1 ∧ 0 ≤ p ∧ p < 6 ∧ (w = -1 ∨ (0 ≤ w ∧ w < g1 90 38)))) (b1 : r2 ≠ 1 → g2 = g1) (b2 : r2 = 1 → g2 = yset (yset g1 121 (Int.toNat p) w) 122 (Int.toNat p) 0) : yStV g2 := by
  have hJ := hK.1
  have hS := hK.2
  have hz := hJ.1.1.sz
  have hz1 := ht.sz
  refine hS.mono' hz.2 (fun x y hab => ?_)
  unfold yRs at hab
  have e1 : g1 x y = g x y := by
    by_cases h : r1 = 1
    · by_cases hw : w = -1
      · rw [a2 h hw, yset_nc (by omega)]
      · rw [a3 h hw, yset_nc (by omega), yset_nc (by omega)]
    · rw [a1 h]
  rw [← e1]
  by_cases h : r2 = 1
  · rw [b2 h, yset_nc (by omega), yset_nc (by omega)]
  · rw [b1 h]
theorem yks_PT {g g1 g2 : yM} {p i v r1 r2 : Int} (hK : yKnv g) (ht : yTy zpZ g2) (a0 : ∃ r0 : Int, ((r0 = -1 ∧ ¬ (0 ≤ p ∧ p < 6)) ∨ ((0 ≤ p ∧ p < 6) ∧ ((r0 = -11 ∧ g 40 (Int.toNat p) = -1) ∨ (g 40 (Int.toNat p) ≠ -1 ∧ ((r0 = -12 ∧ g 40 (Int.toNat p) = -2) ∨ (g 40 (Int.toNat p) ≠ -2 ∧ ((r0 = -13 ∧ (i < 0 ∨ g 42 (Int.toNat p) ≤ i)) ∨ (r0 = 0 ∧ 0 ≤ i ∧ i < g 42 (Int.toNat p))))))))) ∧ (r0 = 0 → r1 = 1 ∧ g1 = yset g (44 + Int.toNat p) (Int.toNat i) (ynar (g 40 (Int.toNat p)) v)) ∧ (r0 ≠ 0 → r1 = r0 ∧ g1 = g)) (b0 : ∃ r0 : Int, ((r0 = -1 ∧ ¬ (0 ≤ p ∧ p < 6)) ∨ ((0 ≤ p ∧ p < 6) ∧ ((r0 = -11 ∧ g1 121 (Int.toNat p) < 0) ∨ (0 ≤ g1 121 (Int.toNat p) ∧ ((r0 = -12 ∧ g1 121 (Int.toNat p) < 20) ∨ (20 ≤ g1 121 (Int.toNat p) ∧ ((r0 = -13 ∧ (i < 0 ∨ g1 122 (Int.toNat p) ≤ i)) ∨ (r0 = 0 ∧ 0 ≤ i ∧ i < g1 122 (Int.toNat p))))))))) ∧ (r0 = 0 → r2 = 1 ∧ g2 = yset g1 123 (Int.toNat (60 * p + i)) (ynar (g1 121 (Int.toNat p) - 20) v)) ∧ (r0 ≠ 0 → r2 = r0 ∧ g2 = g1)) : yStV g2 := by
  have hJ := hK.1
  have hS := hK.2
  have hz := hJ.1.1.sz
  have hz1 := ht.sz
  refine hS.mono' hz.2 (fun x y hab => ?_)
  unfold yRs at hab
  have e1 : g1 x y = g x y := by
    obtain ⟨r0, c0, c1, c2⟩ := a0
    by_cases h : r0 = 0
    · rw [(c1 h).2, yset_nc (by omega)]
    · rw [(c2 h).2]
  rw [← e1]
  obtain ⟨r0, c0, c1, c2⟩ := b0
  by_cases h : r0 = 0
  · rw [(c1 h).2, yset_nc (by omega)]
  · rw [(c2 h).2]
theorem yks_SF {g g1 g2 : yM} {p i q j n r1 r2 : Int} (hK : yKnv g) (ht : yTy zpZ g2) (a0 : ∃ r0 : Int, ((r0 = -1 ∧ ¬ (0 ≤ p ∧ p < 6 ∧ 0 ≤ q ∧ q < 6)) ∨ ((0 ≤ p ∧ p < 6 ∧ 0 ≤ q ∧ q < 6) ∧ ((r0 = -11 ∧ (g 40 (Int.toNat p) = -1 ∨ g 40 (Int.toNat q) = -1)) ∨ (g 40 (Int.toNat p) ≠ -1 ∧ g 40 (Int.toNat q) ≠ -1 ∧ ((r0 = -12 ∧ (g 40 (Int.toNat p) = -2 ∨ g 40 (Int.toNat p) ≠ g 40 (Int.toNat q))) ∨ (r0 = 0 ∧ g 40 (Int.toNat p) ≠ -2 ∧ g 40 (Int.toNat p) = g 40 (Int.toNat q))))))) ∧ (r0 ≠ 0 → r1 = r0 ∧ g1 = g) ∧ (r0 = 0 → ¬ (0 ≤ n ∧ 0 ≤ i ∧ 0 ≤ j ∧ i + n ≤ g 42 (Int.toNat p) ∧ j + n ≤ g 42 (Int.toNat q)) → r1 = -13 ∧ g1 = g) ∧ (r0 = 0 → (0 ≤ n ∧ 0 ≤ i ∧ 0 ≤ j ∧ i + n ≤ g 42 (Int.toNat p) ∧ j + n ≤ g 42 (Int.toNat q)) → r1 = n ∧ g1 = ycpy g (44 + Int.toNat q) (44 + Int.toNat p) (Int.toNat i) (Int.toNat j) (Int.toNat n))) (b0 : ∃ r0 : Int, ((r0 = -1 ∧ ¬ (0 ≤ p ∧ p < 6 ∧ 0 ≤ q ∧ q < 6)) ∨ ((0 ≤ p ∧ p < 6 ∧ 0 ≤ q ∧ q < 6) ∧ ((r0 = -11 ∧ (g1 121 (Int.toNat p) < 0 ∨ g1 121 (Int.toNat q) < 0)) ∨ (0 ≤ g1 121 (Int.toNat p) ∧ 0 ≤ g1 121 (Int.toNat q) ∧ ((r0 = -12 ∧ (g1 121 (Int.toNat p) < 20 ∨ g1 121 (Int.toNat p) ≠ g1 121 (Int.toNat q))) ∨ (20 ≤ g1 121 (Int.toNat p) ∧ g1 121 (Int.toNat p) = g1 121 (Int.toNat q) ∧ ((r0 = -13 ∧ ¬ (0 ≤ n ∧ 0 ≤ i ∧ 0 ≤ j ∧ i + n ≤ g1 122 (Int.toNat p) ∧ j + n ≤ g1 122 (Int.toNat q))) ∨ (r0 = 0 ∧ (0 ≤ n ∧ 0 ≤ i ∧ 0 ≤ j ∧ i + n ≤ g1 122 (Int.toNat p) ∧ j + n ≤ g1 122 (Int.toNat q)))))))))) ∧ (r0 ≠ 0 → r2 = r0 ∧ g2 = g1) ∧ (r0 = 0 → r2 = n ∧ g2 = ycpy (ycpy g1 124 123 (Int.toNat (60 * p + i)) 0 (Int.toNat n)) 123 124 0 (Int.toNat (60 * q + j)) (Int.toNat n))) : yStV g2 := by
  have hJ := hK.1
  have hS := hK.2
  have hz := hJ.1.1.sz
  have hz1 := ht.sz
  refine hS.mono' hz.2 (fun x y hab => ?_)
  unfold yRs at hab
  have e1 : g1 x y = g x y := by
    obtain ⟨r0, c0, c1, c2, c3⟩ := a0
    by_cases h : r0 = 0
    · by_cases hr : (0 ≤ n ∧ 0 ≤ i ∧ 0 ≤ j ∧ i + n ≤ g 42 (Int.toNat p) ∧ j + n ≤ g 42 (Int.toNat q))
      · rw [(c3 h hr).2, ycpy_nc (by omega)]
      · rw [(c2 h hr).2]
    · rw [(c1 h).2]
  rw [← e1]
  obtain ⟨r0, c0, c1, c2⟩ := b0
  by_cases h : r0 = 0
  · rw [(c2 h).2, ycpy_nc (by omega), ycpy_nc (by omega)]
  · rw [(c1 h).2]
theorem yks_RL {g g1 g2 : yM} {c a w r1 r2 : Int} (hK : yKnv g) (ht : yTy zpZ g2) (a0 : (r1 = -1 ∧ ¬ (0 ≤ c ∧ c < 8 ∧ 0 ≤ a ∧ a < 10000 ∧ 0 ≤ w ∧ w < 100)) ∨ ((0 ≤ c ∧ c < 8 ∧ 0 ≤ a ∧ a < 10000 ∧ 0 ≤ w ∧ w < 100) ∧ ((r1 = -3 ∧ g 6 8 = 20) ∨ (r1 = g 6 8 ∧ g 6 8 < 20)))) (a1 : r1 < 0 → g1 = g) (a2 : 0 ≤ r1 → g1 = yset (yset (yset (yset (yset g 30 (Int.toNat (g 6 8)) c) 27 (Int.toNat (g 6 8)) (yb (fun x y => x / y) a 100)) 28 (Int.toNat (g 6 8)) (yb (fun x y => x - x / y * y) a 100)) 29 (Int.toNat (g 6 8)) w) 6 8 (g 6 8 + 1)) (b0 : (r2 = -1 ∧ ¬ (0 ≤ c ∧ c < 8 ∧ 0 ≤ a ∧ a < 10000 ∧ 0 ≤ w ∧ w < 100)) ∨ ((0 ≤ c ∧ c < 8 ∧ 0 ≤ a ∧ a < 10000 ∧ 0 ≤ w ∧ w < 100) ∧ ((r2 = -3 ∧ g1 90 38 = 20) ∨ (r2 = g1 90 38 ∧ g1 90 38 < 20)))) (b1 : r2 < 0 → g2 = g1) (b2 : 0 ≤ r2 → g2 = yset (yset (yset (yset (yset g1 114 (Int.toNat (g1 90 38)) c) 115 (Int.toNat (g1 90 38)) (yb (fun x y => x / y) a 100)) 116 (Int.toNat (g1 90 38)) (yb (fun x y => x - x / y * y) a 100)) 117 (Int.toNat (g1 90 38)) w) 90 38 (g1 90 38 + 1)) : yStV g2 := by
  have hJ := hK.1
  have hS := hK.2
  have hz := hJ.1.1.sz
  have hz1 := ht.sz
  refine hS.mono' hz.2 (fun x y hab => ?_)
  unfold yRs at hab
  have e1 : g1 x y = g x y := by
    by_cases h : r1 < 0
    · rw [a1 h]
    · rw [a2 (by omega), yset_nc (by omega), yset_nc (by omega), yset_nc (by omega), yset_nc (by omega), yset_nc (by omega)]
  rw [← e1]
  by_cases h : r2 < 0
  · rw [b1 h]
  · rw [b2 (by omega), yset_ne (by omega), yset_nc (by omega), yset_nc (by omega), yset_nc (by omega), yset_nc (by omega)]
theorem yks_tx {g g1 g2 : yM} (hK : yKnv g) (a0 : yTy zpZ g1) (a1 : g1 2 2 = 0) (a2 : yUn (zpC141.2.2.2.2 ++ [(2, 2, 1, 2)]) g g1) (b0 : yTy zpZ g2) (b1 : g2 90 13 = 0) (b2 : yUn (zpC591.2.2.2.2 ++ [(90, 90, 1, 13), (90, 90, 1, 15), (99, 99, 0, 0)]) g1 g2) : yStV g2 :=
  (hK.2.mono hK.1.1.1.sz.2 (a2.eq (by decide +kernel))).mono a0.sz.2 (b2.eq (by decide +kernel))
