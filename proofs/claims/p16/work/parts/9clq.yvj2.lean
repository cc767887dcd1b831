/-! OPERATIONS ALIKE: values -/
theorem yj_val {g : yM} (hJ : yJnv g) : (∀ a : Int, 0 ≤ a → a < 6 → g 91 (Int.toNat (40 + a)) = g 13 (Int.toNat a) ∧ g 91 (Int.toNat (46 + a)) = g 14 (Int.toNat a)) ∧ g 91 52 = g 1 9 := by
  refine ⟨fun a h0 h6 => ?_, ?_⟩
  · have h1 := (hJ.2.2.2.1 1 a (Or.inr (Or.inl ⟨rfl, h0, h6⟩))).1
    have h2 := (hJ.2.2.2.1 2 a (Or.inr (Or.inr (Or.inl ⟨rfl, h0, h6⟩)))).1
    rw [ycod_1, ykv_1] at h1
    rw [ycod_2, ykv_2] at h2
    exact ⟨h1, h2⟩
  · have h3 := (hJ.2.2.2.1 3 0 (Or.inr (Or.inr (Or.inr ⟨rfl, rfl⟩)))).1
    rw [ycod_3, ykv_3] at h3
    exact h3
/-- the class's change leaves what the reference reads -/
theorem yj_fr {g g1 : yM} {k o v r : Int} (hk : yok g k o) (h : r = ykv g k o ∧ (r = v → g1 = g) ∧ (r ≠ v → yTy zpZ g1 ∧ yWz (ymk g k o v) g1)) {a b : Nat} (hab : a = 90 ∨ (91 ≤ a)) : g1 a b = g a b := by
  by_cases e : r = v
  · rw [h.2.1 e]
  · have u := ymk_un hk (h.2.2 e).2
    refine u a b (fun w hw hc => ?_)
    have key : ∀ w ∈ yWCc, w.2.1 ≤ 89 := by decide +kernel
    have h9 := key w hw
    have h8 := hc.2.1
    omega
theorem yjc_MA0 {g : yM} (hJ : yJnv g) : yTy zpZ g := by
  exact hJ.1.1
theorem yjc_MA1 {g : yM} (hJ : yJnv g) : 0 ≤ g 4 5 ∧ g 4 5 ≤ 40 := by
  have h := hJ.2.2.2.2.1.1
  omega
theorem yjm_MA0 {g g1 : yM} {a b v r1 : Int} (hJ : yJnv g)  (a0 : ¬ (0 ≤ a ∧ a < 6 ∧ 0 ≤ b ∧ b ≤ 1 ∧ 1 ≤ v ∧ v ≤ 99 ∧ (b = 0 → v ≤ g 14 (Int.toNat a)) ∧ (b = 1 → g 13 (Int.toNat a) ≤ v)) → r1 = -1 ∧ g1 = g) (a1 : (0 ≤ a ∧ a < 6 ∧ 0 ≤ b ∧ b ≤ 1 ∧ 1 ≤ v ∧ v ≤ 99 ∧ (b = 0 → v ≤ g 14 (Int.toNat a)) ∧ (b = 1 → g 13 (Int.toNat a) ≤ v)) → b = 0 → r1 = ykv g 1 a ∧ (r1 = v → g1 = g) ∧ (r1 ≠ v → yTy zpZ g1 ∧ yWz (ymk g 1 a v) g1)) (a2 : (0 ≤ a ∧ a < 6 ∧ 0 ≤ b ∧ b ≤ 1 ∧ 1 ≤ v ∧ v ≤ 99 ∧ (b = 0 → v ≤ g 14 (Int.toNat a)) ∧ (b = 1 → g 13 (Int.toNat a) ≤ v)) → b = 1 → r1 = ykv g 2 a ∧ (r1 = v → g1 = g) ∧ (r1 ≠ v → yTy zpZ g1 ∧ yWz (ymk g 2 a v) g1)) : 0 ≤ g1 90 5 ∧ g1 90 5 ≤ 40 := by
  have fr : ∀ x j : Nat, 90 ≤ x → g1 x j = g x j := fun x j hx => by
    by_cases ok : (0 ≤ a ∧ a < 6 ∧ 0 ≤ b ∧ b ≤ 1 ∧ 1 ≤ v ∧ v ≤ 99 ∧ (b = 0 → v ≤ g 14 (Int.toNat a)) ∧ (b = 1 → g 13 (Int.toNat a) ≤ v))
    · by_cases hb : b = 0
      · exact yj_fr (Or.inr (Or.inl ⟨rfl, ok.1, ok.2.1⟩)) (a1 ok hb) (by omega)
      · exact yj_fr (Or.inr (Or.inr (Or.inl ⟨rfl, ok.1, ok.2.1⟩))) (a2 ok (by omega)) (by omega)
    · rw [(a0 ok).2]
  rw [fr 90 5 (by decide)]
  have h := hJ.1.2.2.2.2.2
  omega
theorem yj_MA {g g1 g2 : yM} {a b v r1 r2 : Int} (hJ : yJnv g)  (a0 : ¬ (0 ≤ a ∧ a < 6 ∧ 0 ≤ b ∧ b ≤ 1 ∧ 1 ≤ v ∧ v ≤ 99 ∧ (b = 0 → v ≤ g 14 (Int.toNat a)) ∧ (b = 1 → g 13 (Int.toNat a) ≤ v)) → r1 = -1 ∧ g1 = g) (a1 : (0 ≤ a ∧ a < 6 ∧ 0 ≤ b ∧ b ≤ 1 ∧ 1 ≤ v ∧ v ≤ 99 ∧ (b = 0 → v ≤ g 14 (Int.toNat a)) ∧ (b = 1 → g 13 (Int.toNat a) ≤ v)) → b = 0 → r1 = ykv g 1 a ∧ (r1 = v → g1 = g) ∧ (r1 ≠ v → yTy zpZ g1 ∧ yWz (ymk g 1 a v) g1)) (a2 : (0 ≤ a ∧ a < 6 ∧ 0 ≤ b ∧ b ≤ 1 ∧ 1 ≤ v ∧ v ≤ 99 ∧ (b = 0 → v ≤ g 14 (Int.toNat a)) ∧ (b = 1 → g 13 (Int.toNat a) ≤ v)) → b = 1 → r1 = ykv g 2 a ∧ (r1 = v → g1 = g) ∧ (r1 ≠ v → yTy zpZ g1 ∧ yWz (ymk g 2 a v) g1)) (b0 : ¬ (0 ≤ a ∧ a < 6 ∧ 0 ≤ b ∧ b ≤ 1 ∧ 1 ≤ v ∧ v ≤ 99 ∧ (b = 0 → v ≤ g1 91 (Int.toNat (46 + a))) ∧ (b = 1 → g1 91 (Int.toNat (40 + a)) ≤ v)) → r2 = -1 ∧ g2 = g1) (b1 : (0 ≤ a ∧ a < 6 ∧ 0 ≤ b ∧ b ≤ 1 ∧ 1 ≤ v ∧ v ≤ 99 ∧ (b = 0 → v ≤ g1 91 (Int.toNat (46 + a))) ∧ (b = 1 → g1 91 (Int.toNat (40 + a)) ≤ v)) → b = 0 → r2 = g1 91 (Int.toNat (40 + a)) ∧ (g1 91 (Int.toNat (40 + a)) = v → g2 = g1) ∧ (g1 91 (Int.toNat (40 + a)) ≠ v → g2 = ybec g1 (40 + a) v)) (b2 : (0 ≤ a ∧ a < 6 ∧ 0 ≤ b ∧ b ≤ 1 ∧ 1 ≤ v ∧ v ≤ 99 ∧ (b = 0 → v ≤ g1 91 (Int.toNat (46 + a))) ∧ (b = 1 → g1 91 (Int.toNat (40 + a)) ≤ v)) → b = 1 → r2 = g1 91 (Int.toNat (46 + a)) ∧ (g1 91 (Int.toNat (46 + a)) = v → g2 = g1) ∧ (g1 91 (Int.toNat (46 + a)) ≠ v → g2 = ybec g1 (46 + a) v)) : yJnv g2 ∧ r1 = r2 := by
  have fr : ∀ x j : Nat, 90 ≤ x → g1 x j = g x j := fun x j hx => by
    by_cases ok : (0 ≤ a ∧ a < 6 ∧ 0 ≤ b ∧ b ≤ 1 ∧ 1 ≤ v ∧ v ≤ 99 ∧ (b = 0 → v ≤ g 14 (Int.toNat a)) ∧ (b = 1 → g 13 (Int.toNat a) ≤ v))
    · by_cases hb : b = 0
      · exact yj_fr (Or.inr (Or.inl ⟨rfl, ok.1, ok.2.1⟩)) (a1 ok hb) (by omega)
      · exact yj_fr (Or.inr (Or.inr (Or.inl ⟨rfl, ok.1, ok.2.1⟩))) (a2 ok (by omega)) (by omega)
    · rw [(a0 ok).2]
  have hv := yj_val hJ
  by_cases ok : (0 ≤ a ∧ a < 6 ∧ 0 ≤ b ∧ b ≤ 1 ∧ 1 ≤ v ∧ v ≤ 99 ∧ (b = 0 → v ≤ g 14 (Int.toNat a)) ∧ (b = 1 → g 13 (Int.toNat a) ≤ v))
  · have h2 := hv.1 a ok.1 ok.2.1
    have ok2 : (0 ≤ a ∧ a < 6 ∧ 0 ≤ b ∧ b ≤ 1 ∧ 1 ≤ v ∧ v ≤ 99 ∧ (b = 0 → v ≤ g1 91 (Int.toNat (46 + a))) ∧ (b = 1 → g1 91 (Int.toNat (40 + a)) ≤ v)) := by
      rw [fr 91 _ (by decide), fr 91 _ (by decide), h2.1, h2.2]
      exact ok
    by_cases hb : b = 0
    · have m := b1 ok2 hb
      rw [← ycod_1] at m
      exact yj_mb hJ (Or.inr (Or.inl ⟨rfl, ok.1, ok.2.1⟩)) ⟨fun h => absurd h (by decide), fun _ => ⟨by omega, by omega⟩, fun h => absurd h (by decide)⟩ ⟨by omega, by omega⟩ (a1 ok hb) m
    · have m := b2 ok2 (by omega)
      rw [← ycod_2] at m
      exact yj_mb hJ (Or.inr (Or.inr (Or.inl ⟨rfl, ok.1, ok.2.1⟩))) ⟨fun h => absurd h (by decide), fun _ => ⟨by omega, by omega⟩, fun h => absurd h (by decide)⟩ ⟨by omega, by omega⟩ (a2 ok (by omega)) m
  · have e := a0 ok
    have ok2 : ¬ (0 ≤ a ∧ a < 6 ∧ 0 ≤ b ∧ b ≤ 1 ∧ 1 ≤ v ∧ v ≤ 99 ∧ (b = 0 → v ≤ g1 91 (Int.toNat (46 + a))) ∧ (b = 1 → g1 91 (Int.toNat (40 + a)) ≤ v)) := fun z => ok (by
      have h2 := hv.1 a z.1 z.2.1
      rw [fr 91 _ (by decide), fr 91 _ (by decide), h2.1, h2.2] at z
      exact z)
    have m := b0 ok2
    rw [m.2, e.2]
    exact ⟨hJ, by rw [e.1, m.1]⟩
theorem yjc_YA0 {g : yM} (hJ : yJnv g) : yTy zpZ g := by
  exact hJ.1.1
theorem yjc_YA1 {g : yM} (hJ : yJnv g) : 0 ≤ g 4 5 ∧ g 4 5 ≤ 40 := by
  have h := hJ.2.2.2.2.1.1
  omega
theorem yjc_YA2 {g : yM} (hJ : yJnv g) : 0 ≤ g 1 10 ∧ g 1 10 ≤ 1 := by
  have h := hJ.2.2.2.2.2.2.2.1
  omega
theorem yjm_YA0 {g g1 : yM} {a v r1 : Int} (hJ : yJnv g)  (a0 : ¬ (0 ≤ a ∧ a ≤ 2 ∧ 0 ≤ v ∧ v ≤ 30 ∧ (a = 0 → v ≤ 3) ∧ (a = 2 → v ≤ 1)) → r1 = -1 ∧ g1 = g) (a1 : (0 ≤ a ∧ a ≤ 2 ∧ 0 ≤ v ∧ v ≤ 30 ∧ (a = 0 → v ≤ 3) ∧ (a = 2 → v ≤ 1)) → a = 0 → r1 = g 1 8 ∧ g1 = yset g 1 8 v) (a2 : (0 ≤ a ∧ a ≤ 2 ∧ 0 ≤ v ∧ v ≤ 30 ∧ (a = 0 → v ≤ 3) ∧ (a = 2 → v ≤ 1)) → a = 2 → r1 = g 1 10 ∧ g1 = yset g 1 10 v) (a3 : (0 ≤ a ∧ a ≤ 2 ∧ 0 ≤ v ∧ v ≤ 30 ∧ (a = 0 → v ≤ 3) ∧ (a = 2 → v ≤ 1)) → a = 1 → r1 = ykv g 3 0 ∧ (r1 = v → g1 = g) ∧ (r1 ≠ v → yTy zpZ g1 ∧ yWz (ymk g 3 0 v) g1)) : 0 ≤ g1 90 5 ∧ g1 90 5 ≤ 40 := by
  have fr : ∀ x j : Nat, 90 ≤ x → g1 x j = g x j := fun x j hx => by
    by_cases ok : (0 ≤ a ∧ a ≤ 2 ∧ 0 ≤ v ∧ v ≤ 30 ∧ (a = 0 → v ≤ 3) ∧ (a = 2 → v ≤ 1))
    · by_cases h0 : a = 0
      · rw [(a1 ok h0).2]
        exact yset_nc (by omega)
      · by_cases h2 : a = 2
        · rw [(a2 ok h2).2]
          exact yset_nc (by omega)
        · exact yj_fr (Or.inr (Or.inr (Or.inr ⟨rfl, rfl⟩))) (a3 ok (by omega)) (by omega)
    · rw [(a0 ok).2]
  rw [fr 90 5 (by decide)]
  have h := hJ.1.2.2.2.2.2
  omega
theorem yj_YA {g g1 g2 : yM} {a v r1 r2 : Int} (hJ : yJnv g)  (a0 : ¬ (0 ≤ a ∧ a ≤ 2 ∧ 0 ≤ v ∧ v ≤ 30 ∧ (a = 0 → v ≤ 3) ∧ (a = 2 → v ≤ 1)) → r1 = -1 ∧ g1 = g) (a1 : (0 ≤ a ∧ a ≤ 2 ∧ 0 ≤ v ∧ v ≤ 30 ∧ (a = 0 → v ≤ 3) ∧ (a = 2 → v ≤ 1)) → a = 0 → r1 = g 1 8 ∧ g1 = yset g 1 8 v) (a2 : (0 ≤ a ∧ a ≤ 2 ∧ 0 ≤ v ∧ v ≤ 30 ∧ (a = 0 → v ≤ 3) ∧ (a = 2 → v ≤ 1)) → a = 2 → r1 = g 1 10 ∧ g1 = yset g 1 10 v) (a3 : (0 ≤ a ∧ a ≤ 2 ∧ 0 ≤ v ∧ v ≤ 30 ∧ (a = 0 → v ≤ 3) ∧ (a = 2 → v ≤ 1)) → a = 1 → r1 = ykv g 3 0 ∧ (r1 = v → g1 = g) ∧ (r1 ≠ v → yTy zpZ g1 ∧ yWz (ymk g 3 0 v) g1)) (b0 : ¬ (0 ≤ a ∧ a ≤ 2 ∧ 0 ≤ v ∧ v ≤ 30 ∧ (a = 0 → v ≤ 3) ∧ (a = 2 → v ≤ 1)) → r2 = -1 ∧ g2 = g1) (b1 : (0 ≤ a ∧ a ≤ 2 ∧ 0 ≤ v ∧ v ≤ 30 ∧ (a = 0 → v ≤ 3) ∧ (a = 2 → v ≤ 1)) → a = 0 → r2 = g1 90 10 ∧ g2 = yset g1 90 10 v) (b2 : (0 ≤ a ∧ a ≤ 2 ∧ 0 ≤ v ∧ v ≤ 30 ∧ (a = 0 → v ≤ 3) ∧ (a = 2 → v ≤ 1)) → a = 2 → r2 = g1 90 11 ∧ g2 = yset g1 90 11 v) (b3 : (0 ≤ a ∧ a ≤ 2 ∧ 0 ≤ v ∧ v ≤ 30 ∧ (a = 0 → v ≤ 3) ∧ (a = 2 → v ≤ 1)) → a = 1 → r2 = g1 91 52 ∧ (g1 91 52 = v → g2 = g1) ∧ (g1 91 52 ≠ v → g2 = ybec g1 52 v)) : yJnv g2 ∧ r1 = r2 := by
  have fr : ∀ x j : Nat, 90 ≤ x → g1 x j = g x j := fun x j hx => by
    by_cases ok : (0 ≤ a ∧ a ≤ 2 ∧ 0 ≤ v ∧ v ≤ 30 ∧ (a = 0 → v ≤ 3) ∧ (a = 2 → v ≤ 1))
    · by_cases h0 : a = 0
      · rw [(a1 ok h0).2]
        exact yset_nc (by omega)
      · by_cases h2 : a = 2
        · rw [(a2 ok h2).2]
          exact yset_nc (by omega)
        · exact yj_fr (Or.inr (Or.inr (Or.inr ⟨rfl, rfl⟩))) (a3 ok (by omega)) (by omega)
    · rw [(a0 ok).2]
  by_cases ok : (0 ≤ a ∧ a ≤ 2 ∧ 0 ≤ v ∧ v ≤ 30 ∧ (a = 0 → v ≤ 3) ∧ (a = 2 → v ≤ 1))
  · by_cases h0 : a = 0
    · skip
      have e := a1 ok h0
      have m := b1 ok h0
      rw [m.2]
      refine ⟨⟨?_, ?_⟩, by rw [e.1, m.1, fr 90 10 (by decide)]; exact (hJ.2.2.2.2.2.2.1.1).symm⟩
      · have t1 : yTy zpZ g1 := by
          rw [e.2]
          exact hJ.1.1.sO (List.mem_of_getElem? (i := 1) rfl) rfl (by decide +kernel) ⟨by omega, by omega⟩
        refine ⟨t1.sO (List.mem_of_getElem? (i := 42) rfl) rfl (by decide +kernel) ⟨by omega, by omega⟩, ?_⟩
        refine hJ.1.2.mono (fun x j hx => ?_)
        rw [e.2]
        exact (yUn.eq (rs := yrsA) (wr := [(90, 90, 1, 10), (1, 1, 1, 8)]) (yUn.st (yUn.st yUn.rf ⟨(1, 1, 1, 8), by decide, by decide, by decide, Or.inr rfl⟩) ⟨(90, 90, 1, 10), by decide, by decide, by decide, Or.inr rfl⟩) (by decide +kernel)) x j hx
      · have u : yUn [(90, 90, 1, 10), (1, 1, 1, 8)] g (yset g1 90 10 v) := by
          rw [e.2]
          exact yUn.st (yUn.st yUn.rf ⟨(1, 1, 1, 8), by decide, by decide, by decide, Or.inr rfl⟩) ⟨(90, 90, 1, 10), by decide, by decide, by decide, Or.inr rfl⟩
        obtain ⟨hVt, hVc, hVv, hVh, d1, d2, d3, d4⟩ := hJ.2
        refine ⟨hVt.mono (u.eq (by decide +kernel)), hVc.mono (u.eq (by decide +kernel)), hVv.mono (u.eq (by decide +kernel)), hVh.mono (u.eq (by decide +kernel)), ?_⟩
        rw [e.2]
        have nc : ∀ x j : Nat, ¬ (x = 90 ∧ j = 10) ∧ ¬ (x = 1 ∧ j = 8) → yset (yset g 1 8 v) 90 10 v x j = g x j := fun x j h => by rw [yset_ne h.1, yset_ne h.2]
        refine ⟨?_, ?_, ?_, fun j hj => ?_⟩
        · rw [nc 90 6 (by decide), nc 1 7 (by decide)]
          exact d1
        · rw [yset_eq, yset_ne (by decide), yset_eq]
          exact ⟨rfl, by omega, by omega⟩
        · rw [nc 90 11 (by decide), nc 1 10 (by decide)]
          exact d3
        · rw [nc 1 7 (by decide)] at hj
          rw [nc 95 j (by omega), nc 96 j (by omega), nc 97 j (by omega), nc 15 j (by omega), nc 16 j (by omega), nc 17 j (by omega)]
          exact d4 j hj
    · by_cases h2 : a = 2
      · skip
        have e := a2 ok h2
        have m := b2 ok h2
        rw [m.2]
        refine ⟨⟨?_, ?_⟩, by rw [e.1, m.1, fr 90 11 (by decide)]; exact (hJ.2.2.2.2.2.2.2.1.1).symm⟩
        · have t1 : yTy zpZ g1 := by
            rw [e.2]
            exact hJ.1.1.sO (List.mem_of_getElem? (i := 1) rfl) rfl (by decide +kernel) ⟨by omega, by omega⟩
          refine ⟨t1.sO (List.mem_of_getElem? (i := 42) rfl) rfl (by decide +kernel) ⟨by omega, by omega⟩, ?_⟩
          refine hJ.1.2.mono (fun x j hx => ?_)
          rw [e.2]
          exact (yUn.eq (rs := yrsA) (wr := [(90, 90, 1, 11), (1, 1, 1, 10)]) (yUn.st (yUn.st yUn.rf ⟨(1, 1, 1, 10), by decide, by decide, by decide, Or.inr rfl⟩) ⟨(90, 90, 1, 11), by decide, by decide, by decide, Or.inr rfl⟩) (by decide +kernel)) x j hx
        · have u : yUn [(90, 90, 1, 11), (1, 1, 1, 10)] g (yset g1 90 11 v) := by
            rw [e.2]
            exact yUn.st (yUn.st yUn.rf ⟨(1, 1, 1, 10), by decide, by decide, by decide, Or.inr rfl⟩) ⟨(90, 90, 1, 11), by decide, by decide, by decide, Or.inr rfl⟩
          obtain ⟨hVt, hVc, hVv, hVh, d1, d2, d3, d4⟩ := hJ.2
          refine ⟨hVt.mono (u.eq (by decide +kernel)), hVc.mono (u.eq (by decide +kernel)), hVv.mono (u.eq (by decide +kernel)), hVh.mono (u.eq (by decide +kernel)), ?_⟩
          rw [e.2]
          have nc : ∀ x j : Nat, ¬ (x = 90 ∧ j = 11) ∧ ¬ (x = 1 ∧ j = 10) → yset (yset g 1 10 v) 90 11 v x j = g x j := fun x j h => by rw [yset_ne h.1, yset_ne h.2]
          refine ⟨?_, ?_, ?_, fun j hj => ?_⟩
          · rw [nc 90 6 (by decide), nc 1 7 (by decide)]
            exact d1
          · rw [nc 90 10 (by decide), nc 1 8 (by decide)]
            exact d2
          · rw [yset_eq, yset_ne (by decide), yset_eq]
            exact ⟨rfl, by omega, by omega⟩
          · rw [nc 1 7 (by decide)] at hj
            rw [nc 95 j (by omega), nc 96 j (by omega), nc 97 j (by omega), nc 15 j (by omega), nc 16 j (by omega), nc 17 j (by omega)]
            exact d4 j hj
      · have m := b3 ok (by omega)
        have c3 : Int.toNat (ycod 3 0) = 52 := by rw [ycod_3]; rfl
        have c4 : ycod 3 0 = 52 := ycod_3 0
        rw [← c3] at m
        rw [← c4] at m
        exact yj_mb hJ (Or.inr (Or.inr (Or.inr ⟨rfl, rfl⟩))) ⟨fun h => absurd h (by decide), fun h => absurd h (by decide), fun _ => ⟨by omega, by omega⟩⟩ ⟨by omega, by omega⟩ (a3 ok (by omega)) m
  · have e := a0 ok
    have m := b0 ok
    rw [m.2, e.2]
    exact ⟨hJ, by rw [e.1, m.1]⟩
theorem yjc_CA0 {g : yM} (hJ : yJnv g) : yTy zpZ g := by
  exact hJ.1.1
theorem yjc_CA1 {g : yM} (hJ : yJnv g) : 0 ≤ g 4 5 ∧ g 4 5 ≤ 40 := by
  have h := hJ.2.2.2.2.1.1
  omega
theorem yjc_CA2 {g : yM} (hJ : yJnv g) : 0 ≤ g 1 1 ∧ g 1 1 ≤ 40 := by
  have hz := hJ.1.1.sz
  omega
theorem yjm_CA0 {g g1 : yM} {w v r1 : Int} (hJ : yJnv g)  (a0 : ¬ (0 ≤ w ∧ w < g 1 1 ∧ 0 ≤ v ∧ v < g (50 + Int.toNat w) 2) → r1 = -1 ∧ g1 = g) (a1 : (0 ≤ w ∧ w < g 1 1 ∧ 0 ≤ v ∧ v < g (50 + Int.toNat w) 2) → r1 = ykv g 0 w ∧ (r1 = v → g1 = g) ∧ (r1 ≠ v → yTy zpZ g1 ∧ yWz (ymk g 0 w v) g1)) : 0 ≤ g1 90 5 ∧ g1 90 5 ≤ 40 := by
  have hz := hJ.1.1.sz
  have fr : ∀ x j : Nat, 90 ≤ x → g1 x j = g x j := fun x j hx => by
    by_cases ok : (0 ≤ w ∧ w < g 1 1 ∧ 0 ≤ v ∧ v < g (50 + Int.toNat w) 2)
    · exact yj_fr (Or.inl ⟨rfl, ok.1, ok.2.1, by omega⟩) (a1 ok) (by omega)
    · rw [(a0 ok).2]
  rw [fr 90 5 (by decide)]
  have h := hJ.1.2.2.2.2.2
  omega
theorem yjm_CA1 {g g1 : yM} {w v r1 : Int} (hJ : yJnv g)  (a0 : ¬ (0 ≤ w ∧ w < g 1 1 ∧ 0 ≤ v ∧ v < g (50 + Int.toNat w) 2) → r1 = -1 ∧ g1 = g) (a1 : (0 ≤ w ∧ w < g 1 1 ∧ 0 ≤ v ∧ v < g (50 + Int.toNat w) 2) → r1 = ykv g 0 w ∧ (r1 = v → g1 = g) ∧ (r1 ≠ v → yTy zpZ g1 ∧ yWz (ymk g 0 w v) g1)) : 0 ≤ g1 90 22 ∧ g1 90 22 ≤ 40 := by
  have hz := hJ.1.1.sz
  have fr : ∀ x j : Nat, 90 ≤ x → g1 x j = g x j := fun x j hx => by
    by_cases ok : (0 ≤ w ∧ w < g 1 1 ∧ 0 ≤ v ∧ v < g (50 + Int.toNat w) 2)
    · exact yj_fr (Or.inl ⟨rfl, ok.1, ok.2.1, by omega⟩) (a1 ok) (by omega)
    · rw [(a0 ok).2]
  rw [fr 90 22 (by decide)]
  have h := hJ.2.2.1.1
  omega
theorem yj_CA {g g1 g2 : yM} {w v r1 r2 : Int} (hJ : yJnv g)  (a0 : ¬ (0 ≤ w ∧ w < g 1 1 ∧ 0 ≤ v ∧ v < g (50 + Int.toNat w) 2) → r1 = -1 ∧ g1 = g) (a1 : (0 ≤ w ∧ w < g 1 1 ∧ 0 ≤ v ∧ v < g (50 + Int.toNat w) 2) → r1 = ykv g 0 w ∧ (r1 = v → g1 = g) ∧ (r1 ≠ v → yTy zpZ g1 ∧ yWz (ymk g 0 w v) g1)) (b0 : ¬ (0 ≤ w ∧ w < g1 90 22 ∧ 0 ≤ v ∧ v < g1 102 (Int.toNat w)) → r2 = -1 ∧ g2 = g1) (b1 : (0 ≤ w ∧ w < g1 90 22 ∧ 0 ≤ v ∧ v < g1 102 (Int.toNat w)) → r2 = g1 91 (Int.toNat (w)) ∧ (g1 91 (Int.toNat (w)) = v → g2 = g1) ∧ (g1 91 (Int.toNat (w)) ≠ v → g2 = ybec g1 (w) v)) : yJnv g2 ∧ r1 = r2 := by
  have hz := hJ.1.1.sz
  have fr : ∀ x j : Nat, 90 ≤ x → g1 x j = g x j := fun x j hx => by
    by_cases ok : (0 ≤ w ∧ w < g 1 1 ∧ 0 ≤ v ∧ v < g (50 + Int.toNat w) 2)
    · exact yj_fr (Or.inl ⟨rfl, ok.1, ok.2.1, by omega⟩) (a1 ok) (by omega)
    · rw [(a0 ok).2]
  have hc := hJ.2.2.1.1
  have hk : 0 ≤ w ∧ w < g 1 1 → g 102 (Int.toNat w) = g (50 + Int.toNat w) 2 := fun h => (hJ.2.2.1.2.2 (Int.toNat w) (by omega)).1.2.1
  by_cases ok : (0 ≤ w ∧ w < g 1 1 ∧ 0 ≤ v ∧ v < g (50 + Int.toNat w) 2)
  · have ok2 : (0 ≤ w ∧ w < g1 90 22 ∧ 0 ≤ v ∧ v < g1 102 (Int.toNat w)) := by
      rw [fr 90 22 (by decide), fr 102 _ (by decide), hc, hk ⟨ok.1, ok.2.1⟩]
      exact ok
    have m := b1 ok2
    have k0 : yok g 0 w := Or.inl ⟨rfl, ok.1, ok.2.1, by omega⟩
    have c0 : ycod 0 w = w := ycod_0 w
    have m2 : r2 = g1 91 (Int.toNat (ycod 0 w)) ∧ (g1 91 (Int.toNat (ycod 0 w)) = v → g2 = g1) ∧ (g1 91 (Int.toNat (ycod 0 w)) ≠ v → g2 = ybec g1 (ycod 0 w) v) := by
      rw [c0]
      exact m
    exact yj_mb hJ k0 ⟨fun _ => ⟨ok.2.2.1, ok.2.2.2⟩, fun h => absurd h (by decide), fun h => absurd h (by decide)⟩ (by have h9 := (hJ.2.2.1.2.2 (Int.toNat w) (by omega)).2.2.1; omega) (a1 ok) m2
  · have ok2 : ¬ (0 ≤ w ∧ w < g1 90 22 ∧ 0 ≤ v ∧ v < g1 102 (Int.toNat w)) := fun z => ok (by
      rw [fr 90 22 (by decide), fr 102 _ (by decide), hc] at z
      rw [hk ⟨z.1, z.2.1⟩] at z
      exact z)
    have e := a0 ok
    have m := b0 ok2
    rw [m.2, e.2]
    exact ⟨hJ, by rw [e.1, m.1]⟩
