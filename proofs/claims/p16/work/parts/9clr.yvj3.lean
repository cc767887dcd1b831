/-! OPERATIONS ALIKE: changes undone, bytes, starts, tellings, texts -/
theorem yjv_set {g g2 : yM} {k o v : Int} (h : yVv g) (hk : yok g k o) (hb : yvb g k o v) (e11 : g2 1 1 = g 1 1) (e91 : ∀ j : Nat, g2 91 j = if j = Int.toNat (ycod k o) then v else g 91 j) (ev : ∀ k' o' : Int, yok g k' o' → ykv g2 k' o' = if k' = k ∧ o' = o then v else ykv g k' o') (e2 : ∀ q : Nat, 50 ≤ q → q ≤ 89 → g2 q 2 = g q 2) : yVv g2 := by
  intro k' o' hk'
  have hk' := hk'.mono e11.symm
  have hq := hk'.b
  rw [ev k' o' hk', e91]
  by_cases hh : k' = k ∧ o' = o
  · rw [if_pos hh, hh.1, hh.2, if_pos rfl]
    have hq2 := hk.b
    exact ⟨rfl, hb.mono (fun h0 => e2 _ (hq2 h0).1 (hq2 h0).2)⟩
  · rw [if_neg hh, if_neg (fun z => hh (ycod_i hk' hk z))]
    exact ⟨(h k' o' hk').1, (h k' o' hk').2.mono (fun h0 => e2 _ (hq h0).1 (hq h0).2)⟩
theorem ysv_val {M g1 : yM} {k o v : Int} (hk : yok M k o) (hs : yWz (ysv M k o v) g1) {k' o' : Int} (hk' : yok M k' o') : ykv g1 k' o' = if k' = k ∧ o' = o then v else ykv M k' o' := by
  have hq := hk'.b
  have e1 : ykv g1 k' o' = ykv (ysv M k o v) k' o' := ykv.mono (fun h0 => hs.1 _ _ (by omega)) (fun j => hs.1 _ _ (by omega)) (fun j => hs.1 _ _ (by omega)) (hs.1 _ _ (by omega))
  rw [e1]
  by_cases h : k' = k ∧ o' = o
  · rw [if_pos h, h.1, h.2]
    exact ysv_same hk
  · rw [if_neg h, ysv_other hk hk' (fun z => h ⟨z.1.symm, z.2.symm⟩)]
/-- a value is put on both sides; the changes' rows stay, how many of them are done is new -/
theorem yj_put {g g2 : yM} {k o v dn : Int} (hJ : yJnv g) (hk : yok g k o) (hb : yvb g k o v) (hd : 0 ≤ dn ∧ dn ≤ g 4 6) (t2 : yTy zpZ g2)
    (u : yUn [(4, 4, 1, 5), (50, 89, 1, 1), (13, 14, 0, 0), (1, 1, 1, 9), (50, 89, 1, 9), (50, 89, 1, 10), (50, 89, 1, 11), (90, 90, 1, 5), (91, 91, 0, 0)] g g2)
    (e5 : g2 4 5 = dn) (m5 : g2 90 5 = dn) (e91 : ∀ j : Nat, g2 91 j = if j = Int.toNat (ycod k o) then v else g 91 j) (ev : ∀ k' o' : Int, yok g k' o' → ykv g2 k' o' = if k' = k ∧ o' = o then v else ykv g k' o') : yJnv g2 := by
  obtain ⟨hI, hVt, hVc, hVv, hVh, hVd⟩ := hJ
  obtain ⟨⟨d1, d2, d3, d4, d5⟩, hE⟩ := hVh
  have e11 : g2 1 1 = g 1 1 := (u.eq (rs := [(1, 1, 1, 1)]) (by decide +kernel)).one (by decide)
  have e46 : g2 4 6 = g 4 6 := (u.eq (rs := [(4, 4, 1, 6)]) (by decide +kernel)).one (by decide)
  have e94 : g2 90 4 = g 90 4 := (u.eq (rs := [(90, 90, 1, 4)]) (by decide +kernel)).one (by decide)
  have e2 : ∀ q : Nat, 50 ≤ q → q ≤ 89 → g2 q 2 = g q 2 := fun q h1 h2 => (u.eq (rs := [(50, 89, 1, 2)]) (by decide +kernel)).fld (a := 50) (b := 89) (by decide) (by omega) (by omega)
  have e19 : ∀ (q : Nat) (j : Nat), 19 ≤ q → q ≤ 22 → g2 q j = g q j := fun q j a b => (u.eq (rs := [(19, 22, 0, 0)]) (by decide +kernel)).all (a := 19) (b := 22) (n := 0) (by decide) (by omega) (by omega) j
  have e92 : ∀ (q : Nat) (j : Nat), 92 ≤ q → q ≤ 94 → g2 q j = g q j := fun q j a b => (u.eq (rs := [(92, 94, 0, 0)]) (by decide +kernel)).all (a := 92) (b := 94) (n := 0) (by decide) (by omega) (by omega) j
  refine ⟨⟨t2, ?_⟩, hVt.mono (u.eq (by decide +kernel)), hVc.mono (u.eq (by decide +kernel)), yjv_set hVv hk hb e11 e91 ev e2, ?_, hVd.mono (u.eq (by decide +kernel))⟩
  · obtain ⟨i1, i2, i3, i4, i5⟩ := hI.2
    have uA : yEq [(6, 6, 1, 8), (90, 90, 1, 38), (40, 42, 0, 0), (121, 123, 0, 0), (44, 49, 0, 0), (30, 30, 0, 0), (114, 114, 0, 0)] g g2 := u.eq (by decide +kernel)
    have e3 : ∀ q j : Nat, 40 ≤ q → q ≤ 42 → g2 q j = g q j := fun q j a b => uA.all (a := 40) (b := 42) (n := 0) (by decide) (by omega) (by omega) j
    have e4 : ∀ q j : Nat, 121 ≤ q → q ≤ 123 → g2 q j = g q j := fun q j a b => uA.all (a := 121) (b := 123) (n := 0) (by decide) (by omega) (by omega) j
    have e6 : ∀ q j : Nat, 44 ≤ q → q ≤ 49 → g2 q j = g q j := fun q j a b => uA.all (a := 44) (b := 49) (n := 0) (by decide) (by omega) (by omega) j
    have e7 : ∀ j : Nat, g2 30 j = g 30 j := fun j => uA.all (a := 30) (b := 30) (n := 0) (by decide) (by decide) (by decide) j
    have e8 : ∀ j : Nat, g2 114 j = g 114 j := fun j => uA.all (a := 114) (b := 114) (n := 0) (by decide) (by decide) (by decide) j
    have e9 : g2 6 8 = g 6 8 := uA.one (by decide)
    have e10 : g2 90 38 = g 90 38 := uA.one (by decide)
    refine ⟨by rw [e9, e10]; exact i1, fun p hp => ?_, fun p k hp hk => ?_, fun r hr => by rw [e7, e8]; exact i4 r hr, by rw [m5, e94]; omega⟩
    · rw [e3 40 p (by omega) (by omega), e3 41 p (by omega) (by omega), e3 42 p (by omega) (by omega), e4 121 p (by omega) (by omega), e4 122 p (by omega) (by omega), e9]
      exact i2 p hp
    · rw [e4 123 _ (by omega) (by omega), e6 (44 + p) k (by omega) (by omega)]
      exact i3 p k hp hk
  · refine ⟨⟨by rw [m5, e5], by rw [e94, e46]; exact d2, by omega, by omega, by omega⟩, fun j hj => ?_⟩
    rw [e46] at hj
    rw [e19 19 j (by decide) (by decide), e19 20 j (by decide) (by decide), e19 21 j (by decide) (by decide), e19 22 j (by decide) (by decide), e92 92 j (by decide) (by decide), e92 93 j (by decide) (by decide), e92 94 j (by decide) (by decide)]
    obtain ⟨k1, k2, k3, k4, k5, k6⟩ := hE j hj
    have hq := k1.b
    have ee : g 19 j = 0 → g2 (50 + Int.toNat (g 20 j)) 2 = g (50 + Int.toNat (g 20 j)) 2 := fun h0 => e2 _ (hq h0).1 (hq h0).2
    exact ⟨k1.mono e11, k2, k3, k4, k5.mono ee, k6.mono ee⟩
theorem yjc_UN0 {g : yM} (hJ : yJnv g) : yTy zpZ g := by
  exact hJ.1.1
theorem yjc_UN1 {g : yM} (hJ : yJnv g) : 0 ≤ g 4 5 ∧ g 4 5 ≤ 40 := by
  have h := hJ.2.2.2.2.1.1
  omega
theorem yjc_UN2 {g : yM} (hJ : yJnv g) : 0 < g 4 5 → yok g (g 19 (Int.toNat (g 4 5 - 1))) (g 20 (Int.toNat (g 4 5 - 1))) := by
  obtain ⟨⟨d1, d2, d3, d4, d5⟩, hE⟩ := hJ.2.2.2.2.1
  exact fun h => (hE (Int.toNat (g 4 5 - 1)) (by omega)).1
theorem yjm_UN0 {g g1 : yM} {r1 : Int} (hJ : yJnv g)  (a0 : (r1 = -5 ∧ g 4 5 = 0) ∨ (r1 = g 4 5 - 1 ∧ 0 < g 4 5)) (a1 : g 4 5 = 0 → g1 = g) (a2 : 0 < g 4 5 → yTy zpZ g1 ∧ yWz (ysv (yset g 4 5 (g 4 5 - 1)) (g 19 (Int.toNat (g 4 5 - 1))) (g 20 (Int.toNat (g 4 5 - 1))) (g 21 (Int.toNat (g 4 5 - 1)))) g1) : 0 ≤ g1 90 5 ∧ g1 90 5 ≤ 40 := by
  obtain ⟨⟨d1, d2, d3, d4, d5⟩, hE⟩ := hJ.2.2.2.2.1
  by_cases h0 : g 4 5 = 0
  · rw [a1 h0]
    omega
  · have u : g1 90 5 = g 90 5 := by
      rw [(a2 (by omega)).2.1 90 5 (by omega), ysv_nc (((hE (Int.toNat (g 4 5 - 1)) (by omega)).1).mono (yset_nc (by decide))) (by omega), yset_ne (by decide)]
    omega
theorem yjm_UN1 {g g1 : yM} {r1 : Int} (hJ : yJnv g)  (a0 : (r1 = -5 ∧ g 4 5 = 0) ∨ (r1 = g 4 5 - 1 ∧ 0 < g 4 5)) (a1 : g 4 5 = 0 → g1 = g) (a2 : 0 < g 4 5 → yTy zpZ g1 ∧ yWz (ysv (yset g 4 5 (g 4 5 - 1)) (g 19 (Int.toNat (g 4 5 - 1))) (g 20 (Int.toNat (g 4 5 - 1))) (g 21 (Int.toNat (g 4 5 - 1)))) g1) : ∀ k : Nat, k < 40 → 0 ≤ g1 92 k ∧ g1 92 k < 53 := by
  obtain ⟨⟨d1, d2, d3, d4, d5⟩, hE⟩ := hJ.2.2.2.2.1
  intro q hq
  by_cases h0 : g 4 5 = 0
  · rw [a1 h0]
    have := hJ.1.1.fA (j := q) (List.mem_of_getElem? (i := 44) rfl) hq
    omega
  · have u : g1 92 q = g 92 q := by
      rw [(a2 (by omega)).2.1 92 q (by omega), ysv_nc (((hE (Int.toNat (g 4 5 - 1)) (by omega)).1).mono (yset_nc (by decide))) (by omega), yset_ne (by omega)]
    rw [u]
    have := hJ.1.1.fA (j := q) (List.mem_of_getElem? (i := 44) rfl) hq
    omega
theorem yj_UN {g g1 g2 : yM} {r1 r2 : Int} (hJ : yJnv g)  (a0 : (r1 = -5 ∧ g 4 5 = 0) ∨ (r1 = g 4 5 - 1 ∧ 0 < g 4 5)) (a1 : g 4 5 = 0 → g1 = g) (a2 : 0 < g 4 5 → yTy zpZ g1 ∧ yWz (ysv (yset g 4 5 (g 4 5 - 1)) (g 19 (Int.toNat (g 4 5 - 1))) (g 20 (Int.toNat (g 4 5 - 1))) (g 21 (Int.toNat (g 4 5 - 1)))) g1) (b0 : (r2 = -5 ∧ g1 90 5 = 0) ∨ (r2 = g1 90 5 - 1 ∧ 0 < g1 90 5)) (b1 : g1 90 5 = 0 → g2 = g1) (b2 : 0 < g1 90 5 → g2 = yset (yset g1 90 5 (g1 90 5 - 1)) 91 (Int.toNat (g1 92 (Int.toNat (g1 90 5 - 1)))) (g1 93 (Int.toNat (g1 90 5 - 1)))) : yJnv g2 ∧ r1 = r2 := by
  obtain ⟨⟨d1, d2, d3, d4, d5⟩, hE⟩ := hJ.2.2.2.2.1
  by_cases h0 : g 4 5 = 0
  · have e := a1 h0
    subst e
    rw [b1 (by omega)]
    exact ⟨hJ, by omega⟩
  · obtain ⟨k1, k2, k3, k4, k5, k6⟩ := hE (Int.toNat (g 4 5 - 1)) (by omega)
    obtain ⟨t1, s1⟩ := a2 (by omega)
    have kM : yok (yset g 4 5 (g 4 5 - 1)) (g 19 (Int.toNat (g 4 5 - 1))) (g 20 (Int.toNat (g 4 5 - 1))) := k1.mono (yset_nc (by decide))
    have fr : ∀ x j : Nat, 90 ≤ x → g1 x j = g x j := fun x j hx => by
      rw [s1.1 x j (by omega), ysv_nc kM (by omega), yset_nc (by omega)]
    have f5 : g1 90 5 = g 4 5 := by rw [fr 90 5 (by decide)]; exact d1
    have eM := b2 (by omega)
    rw [f5, fr 92 _ (by decide), fr 93 _ (by decide), k2, k3] at eM
    have cb := ycod_b k1
    have hb21 := hJ.1.1.fA (j := Int.toNat (g 4 5 - 1)) (List.mem_of_getElem? (i := 20) rfl) (by omega)
    refine ⟨yj_put (dn := g 4 5 - 1) hJ k1 k5 ⟨by omega, by omega⟩ ?_ ?_ ?_ ?_ (fun j => ?_) (fun k' o' hk' => ?_), by omega⟩
    · rw [eM]
      refine yTy.sA ?_ (List.mem_of_getElem? (i := 43) rfl) (by decide +kernel) hb21
      exact t1.sO (List.mem_of_getElem? (i := 42) rfl) rfl (by decide +kernel) ⟨by omega, by omega⟩
    · rw [eM]
      refine yUn.st (yUn.st ?_ ⟨(90, 90, 1, 5), by decide, by decide, by decide, Or.inr rfl⟩) ⟨(91, 91, 0, 0), by decide, by decide, by decide, Or.inl rfl⟩
      refine yUn.cat (yUn.cat (yUn.st yUn.rf ⟨(4, 4, 1, 5), by decide, by decide, by decide, Or.inr rfl⟩) (ysv_un kM) (by decide +kernel)) s1.un (by decide +kernel)
    · rw [eM, yset_nc (by decide), yset_nc (by decide), s1.1 4 5 (by omega), ysv_nc kM (by omega), yset_eq]
    · rw [eM, yset_nc (by decide), yset_eq]
    · rw [eM]
      by_cases hj : j = Int.toNat (ycod (g 19 (Int.toNat (g 4 5 - 1))) (g 20 (Int.toNat (g 4 5 - 1))))
      · rw [if_pos hj, ← hj, yset_eq]
      · rw [if_neg hj, yset_nj hj, yset_nc (by decide), fr 91 j (by decide)]
    · have hq := hk'.b
      have e1 : ykv g2 k' o' = ykv g1 k' o' := by
        rw [eM]
        exact ykv.mono (fun h0 => by rw [yset_nc (by have := hq h0; omega), yset_nc (by have := hq h0; omega)]) (fun j => by rw [yset_nc (by decide), yset_nc (by decide)]) (fun j => by rw [yset_nc (by decide), yset_nc (by decide)]) (by rw [yset_nc (by decide), yset_nc (by decide)])
      rw [e1, ysv_val kM s1 (hk'.mono (yset_nc (by decide)))]
      have e3 : ykv (yset g 4 5 (g 4 5 - 1)) k' o' = ykv g k' o' := ykv.mono (fun h0 => yset_nc (by have := hq h0; omega)) (fun j => yset_nc (by decide)) (fun j => yset_nc (by decide)) (yset_nc (by decide))
      rw [e3]
theorem yjc_RE0 {g : yM} (hJ : yJnv g) : yTy zpZ g := by
  exact hJ.1.1
theorem yjc_RE1 {g : yM} (hJ : yJnv g) : 0 ≤ g 4 5 ∧ g 4 5 ≤ g 4 6 ∧ g 4 6 ≤ 40 := by
  obtain ⟨⟨d1, d2, d3, d4, d5⟩, hE⟩ := hJ.2.2.2.2.1
  omega
theorem yjc_RE2 {g : yM} (hJ : yJnv g) : g 4 5 < g 4 6 → yok g (g 19 (Int.toNat (g 4 5))) (g 20 (Int.toNat (g 4 5))) := by
  obtain ⟨⟨d1, d2, d3, d4, d5⟩, hE⟩ := hJ.2.2.2.2.1
  exact fun h => (hE (Int.toNat (g 4 5)) (by omega)).1
theorem yjm_RE0 {g g1 : yM} {r1 : Int} (hJ : yJnv g)  (a0 : (r1 = -5 ∧ g 4 5 = g 4 6) ∨ (r1 = g 4 6 - (g 4 5 + 1) ∧ g 4 5 < g 4 6)) (a1 : g 4 5 = g 4 6 → g1 = g) (a2 : g 4 5 < g 4 6 → yTy zpZ g1 ∧ ∃ M, yWz (ysv g (g 19 (Int.toNat (g 4 5))) (g 20 (Int.toNat (g 4 5))) (g 22 (Int.toNat (g 4 5)))) M ∧ g1 = yset M 4 5 (g 4 5 + 1)) : 0 ≤ g1 90 5 ∧ g1 90 5 ≤ g1 90 4 ∧ g1 90 4 ≤ 40 := by
  obtain ⟨⟨d1, d2, d3, d4, d5⟩, hE⟩ := hJ.2.2.2.2.1
  by_cases h0 : g 4 5 = g 4 6
  · rw [a1 h0]
    omega
  · obtain ⟨t1, M, s1, e⟩ := a2 (by omega)
    have fr : ∀ j : Nat, g1 90 j = g 90 j := fun j => by
      rw [e, yset_nc (by decide), s1.1 90 j (by omega)]
      exact ysv_nc (hE (Int.toNat (g 4 5)) (by omega)).1 (by omega)
    rw [fr, fr]
    omega
theorem yjm_RE1 {g g1 : yM} {r1 : Int} (hJ : yJnv g)  (a0 : (r1 = -5 ∧ g 4 5 = g 4 6) ∨ (r1 = g 4 6 - (g 4 5 + 1) ∧ g 4 5 < g 4 6)) (a1 : g 4 5 = g 4 6 → g1 = g) (a2 : g 4 5 < g 4 6 → yTy zpZ g1 ∧ ∃ M, yWz (ysv g (g 19 (Int.toNat (g 4 5))) (g 20 (Int.toNat (g 4 5))) (g 22 (Int.toNat (g 4 5)))) M ∧ g1 = yset M 4 5 (g 4 5 + 1)) : ∀ k : Nat, k < 40 → 0 ≤ g1 92 k ∧ g1 92 k < 53 := by
  obtain ⟨⟨d1, d2, d3, d4, d5⟩, hE⟩ := hJ.2.2.2.2.1
  intro q hq
  by_cases h0 : g 4 5 = g 4 6
  · rw [a1 h0]
    have := hJ.1.1.fA (j := q) (List.mem_of_getElem? (i := 44) rfl) hq
    omega
  · obtain ⟨t1, M, s1, e⟩ := a2 (by omega)
    have u : g1 92 q = g 92 q := by
      rw [e, yset_nc (by decide), s1.1 92 q (by omega)]
      exact ysv_nc (hE (Int.toNat (g 4 5)) (by omega)).1 (by omega)
    rw [u]
    have := hJ.1.1.fA (j := q) (List.mem_of_getElem? (i := 44) rfl) hq
    omega
theorem yj_RE {g g1 g2 : yM} {r1 r2 : Int} (hJ : yJnv g)  (a0 : (r1 = -5 ∧ g 4 5 = g 4 6) ∨ (r1 = g 4 6 - (g 4 5 + 1) ∧ g 4 5 < g 4 6)) (a1 : g 4 5 = g 4 6 → g1 = g) (a2 : g 4 5 < g 4 6 → yTy zpZ g1 ∧ ∃ M, yWz (ysv g (g 19 (Int.toNat (g 4 5))) (g 20 (Int.toNat (g 4 5))) (g 22 (Int.toNat (g 4 5)))) M ∧ g1 = yset M 4 5 (g 4 5 + 1)) (b0 : (r2 = -5 ∧ g1 90 5 = g1 90 4) ∨ (r2 = g1 90 4 - (g1 90 5 + 1) ∧ g1 90 5 < g1 90 4)) (b1 : g1 90 5 = g1 90 4 → g2 = g1) (b2 : g1 90 5 < g1 90 4 → g2 = yset (yset g1 91 (Int.toNat (g1 92 (Int.toNat (g1 90 5)))) (g1 94 (Int.toNat (g1 90 5)))) 90 5 (g1 90 5 + 1)) : yJnv g2 ∧ r1 = r2 := by
  obtain ⟨⟨d1, d2, d3, d4, d5⟩, hE⟩ := hJ.2.2.2.2.1
  by_cases h0 : g 4 5 = g 4 6
  · have e := a1 h0
    subst e
    rw [b1 (by omega)]
    exact ⟨hJ, by omega⟩
  · obtain ⟨k1, k2, k3, k4, k5, k6⟩ := hE (Int.toNat (g 4 5)) (by omega)
    obtain ⟨t1, M, s1, e⟩ := a2 (by omega)
    have fr : ∀ x j : Nat, 90 ≤ x → g1 x j = g x j := fun x j hx => by
      rw [e, yset_nc (by omega), s1.1 x j (by omega), ysv_nc k1 (by omega)]
    have f5 : g1 90 5 = g 4 5 := by rw [fr 90 5 (by decide)]; exact d1
    have f4 : g1 90 4 = g 4 6 := by rw [fr 90 4 (by decide)]; exact d2
    have eM := b2 (by omega)
    rw [f5, fr 92 _ (by decide), fr 94 _ (by decide), k2, k4] at eM
    have cb := ycod_b k1
    have hb22 := hJ.1.1.fA (j := Int.toNat (g 4 5)) (List.mem_of_getElem? (i := 21) rfl) (by omega)
    refine ⟨yj_put (dn := g 4 5 + 1) hJ k1 k6 ⟨by omega, by omega⟩ ?_ ?_ ?_ ?_ (fun j => ?_) (fun k' o' hk' => ?_), by omega⟩
    · rw [eM]
      refine yTy.sO ?_ (List.mem_of_getElem? (i := 42) rfl) rfl (by decide +kernel) ⟨by omega, by omega⟩
      exact t1.sA (List.mem_of_getElem? (i := 43) rfl) (by decide +kernel) hb22
    · rw [eM]
      refine yUn.st (yUn.st ?_ ⟨(91, 91, 0, 0), by decide, by decide, by decide, Or.inl rfl⟩) ⟨(90, 90, 1, 5), by decide, by decide, by decide, Or.inr rfl⟩
      rw [e]
      refine yUn.st ?_ ⟨(4, 4, 1, 5), by decide, by decide, by decide, Or.inr rfl⟩
      exact yUn.cat ((ysv_un k1).sub (by decide +kernel)) s1.un (by decide +kernel)
    · rw [eM, yset_nc (by decide), yset_nc (by decide), e, yset_eq]
    · rw [eM, yset_eq]
    · rw [eM, yset_nc (by decide)]
      by_cases hj : j = Int.toNat (ycod (g 19 (Int.toNat (g 4 5))) (g 20 (Int.toNat (g 4 5))))
      · rw [if_pos hj, ← hj, yset_eq]
      · rw [if_neg hj, yset_nj hj, fr 91 j (by decide)]
    · have hq := hk'.b
      have e1 : ykv g2 k' o' = ykv M k' o' := by
        rw [eM, e]
        exact ykv.mono (fun h0 => by have := hq h0; rw [yset_nc (by omega), yset_nc (by omega), yset_nc (by omega)]) (fun j => by rw [yset_nc (by decide), yset_nc (by decide), yset_nc (by decide)]) (fun j => by rw [yset_nc (by decide), yset_nc (by decide), yset_nc (by decide)]) (by rw [yset_nc (by decide), yset_nc (by decide), yset_nc (by decide)])
      rw [e1, ysv_val k1 s1 hk']
theorem yfdc_ty {v : Int} : ∀ (n : Nat) (g : yM), yTy zpZ g → 0 ≤ g 2 2 → g 2 2 + n ≤ 60 → yTy zpZ (yfd 2 2 18 (ybc v) n g)
  | 0, g, h, _, _ => h
  | n + 1, g, h, h0, h1 => by
    have ih := yfdc_ty (v := v) n g h h0 (by omega)
    have hf := yfd_f (q := 2) (f := 2) (t := 18) (b := ybc v) n g
    have hb : -128 ≤ ybc v n ∧ ybc v n ≤ 127 := by
      unfold ybc
      have a := Int.le_bmod (x := yb (fun x y => (x.toUInt32 >>> (y.toUInt32 &&& Int32.toUInt32 31)).toInt32) v (8 * (n : Int))) (m := 256) (by decide)
      have b := Int.bmod_lt (x := yb (fun x y => (x.toUInt32 >>> (y.toUInt32 &&& Int32.toUInt32 31)).toInt32) v (8 * (n : Int))) (m := 256) (by decide)
      omega
    unfold yfd
    refine yTy.sO ?_ (List.mem_of_getElem? (i := 2) rfl) rfl (by decide +kernel) ⟨by omega, by omega⟩
    refine ih.upA (k := 2) (List.mem_of_getElem? (i := 17) rfl) (Or.inr rfl) (by decide +kernel) (fun a b hab => yset_nc hab) (fun j hj => ?_)
    by_cases e : j = Int.toNat (yfd 2 2 18 (ybc v) n g 2 2)
    · rw [e, yset_eq]
      exact hb
    · rw [yset_nj e]
      obtain ⟨gh, hg, hT⟩ := ih
      exact hT _ (List.mem_of_getElem? (i := 17) rfl) 18 (Nat.le_refl _) (Nat.le_refl _) j (0, -128, 127) hj rfl
theorem yfdm_ty {v : Int} (hv : -2147483648 ≤ v ∧ v ≤ 2147483647) : ∀ (n : Nat) (g : yM), yTy zpZ g → 0 ≤ g 90 13 → g 90 13 + n ≤ 60 → yTy zpZ (yfd 90 13 98 (ybm v) n g)
  | 0, g, h, _, _ => h
  | n + 1, g, h, h0, h1 => by
    have ih := yfdm_ty hv n g h h0 (by omega)
    have hf := yfd_f (q := 90) (f := 13) (t := 98) (b := ybm v) n g
    have hb : 0 ≤ ybm v n ∧ ybm v n ≤ 255 := by
      unfold ybm
      rw [yand255 (yb_rng (fun x y => x >>> (y &&& 31)) v (8 * (n : Int)))]
      omega
    unfold yfd
    refine yTy.sO ?_ (List.mem_of_getElem? (i := 42) rfl) rfl (by decide +kernel) ⟨by omega, by omega⟩
    exact ih.sA (List.mem_of_getElem? (i := 50) rfl) (by decide +kernel) hb
theorem yjc_FE0 {g : yM} (hJ : yJnv g) : 0 ≤ g 2 2 ∧ g 2 2 ≤ 60 := by
  have h := hJ.2.1.2.1
  omega
theorem yjm_FE0 {g g1 : yM} {n v r1 : Int} (hJ : yJnv g)  (a0 : (r1 = -1 ∧ ¬ (1 ≤ n ∧ n ≤ 4)) ∨ ((1 ≤ n ∧ n ≤ 4) ∧ ((r1 = -3 ∧ 60 < g 2 2 + n) ∨ (r1 = g 2 2 + n ∧ g 2 2 + n ≤ 60)))) (a1 : r1 < 0 → g1 = g) (a2 : 0 ≤ r1 → g1 = yfd 2 2 18 (ybc v) (Int.toNat n) g) (a3 : -2147483648 ≤ v ∧ v ≤ 2147483647) : 0 ≤ g1 90 13 ∧ g1 90 13 ≤ 60 := by
  have fr : ∀ x j : Nat, x ≠ 2 → x ≠ 18 → g1 x j = g x j := fun x j hx hy => by
    by_cases h : r1 < 0
    · rw [a1 h]
    · rw [a2 (by omega)]
      exact yfd_nc ⟨hy, fun z => hx z.1⟩ _ _
  rw [fr 90 13 (by decide) (by decide)]
  have h := hJ.2.1
  have h1 := h.1
  have h2 := h.2.1
  omega
theorem yj_FE {g g1 g2 : yM} {n v r1 r2 : Int} (hJ : yJnv g)  (a0 : (r1 = -1 ∧ ¬ (1 ≤ n ∧ n ≤ 4)) ∨ ((1 ≤ n ∧ n ≤ 4) ∧ ((r1 = -3 ∧ 60 < g 2 2 + n) ∨ (r1 = g 2 2 + n ∧ g 2 2 + n ≤ 60)))) (a1 : r1 < 0 → g1 = g) (a2 : 0 ≤ r1 → g1 = yfd 2 2 18 (ybc v) (Int.toNat n) g) (a3 : -2147483648 ≤ v ∧ v ≤ 2147483647) (b0 : (r2 = -1 ∧ ¬ (1 ≤ n ∧ n ≤ 4)) ∨ ((1 ≤ n ∧ n ≤ 4) ∧ ((r2 = -3 ∧ 60 < g1 90 13 + n) ∨ (r2 = g1 90 13 + n ∧ g1 90 13 + n ≤ 60)))) (b1 : r2 < 0 → g2 = g1) (b2 : 0 ≤ r2 → g2 = yfd 90 13 98 (ybm v) (Int.toNat n) g1) (b3 : -2147483648 ≤ v ∧ v ≤ 2147483647) : yJnv g2 ∧ r1 = r2 := by
  have fr : ∀ x j : Nat, x ≠ 2 → x ≠ 18 → g1 x j = g x j := fun x j hx hy => by
    by_cases h : r1 < 0
    · rw [a1 h]
    · rw [a2 (by omega)]
      exact yfd_nc ⟨hy, fun z => hx z.1⟩ _ _
  obtain ⟨l1, l2, l3⟩ := hJ.2.1
  rw [fr 90 13 (by decide) (by decide), l1] at b0
  by_cases h : r1 < 0
  · have e := a1 h
    subst e
    rw [b1 (by omega)]
    exact ⟨hJ, by omega⟩
  · have e := a2 (by omega)
    have f := b2 (by omega)
    have hn : 1 ≤ n ∧ n ≤ 4 ∧ g 2 2 + n ≤ 60 := by omega
    refine ⟨?_, by omega⟩
    have nn : ((Int.toNat n : Nat) : Int) = n := by omega
    have t1 : yTy zpZ g1 := by rw [e]; exact yfdc_ty _ _ hJ.1.1 l2.1 (by omega)
    have g13 : g1 90 13 = g 2 2 := by rw [fr 90 13 (by decide) (by decide)]; exact l1
    have t2 : yTy zpZ g2 := by rw [f]; exact yfdm_ty a3 _ _ t1 (by omega) (by omega)
    have nc : ∀ x j : Nat, x ≠ 2 → x ≠ 18 → x ≠ 98 → ¬ (x = 90 ∧ j = 13) → g2 x j = g x j := fun x j h1 h2 h3 h4 => by
      rw [f, yfd_nc ⟨h3, h4⟩, fr x j h1 h2]
    have u : yUn [(2, 2, 1, 2), (18, 18, 0, 0), (98, 98, 0, 0), (90, 90, 1, 13)] g g2 := fun x j hn => by
      have n1 : ¬ (x = 2 ∧ j = 2) := fun z => hn (2, 2, 1, 2) (by decide) (by rw [z.1, z.2]; exact ⟨by decide, by decide, Or.inr rfl⟩)
      have n2 : x ≠ 18 := fun z => hn (18, 18, 0, 0) (by decide) (by rw [z]; exact ⟨by decide, by decide, Or.inl rfl⟩)
      have n3 : x ≠ 98 := fun z => hn (98, 98, 0, 0) (by decide) (by rw [z]; exact ⟨by decide, by decide, Or.inl rfl⟩)
      have n4 : ¬ (x = 90 ∧ j = 13) := fun z => hn (90, 90, 1, 13) (by decide) (by rw [z.1, z.2]; exact ⟨by decide, by decide, Or.inr rfl⟩)
      rw [f, yfd_nc ⟨n3, n4⟩, e, yfd_nc ⟨n2, n1⟩]
    obtain ⟨-, hVc, hVv, hVh, hVd⟩ := hJ.2
    have g22 : g2 2 2 = g 2 2 + n := by
      rw [f, yfd_nc ⟨by decide, by decide⟩, e, yfd_f]
      omega
    refine ⟨⟨t2, hJ.1.2.mono (u.eq (by decide +kernel))⟩, ⟨?_, by omega, fun j hj => ?_⟩, hVc.mono (u.eq (by decide +kernel)), hVv.mono (u.eq (by decide +kernel)), hVh.mono (u.eq (by decide +kernel)), hVd.mono (u.eq (by decide +kernel))⟩
    · rw [g22, f, yfd_f, g13]
      omega
    · rw [g22] at hj
      have c1 := yfd_t (q := 90) (f := 13) (t := 98) (b := ybm v) (by decide) (Int.toNat n) g1 (by omega) j
      have c2 := yfd_t (q := 2) (f := 2) (t := 18) (b := ybc v) (by decide) (Int.toNat n) g l2.1 j
      rw [← f, g13] at c1
      have d18 : g2 18 j = g1 18 j := by rw [f]; exact yfd_nc ⟨by decide, by omega⟩ _ _
      rw [← e] at c2
      rw [c1, d18, c2]
      by_cases hh : Int.toNat (g 2 2) ≤ j ∧ j < Int.toNat (g 2 2) + Int.toNat n
      · rw [if_pos hh, if_pos hh]
        exact ybcm a3 (by omega)
      · rw [if_neg hh, if_neg hh, fr 98 j (by decide) (by decide)]
        exact l3 j (by omega)
theorem yjc_ST0 {g : yM} (hJ : yJnv g) : 0 ≤ g 1 1 ∧ g 1 1 ≤ 40 := by
  exact hJ.1.1.sz
theorem yjm_ST0 {g g1 : yM} {w v r1 : Int} (hJ : yJnv g)  (a0 : (r1 = -1 ∧ ¬ (0 ≤ w ∧ w < g 1 1 ∧ -1 ≤ v ∧ v ≤ 719)) ∨ (r1 = 1 ∧ (0 ≤ w ∧ w < g 1 1 ∧ -1 ≤ v ∧ v ≤ 719))) (a1 : r1 ≠ 1 → g1 = g) (a2 : r1 = 1 → g1 = yset g (50 + Int.toNat w) 8 v) : 0 ≤ g1 90 22 ∧ g1 90 22 ≤ 40 := by
  have fr : ∀ x j : Nat, x < 50 ∨ 89 < x ∨ j ≠ 8 → g1 x j = g x j := fun x j hx => by
    have hz := hJ.1.1.sz
    by_cases h : r1 = 1
    · rw [a2 h]
      exact yset_ne (by omega)
    · rw [a1 h]
  rw [fr 90 22 (by omega)]
  have h := hJ.2.2.1
  have h1 := h.1
  have h2 := h.2.1
  omega
theorem yj_ST {g g1 g2 : yM} {w v r1 r2 : Int} (hJ : yJnv g)  (a0 : (r1 = -1 ∧ ¬ (0 ≤ w ∧ w < g 1 1 ∧ -1 ≤ v ∧ v ≤ 719)) ∨ (r1 = 1 ∧ (0 ≤ w ∧ w < g 1 1 ∧ -1 ≤ v ∧ v ≤ 719))) (a1 : r1 ≠ 1 → g1 = g) (a2 : r1 = 1 → g1 = yset g (50 + Int.toNat w) 8 v) (b0 : (r2 = -1 ∧ ¬ (0 ≤ w ∧ w < g1 90 22 ∧ -1 ≤ v ∧ v ≤ 719)) ∨ (r2 = 1 ∧ (0 ≤ w ∧ w < g1 90 22 ∧ -1 ≤ v ∧ v ≤ 719))) (b1 : r2 ≠ 1 → g2 = g1) (b2 : r2 = 1 → g2 = yset g1 108 (Int.toNat w) v) : yJnv g2 ∧ r1 = r2 := by
  have fr : ∀ x j : Nat, x < 50 ∨ 89 < x ∨ j ≠ 8 → g1 x j = g x j := fun x j hx => by
    have hz := hJ.1.1.sz
    by_cases h : r1 = 1
    · rw [a2 h]
      exact yset_ne (by omega)
    · rw [a1 h]
  have hc := hJ.2.2.1.1
  have hz := hJ.1.1.sz
  rw [fr 90 22 (by omega), hc] at b0
  by_cases h : r1 = 1
  · have e := a2 h
    have f := b2 (by omega)
    have hw : 0 ≤ w ∧ w < g 1 1 ∧ -1 ≤ v ∧ v ≤ 719 := by omega
    refine ⟨?_, by omega⟩
    have nc : ∀ x j : Nat, ¬ (x = 108 ∧ j = Int.toNat w) ∧ ¬ (x = 50 + Int.toNat w ∧ j = 8) → g2 x j = g x j := fun x j h => by
      rw [f, e, yset_ne h.1, yset_ne h.2]
    have u : yUn [(108, 108, 0, 0), (50, 89, 1, 8)] g g2 := by
      rw [f, e]
      exact yUn.st (yUn.st yUn.rf ⟨(50, 89, 1, 8), by decide, by show (50 : Int) ≤ (50 + Int.toNat w : Nat); omega, by show ((50 + Int.toNat w : Nat) : Int) ≤ 89; omega, Or.inr rfl⟩) ⟨(108, 108, 0, 0), by decide, by decide, by decide, Or.inl rfl⟩
    have t2 : yTy zpZ g2 := by
      rw [f, e]
      refine yTy.sA ?_ (List.mem_of_getElem? (i := 60) rfl) (by decide +kernel) ⟨by omega, by omega⟩
      exact hJ.1.1.sR (List.mem_of_getElem? (i := 41) rfl) (by omega) (by omega) rfl (by omega) ⟨by omega, by omega⟩
    obtain ⟨hVt, ⟨c1, c2, c3⟩, hVv, hVh, hVd⟩ := hJ.2
    refine ⟨⟨t2, hJ.1.2.mono (u.eq (by decide +kernel))⟩, hVt.mono (u.eq (by decide +kernel)), ⟨?_, ?_, fun i hi => ?_⟩, hVv.mono (u.eq (by decide +kernel)), hVh.mono (u.eq (by decide +kernel)), hVd.mono (u.eq (by decide +kernel))⟩
    · rw [nc 90 22 (by omega), nc 1 1 (by omega)]
      exact c1
    · rw [nc 1 1 (by omega)]
      exact c2
    · rw [nc 1 1 (by omega)] at hi
      have q := c3 i hi
      rw [nc 101 i (by omega), nc 102 i (by omega), nc 103 i (by omega), nc 104 i (by omega), nc 105 i (by omega), nc 106 i (by omega), nc 107 i (by omega), nc (50 + i) 0 (by omega), nc (50 + i) 2 (by omega), nc (50 + i) 3 (by omega), nc (50 + i) 4 (by omega), nc (50 + i) 5 (by omega), nc (50 + i) 6 (by omega), nc (50 + i) 7 (by omega)]
      by_cases hh : i = Int.toNat w
      · have e1 : g2 108 i = v := by rw [f, hh, yset_eq]
        have e2 : g2 (50 + i) 8 = v := by rw [f, e, hh, yset_nc (by omega), yset_eq]
        rw [e1, e2]
        exact ⟨⟨q.1.1, q.1.2.1, q.1.2.2.1, q.1.2.2.2.1, q.1.2.2.2.2.1, q.1.2.2.2.2.2.1, q.1.2.2.2.2.2.2.1, rfl⟩, ⟨q.2.1, q.2.2.1, q.2.2.2.1, q.2.2.2.2.1, q.2.2.2.2.2.1, q.2.2.2.2.2.2.1, q.2.2.2.2.2.2.2.1, ⟨by omega, by omega⟩⟩⟩
      · rw [nc 108 i (by omega), nc (50 + i) 8 (by omega)]
        exact q
  · have e := a1 h
    subst e
    rw [b1 (by omega)]
    exact ⟨hJ, by omega⟩
theorem yjc_AW0 {g : yM} (hJ : yJnv g) : yTy zpZ g := by
  exact hJ.1.1
theorem yjc_AW1 {g : yM} (hJ : yJnv g) : 0 ≤ g 1 7 ∧ g 1 7 ≤ 12 := by
  have h := hJ.2.2.2.2.2.1
  omega
theorem yjm_AW0 {g g1 : yM} {d v r1 : Int} (hJ : yJnv g)  (a0 : ¬ (0 ≤ d ∧ d < 4 ∧ 0 ≤ v ∧ 0 ≤ (yb (fun x y => x - x / y * y) v 1000) ∧ (yb (fun x y => x - x / y * y) v 1000) < 720 ∧ 0 ≤ (yb (fun x y => x / y) v 1000) ∧ (yb (fun x y => x / y) v 1000) ≤ (yb (fun x y => x - x / y * y) v 1000)) → r1 = -1 ∧ g1 = g) (a1 : (0 ≤ d ∧ d < 4 ∧ 0 ≤ v ∧ 0 ≤ (yb (fun x y => x - x / y * y) v 1000) ∧ (yb (fun x y => x - x / y * y) v 1000) < 720 ∧ 0 ≤ (yb (fun x y => x / y) v 1000) ∧ (yb (fun x y => x / y) v 1000) ≤ (yb (fun x y => x - x / y * y) v 1000)) → g 1 7 = 12 → r1 = -3 ∧ g1 = g) (a2 : (0 ≤ d ∧ d < 4 ∧ 0 ≤ v ∧ 0 ≤ (yb (fun x y => x - x / y * y) v 1000) ∧ (yb (fun x y => x - x / y * y) v 1000) < 720 ∧ 0 ≤ (yb (fun x y => x / y) v 1000) ∧ (yb (fun x y => x / y) v 1000) ≤ (yb (fun x y => x - x / y * y) v 1000)) → g 1 7 < 12 → r1 = g 1 7 + 1 ∧ yTy zpZ g1 ∧ yWz (yaw 1 7 15 16 17 g d (yb (fun x y => x / y) v 1000) (yb (fun x y => x - x / y * y) v 1000)) g1) : yTy zpZ g1 := by
  have hz := hJ.2.2.2.2.2.1
  have fr : ∀ x j : Nat, 90 ≤ x → g1 x j = g x j := fun x j hx => by
    by_cases ok : (0 ≤ d ∧ d < 4 ∧ 0 ≤ v ∧ 0 ≤ (yb (fun x y => x - x / y * y) v 1000) ∧ (yb (fun x y => x - x / y * y) v 1000) < 720 ∧ 0 ≤ (yb (fun x y => x / y) v 1000) ∧ (yb (fun x y => x / y) v 1000) ≤ (yb (fun x y => x - x / y * y) v 1000))
    · by_cases h : g 1 7 = 12
      · rw [(a1 ok h).2]
      · rw [(a2 ok (by omega)).2.2.1 x j (by omega)]
        exact yaw_nc ⟨by omega, by omega, by omega, by omega⟩
    · rw [(a0 ok).2]
  by_cases ok : (0 ≤ d ∧ d < 4 ∧ 0 ≤ v ∧ 0 ≤ (yb (fun x y => x - x / y * y) v 1000) ∧ (yb (fun x y => x - x / y * y) v 1000) < 720 ∧ 0 ≤ (yb (fun x y => x / y) v 1000) ∧ (yb (fun x y => x / y) v 1000) ≤ (yb (fun x y => x - x / y * y) v 1000))
  · by_cases h : g 1 7 = 12
    · rw [(a1 ok h).2]
      exact hJ.1.1
    · exact (a2 ok (by omega)).2.1
  · rw [(a0 ok).2]
    exact hJ.1.1
theorem yjm_AW1 {g g1 : yM} {d v r1 : Int} (hJ : yJnv g)  (a0 : ¬ (0 ≤ d ∧ d < 4 ∧ 0 ≤ v ∧ 0 ≤ (yb (fun x y => x - x / y * y) v 1000) ∧ (yb (fun x y => x - x / y * y) v 1000) < 720 ∧ 0 ≤ (yb (fun x y => x / y) v 1000) ∧ (yb (fun x y => x / y) v 1000) ≤ (yb (fun x y => x - x / y * y) v 1000)) → r1 = -1 ∧ g1 = g) (a1 : (0 ≤ d ∧ d < 4 ∧ 0 ≤ v ∧ 0 ≤ (yb (fun x y => x - x / y * y) v 1000) ∧ (yb (fun x y => x - x / y * y) v 1000) < 720 ∧ 0 ≤ (yb (fun x y => x / y) v 1000) ∧ (yb (fun x y => x / y) v 1000) ≤ (yb (fun x y => x - x / y * y) v 1000)) → g 1 7 = 12 → r1 = -3 ∧ g1 = g) (a2 : (0 ≤ d ∧ d < 4 ∧ 0 ≤ v ∧ 0 ≤ (yb (fun x y => x - x / y * y) v 1000) ∧ (yb (fun x y => x - x / y * y) v 1000) < 720 ∧ 0 ≤ (yb (fun x y => x / y) v 1000) ∧ (yb (fun x y => x / y) v 1000) ≤ (yb (fun x y => x - x / y * y) v 1000)) → g 1 7 < 12 → r1 = g 1 7 + 1 ∧ yTy zpZ g1 ∧ yWz (yaw 1 7 15 16 17 g d (yb (fun x y => x / y) v 1000) (yb (fun x y => x - x / y * y) v 1000)) g1) : 0 ≤ g1 90 6 ∧ g1 90 6 ≤ 12 := by
  have hz := hJ.2.2.2.2.2.1
  have fr : ∀ x j : Nat, 90 ≤ x → g1 x j = g x j := fun x j hx => by
    by_cases ok : (0 ≤ d ∧ d < 4 ∧ 0 ≤ v ∧ 0 ≤ (yb (fun x y => x - x / y * y) v 1000) ∧ (yb (fun x y => x - x / y * y) v 1000) < 720 ∧ 0 ≤ (yb (fun x y => x / y) v 1000) ∧ (yb (fun x y => x / y) v 1000) ≤ (yb (fun x y => x - x / y * y) v 1000))
    · by_cases h : g 1 7 = 12
      · rw [(a1 ok h).2]
      · rw [(a2 ok (by omega)).2.2.1 x j (by omega)]
        exact yaw_nc ⟨by omega, by omega, by omega, by omega⟩
    · rw [(a0 ok).2]
  rw [fr 90 6 (by decide)]
  omega
theorem yj_AW {g g1 g2 : yM} {d v r1 r2 : Int} (hJ : yJnv g)  (a0 : ¬ (0 ≤ d ∧ d < 4 ∧ 0 ≤ v ∧ 0 ≤ (yb (fun x y => x - x / y * y) v 1000) ∧ (yb (fun x y => x - x / y * y) v 1000) < 720 ∧ 0 ≤ (yb (fun x y => x / y) v 1000) ∧ (yb (fun x y => x / y) v 1000) ≤ (yb (fun x y => x - x / y * y) v 1000)) → r1 = -1 ∧ g1 = g) (a1 : (0 ≤ d ∧ d < 4 ∧ 0 ≤ v ∧ 0 ≤ (yb (fun x y => x - x / y * y) v 1000) ∧ (yb (fun x y => x - x / y * y) v 1000) < 720 ∧ 0 ≤ (yb (fun x y => x / y) v 1000) ∧ (yb (fun x y => x / y) v 1000) ≤ (yb (fun x y => x - x / y * y) v 1000)) → g 1 7 = 12 → r1 = -3 ∧ g1 = g) (a2 : (0 ≤ d ∧ d < 4 ∧ 0 ≤ v ∧ 0 ≤ (yb (fun x y => x - x / y * y) v 1000) ∧ (yb (fun x y => x - x / y * y) v 1000) < 720 ∧ 0 ≤ (yb (fun x y => x / y) v 1000) ∧ (yb (fun x y => x / y) v 1000) ≤ (yb (fun x y => x - x / y * y) v 1000)) → g 1 7 < 12 → r1 = g 1 7 + 1 ∧ yTy zpZ g1 ∧ yWz (yaw 1 7 15 16 17 g d (yb (fun x y => x / y) v 1000) (yb (fun x y => x - x / y * y) v 1000)) g1) (b0 : ¬ (0 ≤ d ∧ d < 4 ∧ 0 ≤ v ∧ 0 ≤ (yb (fun x y => x - x / y * y) v 1000) ∧ (yb (fun x y => x - x / y * y) v 1000) < 720 ∧ 0 ≤ (yb (fun x y => x / y) v 1000) ∧ (yb (fun x y => x / y) v 1000) ≤ (yb (fun x y => x - x / y * y) v 1000)) → r2 = -1 ∧ g2 = g1) (b1 : (0 ≤ d ∧ d < 4 ∧ 0 ≤ v ∧ 0 ≤ (yb (fun x y => x - x / y * y) v 1000) ∧ (yb (fun x y => x - x / y * y) v 1000) < 720 ∧ 0 ≤ (yb (fun x y => x / y) v 1000) ∧ (yb (fun x y => x / y) v 1000) ≤ (yb (fun x y => x - x / y * y) v 1000)) → g1 90 6 = 12 → r2 = -3 ∧ g2 = g1) (b2 : (0 ≤ d ∧ d < 4 ∧ 0 ≤ v ∧ 0 ≤ (yb (fun x y => x - x / y * y) v 1000) ∧ (yb (fun x y => x - x / y * y) v 1000) < 720 ∧ 0 ≤ (yb (fun x y => x / y) v 1000) ∧ (yb (fun x y => x / y) v 1000) ≤ (yb (fun x y => x - x / y * y) v 1000)) → g1 90 6 < 12 → r2 = g1 90 6 + 1 ∧ g2 = yaw 90 6 95 96 97 g1 d (yb (fun x y => x / y) v 1000) (yb (fun x y => x - x / y * y) v 1000)) : yJnv g2 ∧ r1 = r2 := by
  have hz := hJ.2.2.2.2.2.1
  have fr : ∀ x j : Nat, 90 ≤ x → g1 x j = g x j := fun x j hx => by
    by_cases ok : (0 ≤ d ∧ d < 4 ∧ 0 ≤ v ∧ 0 ≤ (yb (fun x y => x - x / y * y) v 1000) ∧ (yb (fun x y => x - x / y * y) v 1000) < 720 ∧ 0 ≤ (yb (fun x y => x / y) v 1000) ∧ (yb (fun x y => x / y) v 1000) ≤ (yb (fun x y => x - x / y * y) v 1000))
    · by_cases h : g 1 7 = 12
      · rw [(a1 ok h).2]
      · rw [(a2 ok (by omega)).2.2.1 x j (by omega)]
        exact yaw_nc ⟨by omega, by omega, by omega, by omega⟩
    · rw [(a0 ok).2]
  have f6 : g1 90 6 = g 1 7 := by rw [fr 90 6 (by decide)]; exact hz.1
  by_cases ok : (0 ≤ d ∧ d < 4 ∧ 0 ≤ v ∧ 0 ≤ (yb (fun x y => x - x / y * y) v 1000) ∧ (yb (fun x y => x - x / y * y) v 1000) < 720 ∧ 0 ≤ (yb (fun x y => x / y) v 1000) ∧ (yb (fun x y => x / y) v 1000) ≤ (yb (fun x y => x - x / y * y) v 1000))
  · by_cases h : g 1 7 = 12
    · have e := a1 ok h
      have m := b1 ok (by omega)
      rw [m.2, e.2]
      exact ⟨hJ, by rw [e.1, m.1]⟩
    · obtain ⟨p1, p2, p3⟩ := a2 ok (by omega)
      obtain ⟨q1, q2⟩ := b2 ok (by omega)
      refine ⟨?_, by rw [p1, q1, f6]⟩
      have y1 := yb_rng (fun x y => x / y) v 1000
      have y2 := yb_rng (fun x y => x - x / y * y) v 1000
      have t2 : yTy zpZ g2 := by
        rw [q2]
        exact yawm_ty p2 (by omega) ⟨by omega, by omega⟩ y1 y2
      have nc : ∀ x j : Nat, ¬ (15 ≤ x ∧ x ≤ 17) ∧ ¬ (95 ≤ x ∧ x ≤ 97) ∧ ¬ (x = 1 ∧ j = 7) ∧ ¬ (x = 90 ∧ j = 6) ∧ ¬ ((50 ≤ x ∧ x ≤ 89) ∧ (9 ≤ j ∧ j ≤ 11)) → g2 x j = g x j := fun x j h => by
        rw [q2, yaw_nc ⟨by omega, by omega, by omega, by omega⟩, p3.1 x j (by omega)]
        exact yaw_nc ⟨by omega, by omega, by omega, by omega⟩
      have u : yUn ([(15, 17, 0, 0), (95, 97, 0, 0), (1, 1, 1, 7), (90, 90, 1, 6)] ++ yWSs) g g2 := by
        rw [q2]
        unfold yaw
        refine yUn.st (yUn.st (yUn.st (yUn.st ?_ ⟨(95, 97, 0, 0), by decide, by decide, by decide, Or.inl rfl⟩) ⟨(95, 97, 0, 0), by decide, by decide, by decide, Or.inl rfl⟩) ⟨(95, 97, 0, 0), by decide, by decide, by decide, Or.inl rfl⟩) ⟨(90, 90, 1, 6), by decide, by decide, by decide, Or.inr rfl⟩
        refine yUn.cat (yUn.sub (wr2 := [(15, 17, 0, 0), (1, 1, 1, 7)]) ?_ (by decide +kernel)) p3.un (by decide +kernel)
        unfold yaw
        exact yUn.st (yUn.st (yUn.st (yUn.st yUn.rf ⟨(15, 17, 0, 0), by decide, by decide, by decide, Or.inl rfl⟩) ⟨(15, 17, 0, 0), by decide, by decide, by decide, Or.inl rfl⟩) ⟨(15, 17, 0, 0), by decide, by decide, by decide, Or.inl rfl⟩) ⟨(1, 1, 1, 7), by decide, by decide, by decide, Or.inr rfl⟩
      obtain ⟨hVt, hVc, hVv, hVh, d1, d2, d3, d4⟩ := hJ.2
      refine ⟨⟨t2, hJ.1.2.mono (u.eq (by decide +kernel))⟩, hVt.mono (u.eq (by decide +kernel)), hVc.mono (u.eq (by decide +kernel)), hVv.mono (u.eq (by decide +kernel)), hVh.mono (u.eq (by decide +kernel)), ?_, ?_, ?_, fun j hj => ?_⟩
      · have e1 : g2 90 6 = g 1 7 + 1 := by rw [q2]; unfold yaw; rw [yset_eq, f6]
        have e2 : g2 1 7 = g 1 7 + 1 := by rw [q2, yaw_nc ⟨by decide, by decide, by decide, by decide⟩, p3.1 1 7 (by omega)]; exact yset_eq
        omega
      · rw [nc 90 10 (by omega), nc 1 8 (by omega)]
        exact d2
      · rw [nc 90 11 (by omega), nc 1 10 (by omega)]
        exact d3
      · have e2 : g2 1 7 = g 1 7 + 1 := by rw [q2, yaw_nc ⟨by decide, by decide, by decide, by decide⟩, p3.1 1 7 (by omega)]; exact yset_eq
        rw [e2] at hj
        have c1 : ∀ x j : Nat, 15 ≤ x → x ≤ 17 → g2 x j = yaw 1 7 15 16 17 g d (yb (fun x y => x / y) v 1000) (yb (fun x y => x - x / y * y) v 1000) x j := fun x j h1 h2 => by rw [q2, yaw_nc ⟨by omega, by omega, by omega, by omega⟩, p3.1 x j (by omega)]
        rw [c1 15 j (by decide) (by decide), c1 16 j (by decide) (by decide), c1 17 j (by decide) (by decide), q2]
        unfold yaw
        rw [f6]
        by_cases hh : j = Int.toNat (g 1 7)
        · rw [hh]
          simp only [yset_nc, ne_eq, Nat.reduceEqDiff, not_false_eq_true, yset_eq]
          exact ⟨⟨trivial, trivial, trivial⟩, by omega⟩
        · have q := d4 j (by omega)
          simp only [yset_nj, hh, yset_nc, ne_eq, Nat.reduceEqDiff, not_false_eq_true]
          rw [fr 95 j (by decide), fr 96 j (by decide), fr 97 j (by decide)]
          exact q
  · have e := a0 ok
    have m := b0 ok
    rw [m.2, e.2]
    exact ⟨hJ, by rw [e.1, m.1]⟩
theorem yj_tx {g g1 g2 : yM} (hJ : yJnv g) (a0 : yTy zpZ g1) (a1 : g1 2 2 = 0) (a2 : yUn (zpC141.2.2.2.2 ++ [(2, 2, 1, 2)]) g g1) (b0 : yTy zpZ g2) (b1 : g2 90 13 = 0) (b2 : yUn (zpC591.2.2.2.2 ++ [(90, 90, 1, 13), (90, 90, 1, 15), (99, 99, 0, 0)]) g1 g2) : yJnv g2 := by
  have m1 : ∀ rs : zWr, ydj (zpC141.2.2.2.2 ++ [(2, 2, 1, 2)]) rs = true → ydj (zpC591.2.2.2.2 ++ [(90, 90, 1, 13), (90, 90, 1, 15), (99, 99, 0, 0)]) rs = true → yEq rs g g2 := fun rs h1 h2 q j hr => (b2.eq h2 q j hr).trans (a2.eq h1 q j hr)
  obtain ⟨hVt, hVc, hVv, hVh, hVd⟩ := hJ.2
  have e22 : g2 2 2 = 0 := by
    rw [(b2.eq (rs := [(2, 2, 1, 2)]) (by decide +kernel)).one (by decide)]
    exact a1
  refine ⟨⟨b0, hJ.1.2.mono (m1 _ (by decide +kernel) (by decide +kernel))⟩, ⟨by rw [b1, e22], by omega, fun k hk => by omega⟩, hVc.mono (m1 _ (by decide +kernel) (by decide +kernel)), hVv.mono (m1 _ (by decide +kernel) (by decide +kernel)), hVh.mono (m1 _ (by decide +kernel) (by decide +kernel)), hVd.mono (m1 _ (by decide +kernel) (by decide +kernel))⟩
