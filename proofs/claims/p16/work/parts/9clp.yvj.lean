/-! CHANGES ALIKE -/
/-- the cells that the second relation reads -/
def yRd (a b : Nat) : Prop := a = 1 ∨ a = 2 ∨ a = 4 ∨ (13 ≤ a ∧ a ≤ 22) ∨ (50 ≤ a ∧ a ≤ 89) ∨ (a = 90 ∧ b ≤ 22) ∨ (91 ≤ a ∧ a ≤ 108)
theorem yRd_of : ∀ r ∈ yrsV, (r.1 = 1 ∧ r.2.1 = 1) ∨ (r.1 = 2 ∧ r.2.1 = 2) ∨ (r.1 = 4 ∧ r.2.1 = 4) ∨ (13 ≤ r.1 ∧ r.2.1 ≤ 22) ∨ (50 ≤ r.1 ∧ r.2.1 ≤ 89) ∨ (r.1 = 90 ∧ r.2.1 = 90 ∧ r.2.2.1 ≠ 0 ∧ r.2.2.2 ≤ 22) ∨ (91 ≤ r.1 ∧ r.2.1 ≤ 108) := by decide +kernel
theorem yRV.mono' {g g' : yM} (h : yRV g) (e : ∀ a b : Nat, yRd a b → g' a b = g a b) : yRV g' := h.mono (fun a b ⟨r, hr, h1, h2, h3⟩ => e a b (by
  have := yRd_of r hr
  unfold yRd
  omega))
theorem ybec_un (g : yM) (w v : Int) : yUn [(91, 94, 0, 0), (90, 90, 1, 4), (90, 90, 1, 5)] g (ybec g w v) := fun a b hn => ybec_nc (by
  have n1 : ¬ (91 ≤ a ∧ a ≤ 94) := fun z => hn (91, 94, 0, 0) (by decide) ⟨by show (91 : Int) ≤ a; omega, by show (a : Int) ≤ 94; omega, Or.inl rfl⟩
  have n2 : ¬ (a = 90 ∧ b = 4) := fun z => hn (90, 90, 1, 4) (by decide) (by rw [z.1, z.2]; exact ⟨by decide, by decide, Or.inr rfl⟩)
  have n3 : ¬ (a = 90 ∧ b = 5) := fun z => hn (90, 90, 1, 5) (by decide) (by rw [z.1, z.2]; exact ⟨by decide, by decide, Or.inr rfl⟩)
  omega)
theorem ybec_91 {g : yM} {w v : Int} (j : Nat) : ybec g w v 91 j = if j = Int.toNat w then v else g 91 j := by
  unfold ybec ybf
  by_cases h : j = Int.toNat w
  · rw [if_pos h, h, yset_eq]
  · rw [if_neg h, yset_ne (fun z => h z.2), yset_nc (by decide), yset_nc (by decide), yset_nc (by decide), yset_nc (by decide), yset_nc (by decide), ybs_nc (by omega)]
theorem ybec_d {g : yM} {w v : Int} : ybec g w v 92 (Int.toNat (ybd g)) = w ∧ ybec g w v 93 (Int.toNat (ybd g)) = g 91 (Int.toNat w) ∧ ybec g w v 94 (Int.toNat (ybd g)) = v := by
  unfold ybec ybf
  refine ⟨?_, ?_, ?_⟩
  · rw [yset_nc (by decide), yset_nc (by decide), yset_nc (by decide), yset_nc (by decide), yset_nc (by decide), yset_eq]
  · rw [yset_nc (by decide), yset_nc (by decide), yset_nc (by decide), yset_nc (by decide), yset_eq]
  · rw [yset_nc (by decide), yset_nc (by decide), yset_nc (by decide), yset_eq]
theorem ybec_o {g : yM} {w v : Int} {a b : Nat} (h : 92 ≤ a ∧ a ≤ 94) (hb : b ≠ Int.toNat (ybd g)) : ybec g w v a b = ybs g a b := by
  unfold ybec ybf
  rw [yset_ne (by omega), yset_ne (by omega), yset_ne (by omega), yset_ne (by omega), yset_ne (by omega), yset_ne (by omega)]
theorem ybs_f {g : yM} (h : g 90 5 = 40) {a b : Nat} (ha : 92 ≤ a ∧ a ≤ 94) (hb : b < 39) : ybs g a b = g a (b + 1) := by
  unfold ybs
  rw [if_pos h, yset_nc (by omega), yshd_in ⟨ha, hb⟩]
theorem ybs_n {g : yM} (h : ¬ g 90 5 = 40) : ybs g = g := if_neg h
/-- what a change writes, and what it leaves -/
def yWCc : zWr := yWHs ++ (yWVs ++ yWSs)
theorem ydm_un (g : yM) : yUn yWHs g (ydm g) := by
  unfold ydm
  split
  · exact ydrp_un g
  · exact yUn.rf
theorem ymk_un {g g1 : yM} {k o v : Int} (hk : yok g k o) (hs : yWz (ymk g k o v) g1) : yUn yWCc g g1 := by
  have u1 : yUn yWHs g (ylog (ydm g) (ydn g) k o (ykv g k o) v) := ylog_un (ydm_un g)
  have e : ylog (ydm g) (ydn g) k o (ykv g k o) v 1 1 = g 1 1 := (u1.eq (rs := [(1, 1, 1, 1)]) (by decide +kernel)).one (by decide)
  have u2 := ysv_un (v := v) (hk.mono e)
  exact ((u1.sub (wr := yWCc) (by decide +kernel)).cat u2 (by decide +kernel)).cat hs.un (by decide +kernel)
theorem ymk_val {g g1 : yM} {k o v : Int} (hk : yok g k o) (hs : yWz (ymk g k o v) g1) {k' o' : Int} (hk' : yok g k' o') : ykv g1 k' o' = if k' = k ∧ o' = o then v else ykv g k' o' := by
  have u1 : yUn yWHs g (ylog (ydm g) (ydn g) k o (ykv g k o) v) := ylog_un (ydm_un g)
  have e : ylog (ydm g) (ydn g) k o (ykv g k o) v 1 1 = g 1 1 := (u1.eq (rs := [(1, 1, 1, 1)]) (by decide +kernel)).one (by decide)
  have hq := hk'.b
  have e1 : ykv g1 k' o' = ykv (ymk g k o v) k' o' := ykv.mono (fun h0 => hs.1 _ _ (by omega)) (fun j => hs.1 _ _ (by omega)) (fun j => hs.1 _ _ (by omega)) (hs.1 _ _ (by omega))
  have nc : ∀ a b : Nat, ¬ (19 ≤ a ∧ a ≤ 22) ∧ a ≠ 4 → ylog (ydm g) (ydn g) k o (ykv g k o) v a b = g a b := fun a b h => by
    rw [ylog_nc (by omega)]
    unfold ydm
    split
    · exact ydrp_nc (by omega)
    · rfl
  have e2 : ykv (ylog (ydm g) (ydn g) k o (ykv g k o) v) k' o' = ykv g k' o' := ykv.mono (fun h0 => nc _ _ (by have := hq h0; omega)) (fun j => nc _ _ (by omega)) (fun j => nc _ _ (by omega)) (nc _ _ (by omega))
  rw [e1]
  unfold ymk
  by_cases h : k' = k ∧ o' = o
  · rw [if_pos h, h.1, h.2]
    exact ysv_same (hk.mono e)
  · rw [if_neg h, ysv_other (hk.mono e) (hk'.mono e) (fun z => h ⟨z.1.symm, z.2.symm⟩), e2]
theorem ymk_log {g g1 : yM} {k o v : Int} (hk : yok g k o) (h40 : 0 ≤ g 4 5 ∧ g 4 5 ≤ 40) (hs : yWz (ymk g k o v) g1) : (g1 4 5 = ydn g + 1 ∧ g1 4 6 = ydn g + 1) ∧ (g1 19 (Int.toNat (ydn g)) = k ∧ g1 20 (Int.toNat (ydn g)) = o ∧ g1 21 (Int.toNat (ydn g)) = ykv g k o ∧ g1 22 (Int.toNat (ydn g)) = v) ∧ ∀ a b : Nat, 19 ≤ a → a ≤ 22 → b < Int.toNat (ydn g) → g1 a b = if g 4 5 = 40 then g a (b + 1) else g a b := by
  have u1 : yUn yWHs g (ylog (ydm g) (ydn g) k o (ykv g k o) v) := ylog_un (ydm_un g)
  have e : ylog (ydm g) (ydn g) k o (ykv g k o) v 1 1 = g 1 1 := (u1.eq (rs := [(1, 1, 1, 1)]) (by decide +kernel)).one (by decide)
  have w : ∀ a b : Nat, a = 4 ∨ (19 ≤ a ∧ a ≤ 22) → g1 a b = ylog (ydm g) (ydn g) k o (ykv g k o) v a b := fun a b h => by
    rw [hs.1 a b (by omega)]
    exact ysv_nc (hk.mono e) (by omega)
  have l5 := ylog_5 (M := ydm g) (d := ydn g) (k := k) (o := o) (was := ykv g k o) (v := v)
  have ld := ylog_d (M := ydm g) (d := ydn g) (k := k) (o := o) (was := ykv g k o) (v := v)
  refine ⟨⟨by rw [w _ _ (by omega)]; exact l5.1, by rw [w _ _ (by omega)]; exact l5.2⟩, ⟨by rw [w _ _ (by omega)]; exact ld.1, by rw [w _ _ (by omega)]; exact ld.2.1, by rw [w _ _ (by omega)]; exact ld.2.2.1, by rw [w _ _ (by omega)]; exact ld.2.2.2⟩, fun a b h1 h2 hb => ?_⟩
  rw [w _ _ (by omega), ylog_o ⟨h1, h2⟩ (by omega)]
  unfold ydm
  unfold ydn at hb
  by_cases h : g 4 5 = 40
  · rw [if_pos (by omega), if_pos h]
    rw [if_pos (by omega)] at hb
    exact ydrp_in ⟨h1, h2⟩ (by omega)
  · rw [if_neg (by omega), if_neg h]
/-- one change, made on both sides -/
theorem yj_make {g g1 : yM} {k o v : Int} (hJ : yJnv g) (hk : yok g k o) (hb : yvb g k o v) (hv : -2147483648 ≤ v ∧ v ≤ 2147483647) (h1 : yTy zpZ g1) (hs : yWz (ymk g k o v) g1) : g1 91 (Int.toNat (ycod k o)) = ykv g k o ∧ yJnv (ybec g1 (ycod k o) v) := by
  obtain ⟨hI, hVt, hVc, hVv, hVh, hVd⟩ := hJ
  have uc := ymk_un hk hs
  have u2 : yUn (yWCc ++ [(91, 94, 0, 0), (90, 90, 1, 4), (90, 90, 1, 5)]) g (ybec g1 (ycod k o) v) := (uc.sub (by decide +kernel)).cat (ybec_un g1 (ycod k o) v) (by decide +kernel)
  have cb := ycod_b hk
  have r91 : ∀ j, g1 91 j = g 91 j := fun j => uc.eq (rs := [(91, 91, 0, 0)]) (by decide +kernel) |>.all (a := 91) (b := 91) (n := 0) (by decide) (by decide) (by decide) j
  have r90 : g1 90 5 = g 90 5 := (uc.eq (rs := [(90, 90, 1, 5)]) (by decide +kernel)).one (by decide)
  have rh : ∀ q j : Nat, 92 ≤ q → q ≤ 94 → g1 q j = g q j := fun q j a b => (uc.eq (rs := [(92, 94, 0, 0)]) (by decide +kernel)).all (a := 92) (b := 94) (n := 0) (by decide) (by omega) (by omega) j
  have hval := hVv k o hk
  obtain ⟨⟨d1, d2, d3, d4, d5⟩, hE⟩ := hVh
  have hl := ymk_log hk ⟨d3, by omega⟩ hs
  have hd : ybd g1 = ydn g := by
    unfold ybd ydn
    rw [r90, d1]
    by_cases h : g 4 5 = 40
    · rw [if_pos h, if_pos (by omega)]
    · rw [if_neg h, if_neg (by omega)]
  have hdb : 0 ≤ ydn g ∧ ydn g ≤ 39 := by
    unfold ydn
    split <;> omega
  refine ⟨by rw [r91]; exact hval.1, ybec_I ⟨h1, hI.2.mono (uc.eq (by decide +kernel))⟩ cb hv, hVt.mono (u2.eq (by decide +kernel)), hVc.mono (u2.eq (by decide +kernel)), ?_, ?_, hVd.mono (u2.eq (by decide +kernel))⟩
  · intro k' o' hk'
    have e11 : ybec g1 (ycod k o) v 1 1 = g 1 1 := (u2.eq (rs := [(1, 1, 1, 1)]) (by decide +kernel)).one (by decide)
    have hk' := hk'.mono e11.symm
    have hq := hk'.b
    have ev : ykv (ybec g1 (ycod k o) v) k' o' = ykv g1 k' o' := ykv.mono (fun h0 => ybec_nc (by have := hq h0; omega)) (fun j => ybec_nc (by omega)) (fun j => ybec_nc (by omega)) (ybec_nc (by omega))
    have e50 : k' = 0 → ybec g1 (ycod k o) v (50 + Int.toNat o') 2 = g (50 + Int.toNat o') 2 := fun h0 => (u2.eq (rs := [(50, 89, 1, 2)]) (by decide +kernel)).fld (a := 50) (b := 89) (by decide) (by have := hq h0; omega) (by have := hq h0; omega)
    rw [ev, ymk_val hk hs hk', ybec_91]
    by_cases h : k' = k ∧ o' = o
    · rw [if_pos h, h.1, h.2, if_pos rfl]
      refine ⟨rfl, hb.mono (fun h0 => ?_)⟩
      have := e50 (by rw [h.1]; exact h0)
      rw [h.2] at this
      exact this
    · rw [if_neg h, if_neg (fun z => h (ycod_i hk' hk z)), r91]
      exact ⟨(hVv k' o' hk').1, (hVv k' o' hk').2.mono e50⟩
  · have e45 : ybec g1 (ycod k o) v 4 5 = ydn g + 1 := by rw [ybec_nc (by omega)]; exact hl.1.1
    have e46 : ybec g1 (ycod k o) v 4 6 = ydn g + 1 := by rw [ybec_nc (by omega)]; exact hl.1.2
    have e11 : ybec g1 (ycod k o) v 1 1 = g 1 1 := (u2.eq (rs := [(1, 1, 1, 1)]) (by decide +kernel)).one (by decide)
    refine ⟨⟨by rw [ybec_5, hd, e45], by rw [ybec_4, hd, e46], by rw [e45]; omega, by rw [e45, e46]; omega, by rw [e46]; omega⟩, fun j hj => ?_⟩
    rw [e46] at hj
    have rc : ∀ a : Nat, 19 ≤ a → a ≤ 22 → ybec g1 (ycod k o) v a j = g1 a j := fun a h1 h2 => ybec_nc (by omega)
    rw [rc 19 (by decide) (by decide), rc 20 (by decide) (by decide), rc 21 (by decide) (by decide), rc 22 (by decide) (by decide)]
    have e50 : ∀ o' : Int, 0 ≤ o' → o' < 40 → ybec g1 (ycod k o) v (50 + Int.toNat o') 2 = g (50 + Int.toNat o') 2 := fun o' h0 h9 => (u2.eq (rs := [(50, 89, 1, 2)]) (by decide +kernel)).fld (a := 50) (b := 89) (by decide) (by omega) (by omega)
    have fin : ∀ jj : Nat, (jj : Int) < g 4 6 → g1 19 j = g 19 jj → g1 20 j = g 20 jj → g1 21 j = g 21 jj → g1 22 j = g 22 jj → ybs g1 92 j = g 92 jj → ybs g1 93 j = g 93 jj → ybs g1 94 j = g 94 jj → j ≠ Int.toNat (ydn g) → yok (ybec g1 (ycod k o) v) (g1 19 j) (g1 20 j) ∧ ybec g1 (ycod k o) v 92 j = ycod (g1 19 j) (g1 20 j) ∧ ybec g1 (ycod k o) v 93 j = g1 21 j ∧ ybec g1 (ycod k o) v 94 j = g1 22 j ∧ yvb (ybec g1 (ycod k o) v) (g1 19 j) (g1 20 j) (g1 21 j) ∧ yvb (ybec g1 (ycod k o) v) (g1 19 j) (g1 20 j) (g1 22 j) := fun jj hjj a1 a2 a3 a4 b1 b2 b3 hne => by
      rw [ybec_o (by omega) (by rw [hd]; exact hne), ybec_o (by omega) (by rw [hd]; exact hne), ybec_o (by omega) (by rw [hd]; exact hne), a1, a2, a3, a4, b1, b2, b3]
      obtain ⟨k1, k2, k3, k4, k5, k6⟩ := hE jj hjj
      have ee : g 19 jj = 0 → ybec g1 (ycod k o) v (50 + Int.toNat (g 20 jj)) 2 = g (50 + Int.toNat (g 20 jj)) 2 := fun h0 => by
        have := k1.b h0
        have h7 : 0 ≤ g 20 jj ∧ g 20 jj < 40 := by
          rcases k1 with z | z | z | z <;> omega
        exact e50 _ h7.1 h7.2
      exact ⟨k1.mono e11, k2, k3, k4, k5.mono ee, k6.mono ee⟩
    by_cases hjd : j = Int.toNat (ydn g)
    · have ld := hl.2.1
      have bd := ybec_d (g := g1) (w := ycod k o) (v := v)
      rw [hd, ← hjd] at bd
      rw [← hjd] at ld
      rw [bd.1, bd.2.1, bd.2.2, ld.1, ld.2.1, ld.2.2.1, ld.2.2.2, r91, hval.1]
      have ee : k = 0 → ybec g1 (ycod k o) v (50 + Int.toNat o) 2 = g (50 + Int.toNat o) 2 := fun h0 => by
        have h7 : 0 ≤ o ∧ o < 40 := by
          rcases hk with z | z | z | z <;> omega
        exact e50 _ h7.1 h7.2
      exact ⟨hk.mono e11, rfl, rfl, rfl, hval.2.mono ee, hb.mono ee⟩
    · have lo := fun a h1 h2 => hl.2.2 a j h1 h2 (by omega)
      by_cases hf : g 4 5 = 40
      · have hdn : ydn g = 39 := if_pos (by omega)
        have hf1 : g1 90 5 = 40 := by rw [r90, d1]; exact hf
        refine fin (j + 1) (by omega) ?_ ?_ ?_ ?_ ?_ ?_ ?_ hjd
        · rw [lo 19 (by decide) (by decide), if_pos hf]
        · rw [lo 20 (by decide) (by decide), if_pos hf]
        · rw [lo 21 (by decide) (by decide), if_pos hf]
        · rw [lo 22 (by decide) (by decide), if_pos hf]
        · rw [ybs_f hf1 (by omega) (by omega), rh _ _ (by decide) (by decide)]
        · rw [ybs_f hf1 (by omega) (by omega), rh _ _ (by decide) (by decide)]
        · rw [ybs_f hf1 (by omega) (by omega), rh _ _ (by decide) (by decide)]
      · have hdn : ydn g = g 4 5 := if_neg (by omega)
        have hf1 : ¬ g1 90 5 = 40 := by rw [r90, d1]; exact hf
        refine fin j (by omega) ?_ ?_ ?_ ?_ ?_ ?_ ?_ hjd
        · rw [lo 19 (by decide) (by decide), if_neg hf]
        · rw [lo 20 (by decide) (by decide), if_neg hf]
        · rw [lo 21 (by decide) (by decide), if_neg hf]
        · rw [lo 22 (by decide) (by decide), if_neg hf]
        · rw [ybs_n hf1, rh _ _ (by decide) (by decide)]
        · rw [ybs_n hf1, rh _ _ (by decide) (by decide)]
        · rw [ybs_n hf1, rh _ _ (by decide) (by decide)]
/-- make and becomes answer alike -/
theorem yj_mb {g g1 g2 : yM} {k o v r1 r2 : Int} (hJ : yJnv g) (hk : yok g k o) (hb : yvb g k o v) (hv : -2147483648 ≤ v ∧ v ≤ 2147483647) (ha : r1 = ykv g k o ∧ (r1 = v → g1 = g) ∧ (r1 ≠ v → yTy zpZ g1 ∧ yWz (ymk g k o v) g1)) (hm : r2 = g1 91 (Int.toNat (ycod k o)) ∧ (g1 91 (Int.toNat (ycod k o)) = v → g2 = g1) ∧ (g1 91 (Int.toNat (ycod k o)) ≠ v → g2 = ybec g1 (ycod k o) v)) : yJnv g2 ∧ r1 = r2 := by
  obtain ⟨a1, a2, a3⟩ := ha
  obtain ⟨m1, m2, m3⟩ := hm
  by_cases e : r1 = v
  · have e1 := a2 e
    subst e1
    have h91 := (hJ.2.2.2.1 k o hk).1
    rw [m2 (by rw [h91, ← a1]; exact e)]
    exact ⟨hJ, by rw [a1, m1, h91]⟩
  · obtain ⟨t1, s1⟩ := a3 e
    obtain ⟨q1, q2⟩ := yj_make hJ hk hb hv t1 s1
    rw [m3 (by rw [q1, ← a1]; exact e)]
    exact ⟨q2, by rw [a1, m1, q1]⟩
