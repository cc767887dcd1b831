/-! ASKING BY RULES, ALIKE -/
theorem yQnv.fq {g m : yM} (h : yQnv g) (hT : yTy zpZ m) (f : yFq g m) : yQnv m := by
  have u : yUn [(26, 26, 0, 0), (35, 36, 0, 0)] g m := fun a b hn => f a b (fun e => hn (26, 26, 0, 0) (by decide) (by rw [e]; exact ⟨by decide, by decide, Or.inl rfl⟩)) (fun e => hn (35, 36, 0, 0) (by decide) (by rw [e]; exact ⟨by decide, by decide, Or.inl rfl⟩)) (fun e => hn (35, 36, 0, 0) (by decide) (by rw [e]; exact ⟨by decide, by decide, Or.inl rfl⟩))
  exact ⟨⟨⟨⟨hT, h.1.1.1.2.mono (u.eq (by decide +kernel))⟩, h.1.1.2.mono (u.eq (by decide +kernel))⟩, h.1.2.mono h.1.1.1.1.sz.2 (u.eq (by decide +kernel))⟩, h.2.mono (u.eq (by decide +kernel))⟩
theorem yQnv.gq {g k m : yM} (h : yQnv g) (hT : yTy zpZ m) (f1 : yFd g k) (f2 : yGq k m) : yQnv m := by
  have u : yUn [(110, 111, 0, 0), (100, 100, 0, 0), (90, 90, 1, 16), (90, 90, 1, 17), (90, 90, 1, 18), (90, 90, 1, 19), (90, 90, 1, 20)] g m := fun a b hn => (f2 a b (fun e => hn (100, 100, 0, 0) (by decide) (by rw [e]; exact ⟨by decide, by decide, Or.inl rfl⟩)) (fun e => by
    have hb : b = 16 ∨ b = 17 ∨ b = 18 ∨ b = 19 ∨ b = 20 := by omega
    obtain ⟨rfl, -⟩ := e
    rcases hb with rfl | rfl | rfl | rfl | rfl
    · exact hn (90, 90, 1, 16) (by decide) ⟨by decide, by decide, Or.inr rfl⟩
    · exact hn (90, 90, 1, 17) (by decide) ⟨by decide, by decide, Or.inr rfl⟩
    · exact hn (90, 90, 1, 18) (by decide) ⟨by decide, by decide, Or.inr rfl⟩
    · exact hn (90, 90, 1, 19) (by decide) ⟨by decide, by decide, Or.inr rfl⟩
    · exact hn (90, 90, 1, 20) (by decide) ⟨by decide, by decide, Or.inr rfl⟩)).trans (f1.2.1 a b (fun e => hn (110, 111, 0, 0) (by decide) (by rw [e]; exact ⟨by decide, by decide, Or.inl rfl⟩)) (fun e => hn (110, 111, 0, 0) (by decide) (by rw [e]; exact ⟨by decide, by decide, Or.inl rfl⟩)))
  exact ⟨⟨⟨⟨hT, h.1.1.1.2.mono (u.eq (by decide +kernel))⟩, h.1.1.2.mono (u.eq (by decide +kernel))⟩, h.1.2.mono h.1.1.1.1.sz.2 (u.eq (by decide +kernel))⟩, h.2.mono (u.eq (by decide +kernel))⟩
theorem yQ_txm {g : yM} (h : yQnv g) : yTxm g := by
  obtain ⟨q, hq, -, -, hT⟩ := h.2.2
  rcases hT with ⟨h1, -⟩ | ⟨h1, h2, h3, -⟩
  · exact Or.inl (by omega)
  · exact Or.inr ⟨h2, h3⟩
theorem yQ_c {g : yM} (h : yQnv g) {c : Nat} (hc : (c : Int) < g 1 1) : -1 ≤ g (50 + c) 6 ∧ (0 ≤ g (50 + c) 0 ∧ g (50 + c) 0 ≤ 3) := by
  obtain ⟨hVt, hVc, hVv, hVh, hVd⟩ := h.1.1.2
  obtain ⟨-, b0, b2, b3, b4, b5, b6, b7, b8⟩ := hVc.2.2 c hc
  exact ⟨b6.1, b0⟩
theorem yQ_cmr {g : yM} (h : yQnv g) : yCmr g := fun n hn => by
  have hs := (yK_s h.1).1
  have hc := yK_c h.1 (c := n) (by omega)
  have h6 := (yQ_c h (c := n) (by omega)).1
  omega
theorem yQ_r {g : yM} (h : yQnv g) : g 90 38 = g 6 8 ∧ 0 ≤ g 6 8 ∧ g 6 8 ≤ 20 := by
  have z := h.1.1.1.2.1
  exact ⟨z.2.2, z.1, z.2.1⟩
/-- the text is worth the same on both sides -/
theorem yTxv_al {g : yM} (h : yQnv g) (N : Nat → Int) : yTxv g (yN8 N) = yTrv g (yN8 N) := by
  obtain ⟨q, hq, h5, -, hT⟩ := h.2.2
  have hT0 : yTy zpZ g := h.1.1.1.1
  unfold yTxv yTrv
  rw [h5, Int.toNat_natCast]
  rcases hT with ⟨h1, h2⟩ | ⟨h1, h2, h3, h4⟩
  · rw [if_pos (by omega)]
    exact yWk_out (by omega) 61
  · rw [if_neg (by omega)]
    have hg : yTg (yTn g) := fun p z1 z2 => by
      by_cases c : p < g 90 15
      · omega
      · exact absurd (if_neg (by omega)) z2
    exact h4.wk hg (yTxE_n h3) (hT0.fRs hq).2
theorem yNf_8 {v0 v1 v2 v3 v4 v5 v6 v7 : Int} : yN8 (yNf v0 v1 v2 v3 v4 v5 v6 v7) = yNf v0 v1 v2 v3 v4 v5 v6 v7 := yN8_8 rfl rfl rfl rfl rfl rfl rfl rfl
/-- elements alike: g ahead, m where the reference's starts are found -/
theorem yEl_al {g m : yM} (h : yQnv g) (hf : yFd g m) {d e t : Int} {c : Nat} (hc : (c : Int) < g 1 1) : yEl g d e t c ↔ yEm m d e t c := by
  have cc := yK_c h.1 hc
  have fc := yK_f h.1 hf hc
  have hs := yK_s h.1
  have e91 : m 91 c = g (50 + c) 1 := (hf.2.1 91 c (by decide) (by decide)).trans cc.2.1.1
  have e107 : m 107 c = g (50 + c) 7 := (hf.2.1 107 c (by decide) (by decide)).trans cc.1.2.2.2.2.2.2.1
  have e11 : m 90 11 = g 1 10 := (hf.2.1 90 11 (by decide) (by decide)).trans hs.2.2.2.1
  unfold yEl yEm
  rw [fc.2.2.2.2, e11, e107, e91, fc.2.1]
  have b := hs.2.2.2.2
  constructor
  · intro ⟨z1, z2, z3, z4⟩
    exact ⟨z1, fun z => by omega, z2, z3⟩
  · intro ⟨z1, z2, z3, z4⟩
    exact ⟨z1, z3, z4, by omega⟩
theorem ySa_al {g m : yM} (h : yQnv g) (hf : yFd g m) {a e t : Int} (ha : 0 ≤ a ∧ a < g 6 8) {c : Nat} (hc : (c : Int) < g 1 1) : ySa g a e t c = ySmm m a e t c := by
  have cc := yK_c h.1 hc
  have q6 := (yQ_c h hc).1
  have hr := yQ_r h
  obtain ⟨hVt, hVc, hVv, hVh, hVd⟩ := h.1.1.2
  have fr : ∀ a b : Nat, a ≠ 110 → a ≠ 111 → m a b = g a b := hf.2.1
  have e91 : m 91 c = g (50 + c) 1 := (fr 91 c (by decide) (by decide)).trans cc.2.1.1
  have e105 : m 105 c = g (50 + c) 5 := (fr 105 c (by decide) (by decide)).trans cc.1.2.2.2.2.1
  have e104 : m 104 c = g (50 + c) 4 := (fr 104 c (by decide) (by decide)).trans cc.1.2.2.2.1
  have e106 : m 106 c = g (50 + c) 6 := (fr 106 c (by decide) (by decide)).trans cc.1.2.2.2.2.2.1
  have e107 : m 107 c = g (50 + c) 7 := (fr 107 c (by decide) (by decide)).trans cc.1.2.2.2.2.2.2.1
  have v1 := (hVv 1 (g (50 + c) 4) (Or.inr (Or.inl ⟨rfl, by omega, by omega⟩))).1
  rw [ycod_1, ykv_1] at v1
  have eL : m 91 (Int.toNat (40 + g (50 + c) 4)) = g 13 (Int.toNat (g (50 + c) 4)) := (fr 91 _ (by decide) (by decide)).trans v1
  have rr := h.2.1 (Int.toNat a) (by omega)
  have ek : m 114 (Int.toNat a) = g 30 (Int.toNat a) := (fr 114 _ (by decide) (by decide)).trans (h.1.1.1.2.2.2.2.1 _ (by omega))
  have eA : m 115 (Int.toNat a) = g 27 (Int.toNat a) := (fr 115 _ (by decide) (by decide)).trans rr.1
  have eB : m 116 (Int.toNat a) = g 28 (Int.toNat a) := (fr 116 _ (by decide) (by decide)).trans rr.2.1
  have eN : yNm2 m a c e t = yNc g a c e t := by
    unfold yNm2 yNc
    rw [e91, e105, e104, eL, e106, e107, eA, eB]
    have e6 : (if g (50 + c) 6 < 0 then 0 else g (50 + c) 6) = (if g (50 + c) 6 = -1 then 0 else g (50 + c) 6) := by
      by_cases z : g (50 + c) 6 = -1
      · rw [if_pos z, if_pos (by omega)]
      · rw [if_neg z, if_neg (by omega)]
    rw [e6]
  have eT : ∀ N : Nat → Int, yTrv m N = yTrv g N := fun N => by
    unfold yTrv
    rw [fr 90 15 (by decide) (by decide), yTn_of (fr 90 15 (by decide) (by decide)) (fun j => fr 99 j (by decide) (by decide))]
  have eX : yTxv g (yNc g a c e t) = yTrv g (yNc g a c e t) := by
    have z := yTxv_al h (yNc g a c e t)
    have z2 : yN8 (yNc g a c e t) = yNc g a c e t := yNf_8
    rw [z2] at z
    exact z
  unfold ySa ySmm
  rw [ek, e105, eA, e106, e104, eL, e91, eB, eN, eT, eX]
theorem yNp_c {P Q : Nat → Prop} {sc sd inn jnn : Nat → Int} : ∀ (n : Nat) (b s : Int), (∀ i : Nat, i < n → (P i ↔ Q i)) → (∀ i : Nat, i < n → sc i = sd i) → (∀ i : Nat, i < n → inn i = jnn i) → yNp P sc inn n b s → yNp Q sd jnn n b s
  | 0, _, _, _, _, _, h => h
  | n + 1, b, s, hP, hs, hi, h => by
    obtain ⟨b0, s0, p1, p2⟩ := h
    refine ⟨b0, s0, yNp_c n b0 s0 (fun i z => hP i (by omega)) (fun i z => hs i (by omega)) (fun i z => hi i (by omega)) p1, ?_⟩
    have hb := yNp_b n b0 s0 p1
    rw [← hs n (by omega), ← hi n (by omega)]
    by_cases hb0 : b0 < 0
    · rcases p2 with ⟨a1, a2, a3⟩ | ⟨a1, a2⟩
      · exact Or.inl ⟨(hP n (by omega)).mp a1, Or.inl hb0, a3⟩
      · exact Or.inr ⟨fun z => a1 ⟨(hP n (by omega)).mpr z.1, Or.inl hb0⟩, a2⟩
    · rw [← hi (Int.toNat b0) (by omega)]
      rcases p2 with ⟨a1, a2, a3⟩ | ⟨a1, a2⟩
      · exact Or.inl ⟨(hP n (by omega)).mp a1, a2, a3⟩
      · exact Or.inr ⟨fun z => a1 ⟨(hP n (by omega)).mpr z.1, z.2⟩, a2⟩
theorem yNx1_al {g m : yM} (h : yQnv g) (hf : yFd g m) {a d e t b s : Int} (ha : 0 ≤ a ∧ a < g 6 8) : yNx1 g a d e t (Int.toNat (g 1 1)) b s ↔ yNy1 m a d e t (Int.toNat (m 90 22)) b s := by
  have hs := yK_s h.1
  have e22 : m 90 22 = g 1 1 := (hf.2.1 90 22 (by decide) (by decide)).trans hs.1.1
  have k1 : ∀ i : Nat, i < Int.toNat (g 1 1) → (yEl g d e t i ↔ yEm m d e t i) := fun i hi => yEl_al h hf (by omega)
  have k2 : ∀ i : Nat, i < Int.toNat (g 1 1) → ySa g a e t i = ySmm m a e t i := fun i hi => ySa_al h hf ha (by omega)
  have k3 : ∀ i : Nat, i < Int.toNat (g 1 1) → g (50 + i) 1 = m 91 i := fun i hi => ((hf.2.1 91 i (by decide) (by decide)).trans (yK_c h.1 (c := i) (by omega)).2.1.1).symm
  rw [e22]
  exact ⟨fun z => yNp_c _ b s k1 k2 k3 z, fun z => yNp_c _ b s (fun i hi => (k1 i hi).symm) (fun i hi => (k2 i hi).symm) (fun i hi => (k3 i hi).symm) z⟩
theorem yNx1_u {g : yM} {a d e t b s b' s' : Int} {n : Nat} (h1 : yNx1 g a d e t n b s) (h2 : yNx1 g a d e t n b' s') : b = b' := (yNp_u _ _ _ _ _ (fun _ _ => Iff.rfl) (fun _ _ _ => rfl) (fun _ _ => rfl) h1 h2).1
theorem yBr_al {g m : yM} (h : yQnv g) (hf : yFd g m) {a : Int} (ha : 0 ≤ a ∧ a < g 6 8) {c : Nat} (hc : (c : Int) < g 1 1) : yBr g a c ↔ yBm m a c := by
  have cc := yK_c h.1 hc
  have fc := yK_f h.1 hf hc
  have e103 : m 103 c = g (50 + c) 3 := (hf.2.1 103 c (by decide) (by decide)).trans cc.1.2.2.1
  unfold yBr yBm
  rw [fc.1, fc.2.2.2.2, fc.2.1, e103]
  have hst := cc.2.2.2.2.2.2.2.2.2
  exact ⟨fun z => ⟨by omega, fun b s y => z.2 b s ((yNx1_al h hf ha).mpr y)⟩, fun z => ⟨by omega, fun b s y => z.2 b s ((yNx1_al h hf ha).mp y)⟩⟩
theorem ySu_10 {P Q : Nat → Prop} {p : Int} (hp : 0 ≤ p ∧ p ≤ 99) : ∀ (n : Nat) (u w : Int), n ≤ 40 → (∀ i : Nat, i < n → (P i ↔ Q i)) → ySu P (fun _ => 1) 0 n u → ySu Q (fun _ => 10) p n w → w = p + 10 * u
  | 0, u, w, _, _, h1, h2 => by
    have h1 : u = 0 := h1
    have h2 : w = p := h2
    omega
  | n + 1, u, w, hn, hP, h1, h2 => by
    have hc := ySu_cnt (n + 1) u (by omega) h1
    obtain ⟨x, a1, a2⟩ := h1
    obtain ⟨y, b1, b2⟩ := h2
    have ih := ySu_10 hp n x y (by omega) (fun i hi => hP i (by omega)) a1 b1
    have hx := ySu_cnt n x (by omega) a1
    have hq := hP n (by omega)
    rcases a2 with ⟨c1, c2⟩ | ⟨c1, c2⟩
    · rcases b2 with ⟨d1, d2⟩ | ⟨d1, d2⟩
      · have c2 : u = yw (x + 1) := c2
        have d2 : w = yw (y + 10) := d2
        have e1 := yw_s (x + 1) (by omega) (by omega)
        have e2 := yw_s (y + 10) (by omega) (by omega)
        omega
      · exact absurd (hq.mp c1) d1
    · rcases b2 with ⟨d1, d2⟩ | ⟨d1, d2⟩
      · exact absurd (hq.mpr d1) c1
      · omega
theorem yCs_al {g m : yM} (h : yQnv g) (hf : yFd g m) {n : Nat} (hn : (n : Int) < g 6 8) {v w : Int} (h1 : yCs g n v) (h2 : yCm m n w) : v = w := by
  obtain ⟨u, a1, a2⟩ := h1
  have hs := yK_s h.1
  have hz := hs.1.2
  have e22 : m 90 22 = g 1 1 := (hf.2.1 90 22 (by decide) (by decide)).trans hs.1.1
  have rr := h.2.1 n hn
  have e117 : m 117 n = g 29 n := (hf.2.1 117 n (by decide) (by decide)).trans rr.2.2.1
  unfold yCm at h2
  rw [e22, e117] at h2
  have e := ySu_10 (p := g 29 n) ⟨rr.2.2.2.1, rr.2.2.2.2⟩ _ u w (by omega) (fun i hi => yBr_al h hf (a := (n : Int)) ⟨by omega, hn⟩ (by omega)) a1 h2
  have hc := ySu_cnt _ u (by omega) a1
  have e1 := yw_s (10 * u) (by omega) (by omega)
  have e2 := yw_s (yw (10 * u) + g 29 n) (by omega) (by omega)
  omega
theorem yQ1_NX {g g1 : yM} {a v t r1 : Int} (hQ : yQnv g) (a0 : ¬ (0 ≤ a ∧ a < g 6 8 ∧ 0 ≤ (yb (fun x y => x / y) v 10) ∧ (yb (fun x y => x / y) v 10) < 4 ∧ 0 ≤ (yb (fun x y => x - x / y * y) v 10) ∧ (yb (fun x y => x - x / y * y) v 10) < 4 ∧ 0 ≤ t ∧ t < 720) → r1 = -1 ∧ g1 = g) (a1 : (0 ≤ a ∧ a < g 6 8 ∧ 0 ≤ (yb (fun x y => x / y) v 10) ∧ (yb (fun x y => x / y) v 10) < 4 ∧ 0 ≤ (yb (fun x y => x - x / y * y) v 10) ∧ (yb (fun x y => x - x / y * y) v 10) < 4 ∧ 0 ≤ t ∧ t < 720) → yTy zpZ g1 ∧ yFq g g1 ∧ ∃ s : Int, yNx1 g a (yb (fun x y => x / y) v 10) (yb (fun x y => x - x / y * y) v 10) t (Int.toNat (g 1 1)) r1 s) : yQnv g1 := by
  by_cases ok : (0 ≤ a ∧ a < g 6 8 ∧ 0 ≤ (yb (fun x y => x / y) v 10) ∧ (yb (fun x y => x / y) v 10) < 4 ∧ 0 ≤ (yb (fun x y => x - x / y * y) v 10) ∧ (yb (fun x y => x - x / y * y) v 10) < 4 ∧ 0 ≤ t ∧ t < 720)
  · exact hQ.fq (a1 ok).1 (a1 ok).2.1
  · rw [(a0 ok).2]
    exact hQ
theorem yjc_NX0 {g : yM} (hQ : yQnv g) : yTy zpZ g := by
  exact hQ.1.1.1.1
theorem yjm_NX0 {g g1 : yM} {a v t r1 : Int} (hQ : yQnv g) (a0 : ¬ (0 ≤ a ∧ a < g 6 8 ∧ 0 ≤ (yb (fun x y => x / y) v 10) ∧ (yb (fun x y => x / y) v 10) < 4 ∧ 0 ≤ (yb (fun x y => x - x / y * y) v 10) ∧ (yb (fun x y => x - x / y * y) v 10) < 4 ∧ 0 ≤ t ∧ t < 720) → r1 = -1 ∧ g1 = g) (a1 : (0 ≤ a ∧ a < g 6 8 ∧ 0 ≤ (yb (fun x y => x / y) v 10) ∧ (yb (fun x y => x / y) v 10) < 4 ∧ 0 ≤ (yb (fun x y => x - x / y * y) v 10) ∧ (yb (fun x y => x - x / y * y) v 10) < 4 ∧ 0 ≤ t ∧ t < 720) → yTy zpZ g1 ∧ yFq g g1 ∧ ∃ s : Int, yNx1 g a (yb (fun x y => x / y) v 10) (yb (fun x y => x - x / y * y) v 10) t (Int.toNat (g 1 1)) r1 s) : yTy zpZ g1 := by
  have h1 := yQ1_NX hQ a0 a1
  exact h1.1.1.1.1
theorem yjm_NX1 {g g1 : yM} {a v t r1 : Int} (hQ : yQnv g) (a0 : ¬ (0 ≤ a ∧ a < g 6 8 ∧ 0 ≤ (yb (fun x y => x / y) v 10) ∧ (yb (fun x y => x / y) v 10) < 4 ∧ 0 ≤ (yb (fun x y => x - x / y * y) v 10) ∧ (yb (fun x y => x - x / y * y) v 10) < 4 ∧ 0 ≤ t ∧ t < 720) → r1 = -1 ∧ g1 = g) (a1 : (0 ≤ a ∧ a < g 6 8 ∧ 0 ≤ (yb (fun x y => x / y) v 10) ∧ (yb (fun x y => x / y) v 10) < 4 ∧ 0 ≤ (yb (fun x y => x - x / y * y) v 10) ∧ (yb (fun x y => x - x / y * y) v 10) < 4 ∧ 0 ≤ t ∧ t < 720) → yTy zpZ g1 ∧ yFq g g1 ∧ ∃ s : Int, yNx1 g a (yb (fun x y => x / y) v 10) (yb (fun x y => x - x / y * y) v 10) t (Int.toNat (g 1 1)) r1 s) : 0 ≤ g1 90 22 ∧ g1 90 22 ≤ 40 := by
  have h1 := yQ1_NX hQ a0 a1
  have h := (yK_s h1.1).1
  omega
theorem yjm_NX2 {g g1 : yM} {a v t r1 : Int} (hQ : yQnv g) (a0 : ¬ (0 ≤ a ∧ a < g 6 8 ∧ 0 ≤ (yb (fun x y => x / y) v 10) ∧ (yb (fun x y => x / y) v 10) < 4 ∧ 0 ≤ (yb (fun x y => x - x / y * y) v 10) ∧ (yb (fun x y => x - x / y * y) v 10) < 4 ∧ 0 ≤ t ∧ t < 720) → r1 = -1 ∧ g1 = g) (a1 : (0 ≤ a ∧ a < g 6 8 ∧ 0 ≤ (yb (fun x y => x / y) v 10) ∧ (yb (fun x y => x / y) v 10) < 4 ∧ 0 ≤ (yb (fun x y => x - x / y * y) v 10) ∧ (yb (fun x y => x - x / y * y) v 10) < 4 ∧ 0 ≤ t ∧ t < 720) → yTy zpZ g1 ∧ yFq g g1 ∧ ∃ s : Int, yNx1 g a (yb (fun x y => x / y) v 10) (yb (fun x y => x - x / y * y) v 10) t (Int.toNat (g 1 1)) r1 s) : 0 ≤ g1 90 6 ∧ g1 90 6 ≤ 12 := by
  have h1 := yQ1_NX hQ a0 a1
  have h := (yK_s h1.1).2.1
  omega
theorem yjm_NX3 {g g1 : yM} {a v t r1 : Int} (hQ : yQnv g) (a0 : ¬ (0 ≤ a ∧ a < g 6 8 ∧ 0 ≤ (yb (fun x y => x / y) v 10) ∧ (yb (fun x y => x / y) v 10) < 4 ∧ 0 ≤ (yb (fun x y => x - x / y * y) v 10) ∧ (yb (fun x y => x - x / y * y) v 10) < 4 ∧ 0 ≤ t ∧ t < 720) → r1 = -1 ∧ g1 = g) (a1 : (0 ≤ a ∧ a < g 6 8 ∧ 0 ≤ (yb (fun x y => x / y) v 10) ∧ (yb (fun x y => x / y) v 10) < 4 ∧ 0 ≤ (yb (fun x y => x - x / y * y) v 10) ∧ (yb (fun x y => x - x / y * y) v 10) < 4 ∧ 0 ≤ t ∧ t < 720) → yTy zpZ g1 ∧ yFq g g1 ∧ ∃ s : Int, yNx1 g a (yb (fun x y => x / y) v 10) (yb (fun x y => x - x / y * y) v 10) t (Int.toNat (g 1 1)) r1 s) : ∀ n : Nat, (n : Int) < g1 90 22 → (0 ≤ g1 104 n ∧ g1 104 n ≤ 5) ∧ g1 102 n ≤ 719 := by
  have h1 := yQ1_NX hQ a0 a1
  exact yK_m h1.1
theorem yjm_NX4 {g g1 : yM} {a v t r1 : Int} (hQ : yQnv g) (a0 : ¬ (0 ≤ a ∧ a < g 6 8 ∧ 0 ≤ (yb (fun x y => x / y) v 10) ∧ (yb (fun x y => x / y) v 10) < 4 ∧ 0 ≤ (yb (fun x y => x - x / y * y) v 10) ∧ (yb (fun x y => x - x / y * y) v 10) < 4 ∧ 0 ≤ t ∧ t < 720) → r1 = -1 ∧ g1 = g) (a1 : (0 ≤ a ∧ a < g 6 8 ∧ 0 ≤ (yb (fun x y => x / y) v 10) ∧ (yb (fun x y => x / y) v 10) < 4 ∧ 0 ≤ (yb (fun x y => x - x / y * y) v 10) ∧ (yb (fun x y => x - x / y * y) v 10) < 4 ∧ 0 ≤ t ∧ t < 720) → yTy zpZ g1 ∧ yFq g g1 ∧ ∃ s : Int, yNx1 g a (yb (fun x y => x / y) v 10) (yb (fun x y => x - x / y * y) v 10) t (Int.toNat (g 1 1)) r1 s) : yCmr g1 := by
  have h1 := yQ1_NX hQ a0 a1
  exact yQ_cmr h1
theorem yjm_NX5 {g g1 : yM} {a v t r1 : Int} (hQ : yQnv g) (a0 : ¬ (0 ≤ a ∧ a < g 6 8 ∧ 0 ≤ (yb (fun x y => x / y) v 10) ∧ (yb (fun x y => x / y) v 10) < 4 ∧ 0 ≤ (yb (fun x y => x - x / y * y) v 10) ∧ (yb (fun x y => x - x / y * y) v 10) < 4 ∧ 0 ≤ t ∧ t < 720) → r1 = -1 ∧ g1 = g) (a1 : (0 ≤ a ∧ a < g 6 8 ∧ 0 ≤ (yb (fun x y => x / y) v 10) ∧ (yb (fun x y => x / y) v 10) < 4 ∧ 0 ≤ (yb (fun x y => x - x / y * y) v 10) ∧ (yb (fun x y => x - x / y * y) v 10) < 4 ∧ 0 ≤ t ∧ t < 720) → yTy zpZ g1 ∧ yFq g g1 ∧ ∃ s : Int, yNx1 g a (yb (fun x y => x / y) v 10) (yb (fun x y => x - x / y * y) v 10) t (Int.toNat (g 1 1)) r1 s) : yTxm g1 := by
  have h1 := yQ1_NX hQ a0 a1
  exact yQ_txm h1
theorem yjm_NX6 {g g1 : yM} {a v t r1 : Int} (hQ : yQnv g) (a0 : ¬ (0 ≤ a ∧ a < g 6 8 ∧ 0 ≤ (yb (fun x y => x / y) v 10) ∧ (yb (fun x y => x / y) v 10) < 4 ∧ 0 ≤ (yb (fun x y => x - x / y * y) v 10) ∧ (yb (fun x y => x - x / y * y) v 10) < 4 ∧ 0 ≤ t ∧ t < 720) → r1 = -1 ∧ g1 = g) (a1 : (0 ≤ a ∧ a < g 6 8 ∧ 0 ≤ (yb (fun x y => x / y) v 10) ∧ (yb (fun x y => x / y) v 10) < 4 ∧ 0 ≤ (yb (fun x y => x - x / y * y) v 10) ∧ (yb (fun x y => x - x / y * y) v 10) < 4 ∧ 0 ≤ t ∧ t < 720) → yTy zpZ g1 ∧ yFq g g1 ∧ ∃ s : Int, yNx1 g a (yb (fun x y => x / y) v 10) (yb (fun x y => x - x / y * y) v 10) t (Int.toNat (g 1 1)) r1 s) : 0 ≤ g1 90 38 ∧ g1 90 38 ≤ 20 := by
  have h1 := yQ1_NX hQ a0 a1
  have h := yQ_r h1
  omega
theorem yq_NX {g g1 g2 : yM} {a v t r1 r2 : Int} (hQ : yQnv g) (a0 : ¬ (0 ≤ a ∧ a < g 6 8 ∧ 0 ≤ (yb (fun x y => x / y) v 10) ∧ (yb (fun x y => x / y) v 10) < 4 ∧ 0 ≤ (yb (fun x y => x - x / y * y) v 10) ∧ (yb (fun x y => x - x / y * y) v 10) < 4 ∧ 0 ≤ t ∧ t < 720) → r1 = -1 ∧ g1 = g) (a1 : (0 ≤ a ∧ a < g 6 8 ∧ 0 ≤ (yb (fun x y => x / y) v 10) ∧ (yb (fun x y => x / y) v 10) < 4 ∧ 0 ≤ (yb (fun x y => x - x / y * y) v 10) ∧ (yb (fun x y => x - x / y * y) v 10) < 4 ∧ 0 ≤ t ∧ t < 720) → yTy zpZ g1 ∧ yFq g g1 ∧ ∃ s : Int, yNx1 g a (yb (fun x y => x / y) v 10) (yb (fun x y => x - x / y * y) v 10) t (Int.toNat (g 1 1)) r1 s) (b0 : ¬ (0 ≤ a ∧ a < g1 90 38 ∧ 0 ≤ (yb (fun x y => x / y) v 10) ∧ (yb (fun x y => x / y) v 10) < 4 ∧ 0 ≤ (yb (fun x y => x - x / y * y) v 10) ∧ (yb (fun x y => x - x / y * y) v 10) < 4 ∧ 0 ≤ t ∧ t < 720) → r2 = -1 ∧ g2 = g1) (b1 : (0 ≤ a ∧ a < g1 90 38 ∧ 0 ≤ (yb (fun x y => x / y) v 10) ∧ (yb (fun x y => x / y) v 10) < 4 ∧ 0 ≤ (yb (fun x y => x - x / y * y) v 10) ∧ (yb (fun x y => x - x / y * y) v 10) < 4 ∧ 0 ≤ t ∧ t < 720) → yTy zpZ g2 ∧ ∃ (m : yM) (s : Int), yFd g1 m ∧ yGq m g2 ∧ yNy1 m a (yb (fun x y => x / y) v 10) (yb (fun x y => x - x / y * y) v 10) t (Int.toNat (m 90 22)) r2 s) : yQnv g2 ∧ r1 = r2 := by
  have h1 := yQ1_NX hQ a0 a1
  by_cases ok : (0 ≤ a ∧ a < g 6 8 ∧ 0 ≤ (yb (fun x y => x / y) v 10) ∧ (yb (fun x y => x / y) v 10) < 4 ∧ 0 ≤ (yb (fun x y => x - x / y * y) v 10) ∧ (yb (fun x y => x - x / y * y) v 10) < 4 ∧ 0 ≤ t ∧ t < 720)
  · obtain ⟨t1, f1, s1, x1⟩ := a1 ok
    have e68 : g1 6 8 = g 6 8 := f1 6 8 (by decide) (by decide) (by decide)
    have hr := yQ_r h1
    obtain ⟨t2, m, s2, y1, y2, y3⟩ := b1 (by omega)
    refine ⟨h1.gq t2 y1 y2, ?_⟩
    rw [← yNx1_fr hQ.1.1.1.1 f1, ← f1 1 1 (by decide) (by decide) (by decide)] at x1
    exact yNx1_u x1 ((yNx1_al h1 y1 (by omega)).mpr y3)
  · have m := b0 (fun z => ok (by
      by_cases c : g1 = g
      · rw [c] at z
        have hr := yQ_r hQ
        omega
      · exact absurd (a0 ok).2 c))
    rw [m.2]
    exact ⟨h1, by rw [(a0 ok).1, m.1]⟩
theorem yQ1_BR {g g1 : yM} {a d k r1 : Int} (hQ : yQnv g) (a0 : ¬ (0 ≤ a ∧ a < g 6 8 ∧ 0 ≤ d ∧ d < 4 ∧ -1 ≤ k) → r1 = -1 ∧ g1 = g) (a1 : (0 ≤ a ∧ a < g 6 8 ∧ 0 ≤ d ∧ d < 4 ∧ -1 ≤ k) → yTy zpZ g1 ∧ yFq g g1 ∧ (k = -1 → ySu (fun i => g (50 + i) 0 = d ∧ yBr g a i) (fun _ => 1) 0 (Int.toNat (g 1 1)) r1) ∧ (k ≠ -1 → yThr (fun i => g (50 + i) 0 = d ∧ yBr g a i) k (Int.toNat (g 1 1)) r1)) : yQnv g1 := by
  by_cases ok : (0 ≤ a ∧ a < g 6 8 ∧ 0 ≤ d ∧ d < 4 ∧ -1 ≤ k)
  · exact hQ.fq (a1 ok).1 (a1 ok).2.1
  · rw [(a0 ok).2]
    exact hQ
theorem yjc_BR0 {g : yM} (hQ : yQnv g) : yTy zpZ g := by
  exact hQ.1.1.1.1
theorem yjm_BR0 {g g1 : yM} {a d k r1 : Int} (hQ : yQnv g) (a0 : ¬ (0 ≤ a ∧ a < g 6 8 ∧ 0 ≤ d ∧ d < 4 ∧ -1 ≤ k) → r1 = -1 ∧ g1 = g) (a1 : (0 ≤ a ∧ a < g 6 8 ∧ 0 ≤ d ∧ d < 4 ∧ -1 ≤ k) → yTy zpZ g1 ∧ yFq g g1 ∧ (k = -1 → ySu (fun i => g (50 + i) 0 = d ∧ yBr g a i) (fun _ => 1) 0 (Int.toNat (g 1 1)) r1) ∧ (k ≠ -1 → yThr (fun i => g (50 + i) 0 = d ∧ yBr g a i) k (Int.toNat (g 1 1)) r1)) : yTy zpZ g1 := by
  have h1 := yQ1_BR hQ a0 a1
  exact h1.1.1.1.1
theorem yjm_BR1 {g g1 : yM} {a d k r1 : Int} (hQ : yQnv g) (a0 : ¬ (0 ≤ a ∧ a < g 6 8 ∧ 0 ≤ d ∧ d < 4 ∧ -1 ≤ k) → r1 = -1 ∧ g1 = g) (a1 : (0 ≤ a ∧ a < g 6 8 ∧ 0 ≤ d ∧ d < 4 ∧ -1 ≤ k) → yTy zpZ g1 ∧ yFq g g1 ∧ (k = -1 → ySu (fun i => g (50 + i) 0 = d ∧ yBr g a i) (fun _ => 1) 0 (Int.toNat (g 1 1)) r1) ∧ (k ≠ -1 → yThr (fun i => g (50 + i) 0 = d ∧ yBr g a i) k (Int.toNat (g 1 1)) r1)) : 0 ≤ g1 90 22 ∧ g1 90 22 ≤ 40 := by
  have h1 := yQ1_BR hQ a0 a1
  have h := (yK_s h1.1).1
  omega
theorem yjm_BR2 {g g1 : yM} {a d k r1 : Int} (hQ : yQnv g) (a0 : ¬ (0 ≤ a ∧ a < g 6 8 ∧ 0 ≤ d ∧ d < 4 ∧ -1 ≤ k) → r1 = -1 ∧ g1 = g) (a1 : (0 ≤ a ∧ a < g 6 8 ∧ 0 ≤ d ∧ d < 4 ∧ -1 ≤ k) → yTy zpZ g1 ∧ yFq g g1 ∧ (k = -1 → ySu (fun i => g (50 + i) 0 = d ∧ yBr g a i) (fun _ => 1) 0 (Int.toNat (g 1 1)) r1) ∧ (k ≠ -1 → yThr (fun i => g (50 + i) 0 = d ∧ yBr g a i) k (Int.toNat (g 1 1)) r1)) : 0 ≤ g1 90 6 ∧ g1 90 6 ≤ 12 := by
  have h1 := yQ1_BR hQ a0 a1
  have h := (yK_s h1.1).2.1
  omega
theorem yjm_BR3 {g g1 : yM} {a d k r1 : Int} (hQ : yQnv g) (a0 : ¬ (0 ≤ a ∧ a < g 6 8 ∧ 0 ≤ d ∧ d < 4 ∧ -1 ≤ k) → r1 = -1 ∧ g1 = g) (a1 : (0 ≤ a ∧ a < g 6 8 ∧ 0 ≤ d ∧ d < 4 ∧ -1 ≤ k) → yTy zpZ g1 ∧ yFq g g1 ∧ (k = -1 → ySu (fun i => g (50 + i) 0 = d ∧ yBr g a i) (fun _ => 1) 0 (Int.toNat (g 1 1)) r1) ∧ (k ≠ -1 → yThr (fun i => g (50 + i) 0 = d ∧ yBr g a i) k (Int.toNat (g 1 1)) r1)) : ∀ n : Nat, (n : Int) < g1 90 22 → (0 ≤ g1 104 n ∧ g1 104 n ≤ 5) ∧ g1 102 n ≤ 719 := by
  have h1 := yQ1_BR hQ a0 a1
  exact yK_m h1.1
theorem yjm_BR4 {g g1 : yM} {a d k r1 : Int} (hQ : yQnv g) (a0 : ¬ (0 ≤ a ∧ a < g 6 8 ∧ 0 ≤ d ∧ d < 4 ∧ -1 ≤ k) → r1 = -1 ∧ g1 = g) (a1 : (0 ≤ a ∧ a < g 6 8 ∧ 0 ≤ d ∧ d < 4 ∧ -1 ≤ k) → yTy zpZ g1 ∧ yFq g g1 ∧ (k = -1 → ySu (fun i => g (50 + i) 0 = d ∧ yBr g a i) (fun _ => 1) 0 (Int.toNat (g 1 1)) r1) ∧ (k ≠ -1 → yThr (fun i => g (50 + i) 0 = d ∧ yBr g a i) k (Int.toNat (g 1 1)) r1)) : yCmr g1 := by
  have h1 := yQ1_BR hQ a0 a1
  exact yQ_cmr h1
theorem yjm_BR5 {g g1 : yM} {a d k r1 : Int} (hQ : yQnv g) (a0 : ¬ (0 ≤ a ∧ a < g 6 8 ∧ 0 ≤ d ∧ d < 4 ∧ -1 ≤ k) → r1 = -1 ∧ g1 = g) (a1 : (0 ≤ a ∧ a < g 6 8 ∧ 0 ≤ d ∧ d < 4 ∧ -1 ≤ k) → yTy zpZ g1 ∧ yFq g g1 ∧ (k = -1 → ySu (fun i => g (50 + i) 0 = d ∧ yBr g a i) (fun _ => 1) 0 (Int.toNat (g 1 1)) r1) ∧ (k ≠ -1 → yThr (fun i => g (50 + i) 0 = d ∧ yBr g a i) k (Int.toNat (g 1 1)) r1)) : yTxm g1 := by
  have h1 := yQ1_BR hQ a0 a1
  exact yQ_txm h1
theorem yjm_BR6 {g g1 : yM} {a d k r1 : Int} (hQ : yQnv g) (a0 : ¬ (0 ≤ a ∧ a < g 6 8 ∧ 0 ≤ d ∧ d < 4 ∧ -1 ≤ k) → r1 = -1 ∧ g1 = g) (a1 : (0 ≤ a ∧ a < g 6 8 ∧ 0 ≤ d ∧ d < 4 ∧ -1 ≤ k) → yTy zpZ g1 ∧ yFq g g1 ∧ (k = -1 → ySu (fun i => g (50 + i) 0 = d ∧ yBr g a i) (fun _ => 1) 0 (Int.toNat (g 1 1)) r1) ∧ (k ≠ -1 → yThr (fun i => g (50 + i) 0 = d ∧ yBr g a i) k (Int.toNat (g 1 1)) r1)) : 0 ≤ g1 90 38 ∧ g1 90 38 ≤ 20 := by
  have h1 := yQ1_BR hQ a0 a1
  have h := yQ_r h1
  omega
theorem yq_BR {g g1 g2 : yM} {a d k r1 r2 : Int} (hQ : yQnv g) (a0 : ¬ (0 ≤ a ∧ a < g 6 8 ∧ 0 ≤ d ∧ d < 4 ∧ -1 ≤ k) → r1 = -1 ∧ g1 = g) (a1 : (0 ≤ a ∧ a < g 6 8 ∧ 0 ≤ d ∧ d < 4 ∧ -1 ≤ k) → yTy zpZ g1 ∧ yFq g g1 ∧ (k = -1 → ySu (fun i => g (50 + i) 0 = d ∧ yBr g a i) (fun _ => 1) 0 (Int.toNat (g 1 1)) r1) ∧ (k ≠ -1 → yThr (fun i => g (50 + i) 0 = d ∧ yBr g a i) k (Int.toNat (g 1 1)) r1)) (b0 : ¬ (0 ≤ a ∧ a < g1 90 38 ∧ 0 ≤ d ∧ d < 4 ∧ -1 ≤ k) → r2 = -1 ∧ g2 = g1) (b1 : (0 ≤ a ∧ a < g1 90 38 ∧ 0 ≤ d ∧ d < 4 ∧ -1 ≤ k) → yTy zpZ g2 ∧ ∃ m : yM, yFd g1 m ∧ yGq m g2 ∧ (k = -1 → yTh (fun i => m 101 i = d ∧ yBm m a i) (-1) (Int.toNat (m 90 22)) r2) ∧ (k ≠ -1 → yThr (fun i => m 101 i = d ∧ yBm m a i) k (Int.toNat (m 90 22)) r2)) : yQnv g2 ∧ r1 = r2 := by
  have h1 := yQ1_BR hQ a0 a1
  by_cases ok : (0 ≤ a ∧ a < g 6 8 ∧ 0 ≤ d ∧ d < 4 ∧ -1 ≤ k)
  · obtain ⟨t1, f1, x1, x2⟩ := a1 ok
    have e68 : g1 6 8 = g 6 8 := f1 6 8 (by decide) (by decide) (by decide)
    have e11 : g1 1 1 = g 1 1 := f1 1 1 (by decide) (by decide) (by decide)
    have hr := yQ_r h1
    have hs := yK_s h1.1
    obtain ⟨t2, m, y1, y2, y3, y4⟩ := b1 (by omega)
    refine ⟨h1.gq t2 y1 y2, ?_⟩
    have e22 : m 90 22 = g 1 1 := ((y1.2.1 90 22 (by decide) (by decide)).trans hs.1.1).trans e11
    have al : ∀ i : Nat, i < Int.toNat (g 1 1) → ((g (50 + i) 0 = d ∧ yBr g a i) ↔ (m 101 i = d ∧ yBm m a i)) := fun i hi => by
      have fc := yK_f h1.1 y1 (c := i) (by omega)
      rw [fc.2.2.2.2, f1.c i 0, ← yBr_al h1 y1 (a := a) (c := i) (by omega) (by omega), yBr_fr hQ.1.1.1.1 f1]
    by_cases hk : k = -1
    · have z := y3 hk
      rw [e22] at z
      exact ySu_u _ _ _ al (fun _ _ _ => rfl) (x1 hk) (yTh_su _ _ z)
    · have z := y4 hk
      rw [e22] at z
      exact yThr_u al (x2 hk) z
  · have m := b0 (fun z => ok (by
      by_cases c : g1 = g
      · rw [c] at z
        have hr := yQ_r hQ
        omega
      · exact absurd (a0 ok).2 c))
    rw [m.2]
    exact ⟨h1, by rw [(a0 ok).1, m.1]⟩
theorem yQ1_FI {g g1 : yM} {h r1 : Int} (hQ : yQnv g) (a0 : ¬ (0 ≤ h ∧ h < 2) → r1 = -1 ∧ g1 = g) (a1 : 0 ≤ h ∧ h < 2 → g 6 8 = 0 → r1 = -5 ∧ g1 = g) (a2 : 0 ≤ h ∧ h < 2 → g 6 8 ≠ 0 → yTy zpZ g1 ∧ yFq g g1 ∧ ∃ b l : Int, yMn (yCs g) (Int.toNat (g 6 8)) b l ∧ (h = 0 → r1 = b) ∧ (h = 1 → r1 = l)) : yQnv g1 := by
  by_cases ok : 0 ≤ h ∧ h < 2
  · by_cases h0 : g 6 8 = 0
    · rw [(a1 ok h0).2]
      exact hQ
    · exact hQ.fq (a2 ok h0).1 (a2 ok h0).2.1
  · rw [(a0 ok).2]
    exact hQ
theorem yjc_FI0 {g : yM} (hQ : yQnv g) : yTy zpZ g := by
  exact hQ.1.1.1.1
theorem yjm_FI0 {g g1 : yM} {h r1 : Int} (hQ : yQnv g) (a0 : ¬ (0 ≤ h ∧ h < 2) → r1 = -1 ∧ g1 = g) (a1 : 0 ≤ h ∧ h < 2 → g 6 8 = 0 → r1 = -5 ∧ g1 = g) (a2 : 0 ≤ h ∧ h < 2 → g 6 8 ≠ 0 → yTy zpZ g1 ∧ yFq g g1 ∧ ∃ b l : Int, yMn (yCs g) (Int.toNat (g 6 8)) b l ∧ (h = 0 → r1 = b) ∧ (h = 1 → r1 = l)) : yTy zpZ g1 := by
  have h1 := yQ1_FI hQ a0 a1 a2
  exact h1.1.1.1.1
theorem yjm_FI1 {g g1 : yM} {h r1 : Int} (hQ : yQnv g) (a0 : ¬ (0 ≤ h ∧ h < 2) → r1 = -1 ∧ g1 = g) (a1 : 0 ≤ h ∧ h < 2 → g 6 8 = 0 → r1 = -5 ∧ g1 = g) (a2 : 0 ≤ h ∧ h < 2 → g 6 8 ≠ 0 → yTy zpZ g1 ∧ yFq g g1 ∧ ∃ b l : Int, yMn (yCs g) (Int.toNat (g 6 8)) b l ∧ (h = 0 → r1 = b) ∧ (h = 1 → r1 = l)) : 0 ≤ g1 90 22 ∧ g1 90 22 ≤ 40 := by
  have h1 := yQ1_FI hQ a0 a1 a2
  have h := (yK_s h1.1).1
  omega
theorem yjm_FI2 {g g1 : yM} {h r1 : Int} (hQ : yQnv g) (a0 : ¬ (0 ≤ h ∧ h < 2) → r1 = -1 ∧ g1 = g) (a1 : 0 ≤ h ∧ h < 2 → g 6 8 = 0 → r1 = -5 ∧ g1 = g) (a2 : 0 ≤ h ∧ h < 2 → g 6 8 ≠ 0 → yTy zpZ g1 ∧ yFq g g1 ∧ ∃ b l : Int, yMn (yCs g) (Int.toNat (g 6 8)) b l ∧ (h = 0 → r1 = b) ∧ (h = 1 → r1 = l)) : 0 ≤ g1 90 6 ∧ g1 90 6 ≤ 12 := by
  have h1 := yQ1_FI hQ a0 a1 a2
  have h := (yK_s h1.1).2.1
  omega
theorem yjm_FI3 {g g1 : yM} {h r1 : Int} (hQ : yQnv g) (a0 : ¬ (0 ≤ h ∧ h < 2) → r1 = -1 ∧ g1 = g) (a1 : 0 ≤ h ∧ h < 2 → g 6 8 = 0 → r1 = -5 ∧ g1 = g) (a2 : 0 ≤ h ∧ h < 2 → g 6 8 ≠ 0 → yTy zpZ g1 ∧ yFq g g1 ∧ ∃ b l : Int, yMn (yCs g) (Int.toNat (g 6 8)) b l ∧ (h = 0 → r1 = b) ∧ (h = 1 → r1 = l)) : ∀ n : Nat, (n : Int) < g1 90 22 → (0 ≤ g1 104 n ∧ g1 104 n ≤ 5) ∧ g1 102 n ≤ 719 := by
  have h1 := yQ1_FI hQ a0 a1 a2
  exact yK_m h1.1
theorem yjm_FI4 {g g1 : yM} {h r1 : Int} (hQ : yQnv g) (a0 : ¬ (0 ≤ h ∧ h < 2) → r1 = -1 ∧ g1 = g) (a1 : 0 ≤ h ∧ h < 2 → g 6 8 = 0 → r1 = -5 ∧ g1 = g) (a2 : 0 ≤ h ∧ h < 2 → g 6 8 ≠ 0 → yTy zpZ g1 ∧ yFq g g1 ∧ ∃ b l : Int, yMn (yCs g) (Int.toNat (g 6 8)) b l ∧ (h = 0 → r1 = b) ∧ (h = 1 → r1 = l)) : yCmr g1 := by
  have h1 := yQ1_FI hQ a0 a1 a2
  exact yQ_cmr h1
theorem yjm_FI5 {g g1 : yM} {h r1 : Int} (hQ : yQnv g) (a0 : ¬ (0 ≤ h ∧ h < 2) → r1 = -1 ∧ g1 = g) (a1 : 0 ≤ h ∧ h < 2 → g 6 8 = 0 → r1 = -5 ∧ g1 = g) (a2 : 0 ≤ h ∧ h < 2 → g 6 8 ≠ 0 → yTy zpZ g1 ∧ yFq g g1 ∧ ∃ b l : Int, yMn (yCs g) (Int.toNat (g 6 8)) b l ∧ (h = 0 → r1 = b) ∧ (h = 1 → r1 = l)) : yTxm g1 := by
  have h1 := yQ1_FI hQ a0 a1 a2
  exact yQ_txm h1
theorem yjm_FI6 {g g1 : yM} {h r1 : Int} (hQ : yQnv g) (a0 : ¬ (0 ≤ h ∧ h < 2) → r1 = -1 ∧ g1 = g) (a1 : 0 ≤ h ∧ h < 2 → g 6 8 = 0 → r1 = -5 ∧ g1 = g) (a2 : 0 ≤ h ∧ h < 2 → g 6 8 ≠ 0 → yTy zpZ g1 ∧ yFq g g1 ∧ ∃ b l : Int, yMn (yCs g) (Int.toNat (g 6 8)) b l ∧ (h = 0 → r1 = b) ∧ (h = 1 → r1 = l)) : 0 ≤ g1 90 38 ∧ g1 90 38 ≤ 20 := by
  have h1 := yQ1_FI hQ a0 a1 a2
  have h := yQ_r h1
  omega
theorem yq_FI {g g1 g2 : yM} {h r1 r2 : Int} (hQ : yQnv g) (a0 : ¬ (0 ≤ h ∧ h < 2) → r1 = -1 ∧ g1 = g) (a1 : 0 ≤ h ∧ h < 2 → g 6 8 = 0 → r1 = -5 ∧ g1 = g) (a2 : 0 ≤ h ∧ h < 2 → g 6 8 ≠ 0 → yTy zpZ g1 ∧ yFq g g1 ∧ ∃ b l : Int, yMn (yCs g) (Int.toNat (g 6 8)) b l ∧ (h = 0 → r1 = b) ∧ (h = 1 → r1 = l)) (b0 : ¬ (0 ≤ h ∧ h < 2) → r2 = -1 ∧ g2 = g1) (b1 : 0 ≤ h ∧ h < 2 → g1 90 38 = 0 → r2 = -5 ∧ g2 = g1) (b2 : 0 ≤ h ∧ h < 2 → g1 90 38 ≠ 0 → yTy zpZ g2 ∧ ∃ m : yM, yFd g1 m ∧ yGq m g2 ∧ ∃ b l : Int, yMn (yCm m) (Int.toNat (m 90 38)) b l ∧ (h = 0 → r2 = b) ∧ (h = 1 → r2 = l)) : yQnv g2 ∧ r1 = r2 := by
  have h1 := yQ1_FI hQ a0 a1 a2
  by_cases ok : 0 ≤ h ∧ h < 2
  · by_cases h0 : g 6 8 = 0
    · have e := (a1 ok h0).2
      subst e
      have hr := yQ_r h1
      have m := b1 ok (by omega)
      rw [m.2]
      exact ⟨h1, by rw [(a1 ok h0).1, m.1]⟩
    · obtain ⟨t1, f1, x, l, x1, x2, x3⟩ := a2 ok h0
      have e68 : g1 6 8 = g 6 8 := f1 6 8 (by decide) (by decide) (by decide)
      have hr := yQ_r h1
      obtain ⟨t2, m, y1, y2, y, l', z1, z2, z3⟩ := b2 ok (by omega)
      refine ⟨h1.gq t2 y1 y2, ?_⟩
      have e38 : m 90 38 = g 6 8 := ((y1.2.1 90 38 (by decide) (by decide)).trans hr.1).trans e68
      rw [e38] at z1
      obtain ⟨e1, e2⟩ := yMn_u (Int.toNat (g 6 8)) _ _ _ _ (fun i hi v w c1 c2 => yCs_al (n := i) h1 y1 (by omega) ((yCs_fr hQ.1.1.1.1 f1).mpr c1) c2) x1 z1
      by_cases hh : h = 0
      · rw [x2 hh, z2 hh, e1]
      · rw [x3 (by omega), z3 (by omega), e2]
  · have e := (a0 ok).2
    subst e
    rw [(b0 ok).2]
    exact ⟨h1, by rw [(a0 ok).1, (b0 ok).1]⟩
theorem yQ1_KP4 {g g1 : yM} {a r1 : Int} (hQ : yQnv g) (a0 : ¬ (0 ≤ a ∧ a < g 6 8) → r1 = -1 ∧ g1 = g) (a1 : (0 ≤ a ∧ a < g 6 8) → yTy zpZ g1 ∧ yFq g g1 ∧ yKb (yDy g a) 4 r1) : yQnv g1 := by
  by_cases ok : (0 ≤ a ∧ a < g 6 8)
  · exact hQ.fq (a1 ok).1 (a1 ok).2.1
  · rw [(a0 ok).2]
    exact hQ
theorem yjc_KP40 {g : yM} (hQ : yQnv g) : yTy zpZ g := by
  exact hQ.1.1.1.1
theorem yjm_KP40 {g g1 : yM} {a r1 : Int} (hQ : yQnv g) (a0 : ¬ (0 ≤ a ∧ a < g 6 8) → r1 = -1 ∧ g1 = g) (a1 : (0 ≤ a ∧ a < g 6 8) → yTy zpZ g1 ∧ yFq g g1 ∧ yKb (yDy g a) 4 r1) : yTy zpZ g1 := by
  have h1 := yQ1_KP4 hQ a0 a1
  exact h1.1.1.1.1
theorem yjm_KP41 {g g1 : yM} {a r1 : Int} (hQ : yQnv g) (a0 : ¬ (0 ≤ a ∧ a < g 6 8) → r1 = -1 ∧ g1 = g) (a1 : (0 ≤ a ∧ a < g 6 8) → yTy zpZ g1 ∧ yFq g g1 ∧ yKb (yDy g a) 4 r1) : 0 ≤ g1 90 22 ∧ g1 90 22 ≤ 40 := by
  have h1 := yQ1_KP4 hQ a0 a1
  have h := (yK_s h1.1).1
  omega
theorem yjm_KP42 {g g1 : yM} {a r1 : Int} (hQ : yQnv g) (a0 : ¬ (0 ≤ a ∧ a < g 6 8) → r1 = -1 ∧ g1 = g) (a1 : (0 ≤ a ∧ a < g 6 8) → yTy zpZ g1 ∧ yFq g g1 ∧ yKb (yDy g a) 4 r1) : 0 ≤ g1 90 6 ∧ g1 90 6 ≤ 12 := by
  have h1 := yQ1_KP4 hQ a0 a1
  have h := (yK_s h1.1).2.1
  omega
theorem yjm_KP43 {g g1 : yM} {a r1 : Int} (hQ : yQnv g) (a0 : ¬ (0 ≤ a ∧ a < g 6 8) → r1 = -1 ∧ g1 = g) (a1 : (0 ≤ a ∧ a < g 6 8) → yTy zpZ g1 ∧ yFq g g1 ∧ yKb (yDy g a) 4 r1) : ∀ n : Nat, (n : Int) < g1 90 22 → (0 ≤ g1 104 n ∧ g1 104 n ≤ 5) ∧ g1 102 n ≤ 719 := by
  have h1 := yQ1_KP4 hQ a0 a1
  exact yK_m h1.1
theorem yjm_KP44 {g g1 : yM} {a r1 : Int} (hQ : yQnv g) (a0 : ¬ (0 ≤ a ∧ a < g 6 8) → r1 = -1 ∧ g1 = g) (a1 : (0 ≤ a ∧ a < g 6 8) → yTy zpZ g1 ∧ yFq g g1 ∧ yKb (yDy g a) 4 r1) : yCmr g1 := by
  have h1 := yQ1_KP4 hQ a0 a1
  exact yQ_cmr h1
theorem yjm_KP45 {g g1 : yM} {a r1 : Int} (hQ : yQnv g) (a0 : ¬ (0 ≤ a ∧ a < g 6 8) → r1 = -1 ∧ g1 = g) (a1 : (0 ≤ a ∧ a < g 6 8) → yTy zpZ g1 ∧ yFq g g1 ∧ yKb (yDy g a) 4 r1) : yTxm g1 := by
  have h1 := yQ1_KP4 hQ a0 a1
  exact yQ_txm h1
theorem yjm_KP46 {g g1 : yM} {a r1 : Int} (hQ : yQnv g) (a0 : ¬ (0 ≤ a ∧ a < g 6 8) → r1 = -1 ∧ g1 = g) (a1 : (0 ≤ a ∧ a < g 6 8) → yTy zpZ g1 ∧ yFq g g1 ∧ yKb (yDy g a) 4 r1) : 0 ≤ g1 90 38 ∧ g1 90 38 ≤ 20 := by
  have h1 := yQ1_KP4 hQ a0 a1
  have h := yQ_r h1
  omega
theorem yjm_KP47 {g g1 : yM} {a r1 : Int} (hQ : yQnv g) (a0 : ¬ (0 ≤ a ∧ a < g 6 8) → r1 = -1 ∧ g1 = g) (a1 : (0 ≤ a ∧ a < g 6 8) → yTy zpZ g1 ∧ yFq g g1 ∧ yKb (yDy g a) 4 r1) : ∀ n : Nat, (n : Int) < g1 90 22 → 0 ≤ g1 101 n ∧ g1 101 n < 4 := by
  have h1 := yQ1_KP4 hQ a0 a1
  intro n hn
  have hs := (yK_s h1.1).1
  have cc := yK_c h1.1 (c := n) (by omega)
  have qc := yQ_c h1 (c := n) (by omega)
  omega
theorem yq_KP4 {g g1 g2 : yM} {a r1 r2 : Int} (hQ : yQnv g) (a0 : ¬ (0 ≤ a ∧ a < g 6 8) → r1 = -1 ∧ g1 = g) (a1 : (0 ≤ a ∧ a < g 6 8) → yTy zpZ g1 ∧ yFq g g1 ∧ yKb (yDy g a) 4 r1) (b0 : ¬ (0 ≤ a ∧ a < g1 90 38) → r2 = -1 ∧ g2 = g1) (b1 : (0 ≤ a ∧ a < g1 90 38) → yTy zpZ g2 ∧ ∃ (m : yM) (u v : Int), yFd g1 m ∧ yGq m g2 ∧ yB4 (fun d => ∃ b9 : Nat, (b9 : Int) < m 90 22 ∧ m 101 b9 = d) u ∧ yB4 (fun d => ∃ b9 : Nat, (b9 : Int) < m 90 22 ∧ m 101 b9 = d ∧ yBm m a b9) v ∧ r2 = yb (fun x y => x &&& y) u (yb (fun x y => x ^^^ y) v (-1))) : yQnv g2 ∧ r1 = r2 := by
  have h1 := yQ1_KP4 hQ a0 a1
  by_cases ok : (0 ≤ a ∧ a < g 6 8)
  · obtain ⟨t1, f1, x1⟩ := a1 ok
    have e68 : g1 6 8 = g 6 8 := f1 6 8 (by decide) (by decide) (by decide)
    have e11 : g1 1 1 = g 1 1 := f1 1 1 (by decide) (by decide) (by decide)
    have hr := yQ_r h1
    have hs := yK_s h1.1
    obtain ⟨t2, m, u, v, y1, y2, y3, y4, y5⟩ := b1 (by omega)
    refine ⟨h1.gq t2 y1 y2, ?_⟩
    have e22 : m 90 22 = g 1 1 := ((y1.2.1 90 22 (by decide) (by decide)).trans hs.1.1).trans e11
    rw [y5]
    have b1' := yKb_4 4 r1 (by decide) x1
    refine yB4_u b1' (y3.dif y4 (R := fun d => (∃ i : Nat, (i : Int) < m 90 22 ∧ m 101 i = d) ∧ ¬ ∃ i : Nat, (i : Int) < m 90 22 ∧ m 101 i = d ∧ yBm m a i) (fun d _ => Iff.rfl)) (fun d hd => ?_)
    have al : ∀ i : Nat, (i : Int) < g 1 1 → (m 101 i = g (50 + i) 0 ∧ (yBr g a i ↔ yBm m a i)) := fun i hi => by
      have fc := yK_f h1.1 y1 (c := i) (by omega)
      refine ⟨by rw [fc.2.2.2.2, f1.c i 0], ?_⟩
      rw [← yBr_al h1 y1 (a := a) (c := i) (by omega) (by omega), yBr_fr hQ.1.1.1.1 f1]
    rw [e22]
    constructor
    · intro hh
      obtain ⟨-, ⟨i, i1, i2⟩, z⟩ := hh
      exact ⟨⟨i, i1, by rw [(al i i1).1]; exact i2⟩, fun ⟨j, j1, j2, j3⟩ => z j j1 ⟨by rw [← (al j j1).1]; exact j2, (al j j1).2.mpr j3⟩⟩
    · intro ⟨⟨i, i1, i2⟩, z⟩
      exact ⟨hd, ⟨i, i1, by rw [← (al i i1).1]; exact i2⟩, fun j j1 ⟨j2, j3⟩ => z ⟨j, j1, by rw [(al j j1).1]; exact j2, (al j j1).2.mp j3⟩⟩
  · have m := b0 (fun z => ok (by
      by_cases c : g1 = g
      · rw [c] at z
        have hr := yQ_r hQ
        omega
      · exact absurd (a0 ok).2 c))
    rw [m.2]
    exact ⟨h1, by rw [(a0 ok).1, m.1]⟩
