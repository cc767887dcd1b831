/-! FEWEST ALIKE -/
theorem yCt_c {c d : Nat → Nat → Bool} {T l : Nat} : ∀ k : Nat, (∀ p : Nat, p < k → (c p l = true ↔ d p l = true)) → yCt c T l k = yCt d T l k
  | 0, _ => rfl
  | k + 1, h => by
    have ih := yCt_c (T := T) k (fun p hp => h p (by omega))
    have hk := h k (Nat.lt_succ_self k)
    simp only [yCt, ih]
    by_cases e : T.testBit k = true ∧ c k l = true
    · rw [if_pos e, if_pos ⟨e.1, hk.mp e.2⟩]
    · rw [if_neg e, if_neg (fun z => e ⟨z.1, hk.mpr z.2⟩)]
theorem yMxE_c {E F : Nat → Int} {S : Nat} : ∀ k : Nat, (∀ i : Nat, i < k → E i = F i) → yMxE E S k = yMxE F S k
  | 0, _ => rfl
  | k + 1, h => by
    have ih := yMxE_c (S := S) k (fun i hi => h i (by omega))
    simp only [yMxE, ih, h k (Nat.lt_succ_self k)]
theorem yDP.c {n : Nat} {E F L M : Nat → Int} {c d : Nat → Nat → Bool} {fw : Nat → Int} (h : yDP n E L c fw) (hE : ∀ i : Nat, i < n → E i = F i) (hL : ∀ i : Nat, i < n → L i = M i) (hc : ∀ p q : Nat, p < n → q < n → (c p q = true ↔ d p q = true)) : yDP n F M d fw := by
  obtain ⟨h1, h2, h3⟩ := h
  refine ⟨h1, fun S s0 s1 l l1 l2 l3 => ?_, fun S s0 s1 => ?_⟩
  · rw [← yCt_c (c := c) n (fun p hp => hc p l hp l1)]
    exact h2 S s0 s1 l l1 l2 (by rw [yMxE_c n hE, hL l l1]; exact l3)
  · rcases h3 S s0 s1 with z | ⟨l, l1, l2, l3, l4⟩
    · exact Or.inl z
    · refine Or.inr ⟨l, l1, l2, ?_, ?_⟩
      · rw [← yMxE_c n hE, ← hL l l1]
        exact l3
      · rw [← yCt_c (c := c) n (fun p hp => hc p l hp l1)]
        exact l4
theorem yKnv.f8 {g m : yM} (h : yKnv g) (hT : yTy zpZ m) (hF : yF8 g m) : yKnv m := by
  have u : yUn [(23, 25, 0, 0), (5, 5, 1, 4)] g m := fun a b hn => hF a b (fun e => hn (23, 25, 0, 0) (by decide) (by rw [e]; exact ⟨by decide, by decide, Or.inl rfl⟩)) (fun e => hn (23, 25, 0, 0) (by decide) (by rw [e]; exact ⟨by decide, by decide, Or.inl rfl⟩)) (fun e => hn (23, 25, 0, 0) (by decide) (by rw [e]; exact ⟨by decide, by decide, Or.inl rfl⟩)) (fun e => by
    obtain ⟨rfl, rfl⟩ := e
    exact hn (5, 5, 1, 4) (by decide) ⟨by decide, by decide, Or.inr rfl⟩)
  exact ⟨⟨⟨hT, h.1.1.2.mono (u.eq (by decide +kernel))⟩, h.1.2.mono (u.eq (by decide +kernel))⟩, h.2.mono h.1.1.1.sz.2 (u.eq (by decide +kernel))⟩
theorem yKnv.fo {g m : yM} (h : yKnv g) (hT : yTy zpZ m) (hF : yFo g m) : yKnv m := by
  have u : yUn [(110, 113, 0, 0), (90, 90, 1, 36), (90, 90, 1, 37)] g m := fun a b hn => hF a b (fun e => hn (110, 113, 0, 0) (by decide) (by rw [e]; exact ⟨by decide, by decide, Or.inl rfl⟩)) (fun e => hn (110, 113, 0, 0) (by decide) (by rw [e]; exact ⟨by decide, by decide, Or.inl rfl⟩)) (fun e => hn (110, 113, 0, 0) (by decide) (by rw [e]; exact ⟨by decide, by decide, Or.inl rfl⟩)) (fun e => hn (110, 113, 0, 0) (by decide) (by rw [e]; exact ⟨by decide, by decide, Or.inl rfl⟩)) (fun e => by
    rcases e with ⟨rfl, rfl | rfl⟩
    · exact hn (90, 90, 1, 36) (by decide) ⟨by decide, by decide, Or.inr rfl⟩
    · exact hn (90, 90, 1, 37) (by decide) ⟨by decide, by decide, Or.inr rfl⟩)
  exact ⟨⟨⟨hT, h.1.1.2.mono (u.eq (by decide +kernel))⟩, h.1.2.mono (u.eq (by decide +kernel))⟩, h.2.mono h.1.1.1.sz.2 (u.eq (by decide +kernel))⟩
theorem yK_la {g : yM} (h : yKnv g) {p q : Nat} (hp : (p : Int) < g 1 1) (hq : (q : Int) < g 1 1) : yLa g p q ↔ yCp g p q := by
  have cp := yK_c h hp
  have cq := yK_c h hq
  have hs := yK_s h
  unfold yLa yCp
  rw [cp.1.1, cq.1.1, cp.1.2.2.2.2.2.2.1, cq.1.2.2.2.2.2.2.1, hs.2.2.2.1, cp.2.1.1, cq.2.1.1, cp.2.2.2.2.1.1]
theorem yBc_al {v : Int} {i : Nat} (hv : 0 ≤ v ∧ v ≤ 9223372036854775807) (hi : i < 64) : yBc v i ↔ yBc2 v i := by
  have e := yShs_us (v := v) (i := (i : Int)) hv ⟨by omega, by omega⟩
  unfold yBc2
  rw [e]
  exact Iff.rfl
theorem ySl_m {B B' : Nat → Prop} {st st' : Nat → Prop} {dy dy' : Nat → Int} {A : Nat → Int} : ∀ (N k : Nat), (∀ j : Nat, j < N → (B j ↔ B' j) ∧ (st j ↔ st' j) ∧ dy j = dy' j) → ySl B st dy A N k → ySl B' st' dy' A N k
  | 0, _, _, h => h
  | N + 1, k, e, h => by
    obtain ⟨k0, h1, h2⟩ := h
    obtain ⟨e1, e2, e3⟩ := e N (Nat.lt_succ_self N)
    have ih := ySl_m N k0 (fun j hj => e j (by omega)) h1
    rcases h2 with ⟨b1, b2, b3, b4, b5, b6⟩ | ⟨b1, b2⟩
    · refine ⟨k0, ih, Or.inl ⟨e1.mp b1, b2, e2.mp b3, ?_, b5, b6⟩⟩
      rcases b4 with b4 | b4
      · exact Or.inl b4
      · by_cases c : k0 = 0
        · exact Or.inl c
        · have q := ((ySl_b N k0 h1).2.2 0 (by omega)).1
          right
          rw [← e3, ← (e (Int.toNat (A 0)) (by omega)).2.2]
          exact b4
    · exact ⟨k0, ih, Or.inr ⟨fun z => b1 (e1.mpr z), b2⟩⟩
/-- who is chosen is the same -/
theorem yCl_al {g : yM} (h : yKnv g) {v : Int} (hv : 0 ≤ v ∧ v ≤ 9223372036854775807) {A : Nat → Int} {k : Nat} : yCl1 g v A (Int.toNat (g 1 1)) k ↔ yCl2 g v A (Int.toNat (g 90 22)) k := by
  have hs := yK_s h
  have key : ∀ j : Nat, j < Int.toNat (g 1 1) → ((yBc v j ↔ yBc2 v j) ∧ (g (50 + j) 10 ≠ -2 ↔ yMf g j ≠ -2) ∧ g (50 + j) 0 = g 101 j) := fun j hj => by
    have cc := yK_c h (c := j) (by omega)
    refine ⟨yBc_al hv (by omega), ?_, cc.1.1.symm⟩
    rw [cc.2.2.2.2.2.2.1]
  rw [hs.1.1]
  constructor
  · exact fun z => ySl_m _ _ key z
  · exact fun z => ySl_m _ _ (fun j hj => ⟨(key j hj).1.symm, (key j hj).2.1.symm, (key j hj).2.2.symm⟩) z
theorem yOk_al {g : yM} (h : yKnv g) {v : Int} (hv : -9223372036854775808 ≤ v ∧ v ≤ 9223372036854775807) : yOk1 g v ↔ yOk2 g v := by
  have hs := yK_s h
  have hH : yHc2 g v ↔ yShu v (g 1 1) = 0 := by
    have c := ycmp_s (yShu v (g 1 1)) 0
    show ycmp (yShu v (g 1 1)) 0 = 0 ↔ yShu v (g 1 1) = 0
    omega
  constructor
  · intro ⟨z1, k, A, z2, z3⟩
    have z4 := hH.mp z1
    have nn : 0 ≤ v := by
      by_cases c : 0 ≤ v
      · exact c
      · exact absurd z4 (yShu_n ⟨hv.1, by omega⟩ ⟨hs.1.2.1, hs.1.2.2⟩)
    have z5 := (yCl_al h ⟨nn, hv.2⟩).mp z3
    refine ⟨?_, ?_, k, A, z5⟩
    · by_cases c : v = 0
      · exfalso
        have none : ∀ N j : Nat, N ≤ 40 → yCl2 g v A N j → j = 0 := by
          intro N
          induction N with
          | zero => exact fun j _ q => q
          | succ N ih =>
            intro j hN q
            obtain ⟨k0, q1, q2⟩ := q
            have q3 := ih k0 (by omega) q1
            rcases q2 with ⟨b1, -⟩ | ⟨-, b2⟩
            · have b3 := (yBc2_v (v := v) (i := N) ⟨nn, hv.2⟩ (by omega)).mp b1
              rw [c, show Int.toNat 0 = 0 from rfl, Nat.zero_div] at b3
              omega
            · omega
        have q := none _ k (by omega) z5
        omega
      · omega
    · rw [yShs_us ⟨nn, hv.2⟩ ⟨by omega, by omega⟩, hs.1.1]
      exact z4
  · intro ⟨z1, z2, k, A, z3⟩
    have kp := yCl2_p ⟨z1, hv.2⟩ (by omega) z2 z3
    refine ⟨hH.mpr ?_, k, A, kp, (yCl_al h ⟨by omega, hv.2⟩).mpr z3⟩
    rw [← hs.1.1, ← yShs_us ⟨by omega, hv.2⟩ ⟨by omega, by omega⟩]
    exact z2
/-- the fewest are the same -/
theorem yFw_q {g : yM} (h : yKnv g) {v r s : Int} (hv : 0 ≤ v ∧ v ≤ 9223372036854775807) (h1 : yFwR g v r) (h2 : yFoR g v s) : r = s := by
  obtain ⟨n, A, c, fw, n0, a1, a2, a3, a4⟩ := h1
  obtain ⟨l, C, d, l0, b1, b2, b3, b4⟩ := h2
  have hs := yK_s h
  have u := ySl_u _ _ _ (fun _ _ => Iff.rfl) ((yCl_al h hv).mp a1) b1
  obtain ⟨u1, u2⟩ := u
  subst u1
  have hb := ySl_b _ _ a1
  have inn : ∀ j : Nat, j < n → (Int.toNat (C j) : Int) < g 1 1 ∧ C j = A j := fun j hj => by
    have z := (hb.2.2 j hj).1
    have z2 := u2 j hj
    omega
  have cm : ∀ j : Nat, j < n → g (50 + Int.toNat (A j)) 10 = yMf g (Int.toNat (C j)) ∧ g (50 + Int.toNat (A j)) 11 = yMl g (Int.toNat (C j)) ∧ (0 ≤ g (50 + Int.toNat (A j)) 10 ∧ g (50 + Int.toNat (A j)) 10 ≤ g (50 + Int.toNat (A j)) 11) := fun j hj => by
    obtain ⟨i1, i2⟩ := inn j hj
    have st : g (50 + Int.toNat (A j)) 10 ≠ -2 := (hb.2.2 j hj).2
    rw [i2] at i1 ⊢
    have cc := yK_c h i1
    have lt := yK_lt h i1 st
    have e1 := cc.2.2.2.2.2.2.1
    have e2 := cc.2.2.2.2.2.2.2.1 st
    have e3 := cc.2.2.2.2.2.2.2.2.2
    exact ⟨e1.symm, e2.symm, by omega, lt.1⟩
  have dp := a3.c (F := fun j => yMf g (Int.toNat (C j))) (M := fun j => yMl g (Int.toNat (C j))) (d := d) (fun i hi => (cm i hi).1) (fun i hi => (cm i hi).2.1) (fun p q hp hq => by
    rw [a2 p q hp hq, b2, (inn p hp).2, (inn q hq).2]
    have ip := inn p hp
    have iq := inn q hq
    rw [ip.2] at ip
    rw [iq.2] at iq
    exact (yK_la h ip.1 iq.1).symm)
  rw [a4]
  refine yFw_al (I := fun j => g (50 + Int.toNat (C j)) 1) hb.1 (fun i hi => ?_) (fun p q hp hq hc => ?_) dp b3 b4
  · have z := cm i hi
    show 0 ≤ yMf g (Int.toNat (C i)) ∧ yMf g (Int.toNat (C i)) ≤ yMl g (Int.toNat (C i))
    omega
  · have z := (yK_la h (inn p hp).1 (inn q hq).1).mp ((b2 p q).mp hc)
    have cp := yK_c h (inn p hp).1
    have cq := yK_c h (inn q hq).1
    have z3 := z.2.2
    have w1 := cp.2.1
    have w2 := cq.2.1
    have w3 := cp.2.2.2.2.1
    rw [yw_s (g (50 + Int.toNat (C q)) 1 + g 1 9) (by omega) (by omega), yw_s (g (50 + Int.toNat (C p)) 1 - g 1 9) (by omega) (by omega)] at z3
    show g (50 + Int.toNat (C q)) 1 < g (50 + Int.toNat (C p)) 1
    omega
theorem yF8_ok {g m : yM} (hF : yF8 g m) {v : Int} : (yOk1 g v ↔ yOk1 m v) ∧ ∀ r : Int, yFwR g v r → yFwR m v r := by
  have e5 : ∀ j b : Nat, m (50 + j) b = g (50 + j) b := fun j b => hF (50 + j) b (by omega) (by omega) (by omega) (by omega)
  have e1 : ∀ b : Nat, m 1 b = g 1 b := fun b => hF 1 b (by decide) (by decide) (by decide) (by omega)
  have eC : yCl1 m v = yCl1 g v := by
    unfold yCl1
    simp only [e5]
  have eH : yHc2 m v ↔ yHc2 g v := by
    unfold yHc2
    rw [e1]
  have ep : ∀ p q : Nat, yCp m p q ↔ yCp g p q := fun p q => by
    unfold yCp
    simp only [e5, e1]
  refine ⟨?_, fun r h => ?_⟩
  · unfold yOk1
    rw [eC, eH, e1]
  · obtain ⟨n, A, c, fw, n0, a1, a2, a3, a4⟩ := h
    refine ⟨n, A, c, fw, n0, by rw [eC, e1]; exact a1, fun p q hp hq => by rw [ep]; exact a2 p q hp hq, ?_, a4⟩
    simp only [e5]
    exact a3
theorem yjc_FW0 {g : yM} (hK : yKnv g) : yTy zpZ g := by
  exact yK_ty hK
theorem yjm_FW0 {g g1 : yM} {v r1 : Int} (hK : yKnv g) (a0 : ¬ yOk1 g v → r1 = -1) (a1 : yOk1 g v → yFwR g v r1) (a2 : yTy zpZ g1) (a3 : yF8 g g1) (a4 : -9223372036854775808 ≤ v ∧ v ≤ 9223372036854775807) : yTy zpZ g1 := by
  have h1 : yKnv g1 := hK.f8 a2 a3
  exact yK_ty h1
theorem yjm_FW1 {g g1 : yM} {v r1 : Int} (hK : yKnv g) (a0 : ¬ yOk1 g v → r1 = -1) (a1 : yOk1 g v → yFwR g v r1) (a2 : yTy zpZ g1) (a3 : yF8 g g1) (a4 : -9223372036854775808 ≤ v ∧ v ≤ 9223372036854775807) : 0 ≤ g1 90 22 ∧ g1 90 22 ≤ 40 := by
  have h1 : yKnv g1 := hK.f8 a2 a3
  have h := (yK_s h1).1
  omega
theorem yjm_FW2 {g g1 : yM} {v r1 : Int} (hK : yKnv g) (a0 : ¬ yOk1 g v → r1 = -1) (a1 : yOk1 g v → yFwR g v r1) (a2 : yTy zpZ g1) (a3 : yF8 g g1) (a4 : -9223372036854775808 ≤ v ∧ v ≤ 9223372036854775807) : 0 ≤ g1 90 6 ∧ g1 90 6 ≤ 12 := by
  have h1 : yKnv g1 := hK.f8 a2 a3
  have h := (yK_s h1).2.1
  omega
theorem yjm_FW3 {g g1 : yM} {v r1 : Int} (hK : yKnv g) (a0 : ¬ yOk1 g v → r1 = -1) (a1 : yOk1 g v → yFwR g v r1) (a2 : yTy zpZ g1) (a3 : yF8 g g1) (a4 : -9223372036854775808 ≤ v ∧ v ≤ 9223372036854775807) : ∀ n : Nat, (n : Int) < g1 90 22 → (0 ≤ g1 104 n ∧ g1 104 n ≤ 5) ∧ g1 102 n ≤ 719 := by
  have h1 : yKnv g1 := hK.f8 a2 a3
  exact yK_m h1
theorem yq_FW {g g1 g2 : yM} {v r1 r2 : Int} (hK : yKnv g) (a0 : ¬ yOk1 g v → r1 = -1) (a1 : yOk1 g v → yFwR g v r1) (a2 : yTy zpZ g1) (a3 : yF8 g g1) (a4 : -9223372036854775808 ≤ v ∧ v ≤ 9223372036854775807) (b0 : yTy zpZ g2) (b1 : yFo g1 g2) (b2 : ¬ yOk2 g1 v → r2 = -1) (b3 : yOk2 g1 v → yFoR g1 v r2) : yKnv g2 ∧ r1 = r2 := by
  have h1 : yKnv g1 := hK.f8 a2 a3
  refine ⟨h1.fo b0 b1, ?_⟩
  obtain ⟨k1, k2⟩ := yF8_ok a3 (v := v)
  have ka := yOk_al h1 (v := v) a4
  by_cases ok : yOk1 g v
  · have ok2 := ka.mp (k1.mp ok)
    exact yFw_q h1 ⟨by have := ok2.1; omega, a4.2⟩ (k2 r1 (a1 ok)) (b3 ok2)
  · rw [a0 ok, b2 (fun z => ok (k1.mpr (ka.mpr z)))]
