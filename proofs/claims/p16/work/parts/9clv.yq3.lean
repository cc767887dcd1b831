/-! THE QUESTIONS ALIKE -/
theorem yKnv.fd {g m : yM} (h : yKnv g) (hf : yFd g m) : yKnv m := by
  have u : yUn [(110, 111, 0, 0)] g m := fun a b hn => hf.2.1 a b (fun e => hn (110, 111, 0, 0) (by decide) (by rw [e]; exact ⟨by decide, by decide, Or.inl rfl⟩)) (fun e => hn (110, 111, 0, 0) (by decide) (by rw [e]; exact ⟨by decide, by decide, Or.inl rfl⟩))
  exact ⟨⟨⟨hf.1, h.1.1.2.mono (u.eq (by decide +kernel))⟩, h.1.2.mono (u.eq (by decide +kernel))⟩, h.2.mono h.1.1.1.sz.2 (u.eq (by decide +kernel))⟩
/-- what both sides hold of a comer -/
theorem yK_c {g : yM} (h : yKnv g) {c : Nat} (hc : (c : Int) < g 1 1) : (g 101 c = g (50 + c) 0 ∧ g 102 c = g (50 + c) 2 ∧ g 103 c = g (50 + c) 3 ∧ g 104 c = g (50 + c) 4 ∧ g 105 c = g (50 + c) 5 ∧ g 106 c = g (50 + c) 6 ∧ g 107 c = g (50 + c) 7 ∧ g 108 c = g (50 + c) 8) ∧ (g 91 c = g (50 + c) 1 ∧ 0 ≤ g (50 + c) 1 ∧ g (50 + c) 1 < g (50 + c) 2 ∧ g (50 + c) 2 ≤ 719) ∧ (0 ≤ g (50 + c) 4 ∧ g (50 + c) 4 ≤ 5) ∧ (-1 ≤ g (50 + c) 8 ∧ g (50 + c) 8 ≤ 719) ∧ (g 91 52 = g 1 9 ∧ 0 ≤ g 1 9 ∧ g 1 9 ≤ 30) ∧ (yMg g c (Int.toNat (g 90 22)) = g (50 + c) 9 ∧ yMf g c = g (50 + c) 10 ∧ (g (50 + c) 10 ≠ -2 → yMl g c = g (50 + c) 11) ∧ (g (50 + c) 10 = -2 → g (50 + c) 11 = -2) ∧ (g (50 + c) 10 = -2 ∨ 0 ≤ g (50 + c) 10)) := by
  obtain ⟨hVt, hVc, hVv, hVh, hVd⟩ := h.1.2
  have hz := hVc.2.1
  obtain ⟨h1, b0, b2, b3, b4, b5, b6, b7, b8⟩ := hVc.2.2 c hc
  have v0 := hVv 0 c (Or.inl ⟨rfl, by omega, hc, by omega⟩)
  rw [ycod_0, ykv_0, Int.toNat_natCast] at v0
  have v0b := v0.2.1 rfl
  rw [Int.toNat_natCast] at v0b
  have v3 := hVv 3 0 (Or.inr (Or.inr (Or.inr ⟨rfl, rfl⟩)))
  rw [ycod_3, ykv_3] at v3
  have v3b := v3.2.2.2 rfl
  exact ⟨h1, ⟨v0.1, v0b.1, v0b.2, b2.2⟩, b4, b8, ⟨v3.1, v3b.1, v3b.2⟩, yst_al h.1 h.2.1 h.2.2 hc⟩
theorem yK_s {g : yM} (h : yKnv g) : (g 90 22 = g 1 1 ∧ 0 ≤ g 1 1 ∧ g 1 1 ≤ 40) ∧ (g 90 6 = g 1 7 ∧ 0 ≤ g 1 7 ∧ g 1 7 ≤ 12) ∧ (g 90 10 = g 1 8 ∧ 0 ≤ g 1 8 ∧ g 1 8 ≤ 3) ∧ (g 90 11 = g 1 10 ∧ 0 ≤ g 1 10 ∧ g 1 10 ≤ 1) := by
  obtain ⟨hVt, hVc, hVv, hVh, hVd⟩ := h.1.2
  exact ⟨⟨hVc.1, hVc.2.1⟩, hVd.1, hVd.2.1, hVd.2.2.1⟩
theorem yK_m {g : yM} (h : yKnv g) : ∀ n : Nat, (n : Int) < g 90 22 → (0 ≤ g 104 n ∧ g 104 n ≤ 5) ∧ g 102 n ≤ 719 := fun n hn => by
  have hs := (yK_s h).1
  have hc := yK_c h (c := n) (by omega)
  omega
theorem yLa_al {g m : yM} (h : yKnv g) (hf : yFd g m) {p q : Nat} (hp : (p : Int) < g 1 1) (hq : (q : Int) < g 1 1) : yLa m p q ↔ yCp g p q := by
  have cp := yK_c h hp
  have cq := yK_c h hq
  have hs := yK_s h
  have fr : ∀ a b : Nat, a < 110 → m a b = g a b := fun a b hab => hf.2.1 a b (by omega) (by omega)
  unfold yLa yCp
  rw [fr 101 p (by decide), fr 101 q (by decide), fr 90 11 (by decide), fr 107 p (by decide), fr 107 q (by decide), fr 91 p (by decide), fr 91 q (by decide), fr 91 52 (by decide), cp.1.1, cq.1.1, cp.1.2.2.2.2.2.2.1, cq.1.2.2.2.2.2.2.1, hs.2.2.2.1, cp.2.1.1, cq.2.1.1, cp.2.2.2.2.1.1]
theorem yCp_ne {g : yM} (h : yKnv g) {p q : Nat} (hp : (p : Int) < g 1 1) (hc : yCp g p q) : p ≠ q := fun e => by
  subst e
  have cp := yK_c h hp
  have h3 := hc.2.2
  rw [yw_s (g (50 + p) 1 + g 1 9) (by omega) (by omega), yw_s (g (50 + p) 1 - g 1 9) (by omega) (by omega)] at h3
  omega
theorem yK_f {g m : yM} (h : yKnv g) (hf : yFd g m) {c : Nat} (hc : (c : Int) < g 1 1) : m 110 c = g (50 + c) 10 ∧ m 111 c = ySv g c ∧ yMl m c = yMl g c ∧ m 108 c = g (50 + c) 8 ∧ m 101 c = g (50 + c) 0 := by
  have fr : ∀ a b : Nat, a < 110 → m a b = g a b := fun a b hab => hf.2.1 a b (by omega) (by omega)
  have hs := yK_s h
  have cc := yK_c h hc
  have f := hf.2.2 c (by omega)
  refine ⟨f.1.trans cc.2.2.2.2.2.2.1, ?_, yMl_fr fr c, (fr 108 c (by decide)).trans cc.1.2.2.2.2.2.2.2, (fr 101 c (by decide)).trans cc.1.1⟩
  rw [f.2, cc.2.2.2.2.2.2.1, cc.1.2.2.2.2.2.2.2]
  unfold ySv
  by_cases e : g (50 + c) 8 = -1
  · rw [if_pos e, if_neg (by omega)]
  · rw [if_neg e, if_pos (by omega)]
theorem yPs_al {g m : yM} (h : yKnv g) (hf : yFd g m) {w : Int} (hw : w ≠ 2) {p q : Nat} (hp : (p : Int) < g 1 1) (hq : (q : Int) < g 1 1) : yPs g w p q ↔ yPm m w p q := by
  have cp := yK_c h hp
  have cq := yK_c h hq
  have fp := yK_f h hf hp
  have fq := yK_f h hf hq
  have la := yLa_al h hf hp hq
  unfold yPs yPm
  rw [fp.1, fq.1, fp.2.2.1, fq.2.2.1]
  constructor
  · intro ⟨c1, c2, c3⟩
    have c4 := c3 hw
    exact ⟨yCp_ne h hp c1, la.mpr c1, by omega, by omega, by omega, by omega⟩
  · intro ⟨c1, c2, c3, c4, c5, c6⟩
    exact ⟨la.mp c2, fun e => absurd e hw, fun _ => by omega⟩
theorem yPt_al {g m : yM} (h : yKnv g) (hf : yFd g m) {p q : Nat} (hp : (p : Int) < g 1 1) (hq : (q : Int) < g 1 1) : yPs g 2 p q ↔ yPt m p q := by
  have fp := yK_f h hf hp
  have fq := yK_f h hf hq
  have la := yLa_al h hf hp hq
  unfold yPs yPt
  rw [fp.2.1, fq.2.1]
  constructor
  · intro ⟨c1, c2, c3⟩
    have c4 := c2 rfl
    exact ⟨yCp_ne h hp c1, la.mpr c1, by omega, by omega, by omega⟩
  · intro ⟨c1, c2, c3, c4, c5⟩
    exact ⟨la.mp c2, fun _ => ⟨c3, c5⟩, fun e => absurd rfl e⟩
theorem yMs_al {g m : yM} (h : yKnv g) (hf : yFd g m) {t : Int} {c : Nat} (hc : (c : Int) < g 1 1) : yMs g t c ↔ yMm m t c := by
  have cc := yK_c h hc
  have fc := yK_f h hf hc
  unfold yMs yMm
  rw [fc.1, fc.2.2.1, fc.2.2.2.1, fc.2.2.2.2]
  omega
theorem yK_ty {g : yM} (h : yKnv g) : yTy zpZ g := h.1.1.1
theorem yjc_OF0 {g : yM} (hK : yKnv g) : 0 ≤ g 1 1 ∧ g 1 1 ≤ 40 := by
  exact (yK_s hK).1.2
theorem yjm_OF0 {g : yM} {w x r1 : Int} (hK : yKnv g) (a0 : ¬ (0 ≤ w ∧ w < g 1 1) → r1 = -1) (a1 : 0 ≤ w ∧ w < g 1 1 → x < 0 ∨ 10 < x → r1 = -1) (a2 : 0 ≤ w ∧ w < g 1 1 → 0 ≤ x ∧ x ≤ 7 → r1 = g (50 + Int.toNat w) (Int.toNat x)) (a3 : 0 ≤ w ∧ w < g 1 1 → 8 ≤ x ∧ x ≤ 10 → r1 = g (50 + Int.toNat w) (Int.toNat x + 1)) : 0 ≤ g 90 22 ∧ g 90 22 ≤ 40 := by
  have h := (yK_s hK).1
  omega
theorem yjm_OF1 {g : yM} {w x r1 : Int} (hK : yKnv g) (a0 : ¬ (0 ≤ w ∧ w < g 1 1) → r1 = -1) (a1 : 0 ≤ w ∧ w < g 1 1 → x < 0 ∨ 10 < x → r1 = -1) (a2 : 0 ≤ w ∧ w < g 1 1 → 0 ≤ x ∧ x ≤ 7 → r1 = g (50 + Int.toNat w) (Int.toNat x)) (a3 : 0 ≤ w ∧ w < g 1 1 → 8 ≤ x ∧ x ≤ 10 → r1 = g (50 + Int.toNat w) (Int.toNat x + 1)) : 0 ≤ g 90 6 ∧ g 90 6 ≤ 12 := by
  have h := (yK_s hK).2.1
  omega
theorem yjm_OF2 {g : yM} {w x r1 : Int} (hK : yKnv g) (a0 : ¬ (0 ≤ w ∧ w < g 1 1) → r1 = -1) (a1 : 0 ≤ w ∧ w < g 1 1 → x < 0 ∨ 10 < x → r1 = -1) (a2 : 0 ≤ w ∧ w < g 1 1 → 0 ≤ x ∧ x ≤ 7 → r1 = g (50 + Int.toNat w) (Int.toNat x)) (a3 : 0 ≤ w ∧ w < g 1 1 → 8 ≤ x ∧ x ≤ 10 → r1 = g (50 + Int.toNat w) (Int.toNat x + 1)) : ∀ n : Nat, (n : Int) < g 90 22 → (0 ≤ g 104 n ∧ g 104 n ≤ 5) ∧ g 102 n ≤ 719 := by
  exact yK_m hK
theorem yq_OF {g : yM} {w x r1 r2 : Int} (hK : yKnv g) (a0 : ¬ (0 ≤ w ∧ w < g 1 1) → r1 = -1) (a1 : 0 ≤ w ∧ w < g 1 1 → x < 0 ∨ 10 < x → r1 = -1) (a2 : 0 ≤ w ∧ w < g 1 1 → 0 ≤ x ∧ x ≤ 7 → r1 = g (50 + Int.toNat w) (Int.toNat x)) (a3 : 0 ≤ w ∧ w < g 1 1 → 8 ≤ x ∧ x ≤ 10 → r1 = g (50 + Int.toNat w) (Int.toNat x + 1)) (b0 : ¬ (0 ≤ w ∧ w < g 90 22) → r2 = -1) (b1 : 0 ≤ w ∧ w < g 90 22 → x < 0 ∨ 10 < x → r2 = -1) (b2 : 0 ≤ w ∧ w < g 90 22 → x = 0 → r2 = g 101 (Int.toNat w)) (b3 : 0 ≤ w ∧ w < g 90 22 → x = 1 → r2 = g 91 (Int.toNat w)) (b4 : 0 ≤ w ∧ w < g 90 22 → x = 2 → r2 = g 102 (Int.toNat w)) (b5 : 0 ≤ w ∧ w < g 90 22 → x = 3 → r2 = g 103 (Int.toNat w)) (b6 : 0 ≤ w ∧ w < g 90 22 → x = 4 → r2 = g 104 (Int.toNat w)) (b7 : 0 ≤ w ∧ w < g 90 22 → x = 5 → r2 = g 105 (Int.toNat w)) (b8 : 0 ≤ w ∧ w < g 90 22 → x = 6 → r2 = g 106 (Int.toNat w)) (b9 : 0 ≤ w ∧ w < g 90 22 → x = 7 → r2 = g 107 (Int.toNat w)) (b10 : 0 ≤ w ∧ w < g 90 22 → x = 8 → r2 = yMg g (Int.toNat w) (Int.toNat (g 90 22))) (b11 : 0 ≤ w ∧ w < g 90 22 → x = 9 → r2 = yMf g (Int.toNat w)) (b12 : 0 ≤ w ∧ w < g 90 22 → x = 10 → r2 = if yMf g (Int.toNat w) = -2 then -2 else yMl g (Int.toNat w)) : yKnv g ∧ r1 = r2 := by
  refine ⟨hK, ?_⟩
  have hs := yK_s hK
  by_cases ok : 0 ≤ w ∧ w < g 1 1
  · have ok2 : 0 ≤ w ∧ w < g 90 22 := by omega
    have cc := yK_c hK (c := Int.toNat w) (by omega)
    obtain ⟨⟨c1, c2, c3, c4, c5, c6, c7, c8⟩, ⟨d1, d2⟩, d3, d4, d5, e1, e2, e3, e4, e5⟩ := cc
    have hx : (x < 0 ∨ 10 < x) ∨ x = 0 ∨ x = 1 ∨ x = 2 ∨ x = 3 ∨ x = 4 ∨ x = 5 ∨ x = 6 ∨ x = 7 ∨ x = 8 ∨ x = 9 ∨ x = 10 := by omega
    rcases hx with hx | rfl | rfl | rfl | rfl | rfl | rfl | rfl | rfl | rfl | rfl | rfl
    · rw [a1 ok hx, b1 ok2 hx]
    · rw [a2 ok (by decide), b2 ok2 rfl, c1]
      rfl
    · rw [a2 ok (by decide), b3 ok2 rfl, d1]
      rfl
    · rw [a2 ok (by decide), b4 ok2 rfl, c2]
      rfl
    · rw [a2 ok (by decide), b5 ok2 rfl, c3]
      rfl
    · rw [a2 ok (by decide), b6 ok2 rfl, c4]
      rfl
    · rw [a2 ok (by decide), b7 ok2 rfl, c5]
      rfl
    · rw [a2 ok (by decide), b8 ok2 rfl, c6]
      rfl
    · rw [a2 ok (by decide), b9 ok2 rfl, c7]
      rfl
    · rw [a3 ok (by decide), b10 ok2 rfl, e1]
      rfl
    · rw [a3 ok (by decide), b11 ok2 rfl, e2]
      rfl
    · rw [a3 ok (by decide), b12 ok2 rfl, e2]
      by_cases e : g (50 + Int.toNat w) 10 = -2
      · rw [if_pos e]
        exact e4 e
      · rw [if_neg e]
        exact (e3 e).symm
  · rw [a0 ok, b0 (by omega)]
theorem yjc_CN0 {g : yM} (hK : yKnv g) : 0 ≤ g 1 1 ∧ g 1 1 ≤ 40 := by
  exact (yK_s hK).1.2
theorem yjm_CN0 {g : yM} {t r1 : Int} (hK : yKnv g) (a0 : ¬ (0 ≤ t ∧ t < 4) → r1 = -1) (a1 : 0 ≤ t ∧ t < 4 → yFst (fun i => g (50 + i) 0 = t ∧ g (50 + i) 10 = -2) (g 1 1) r1) : 0 ≤ g 90 22 ∧ g 90 22 ≤ 40 := by
  have h := (yK_s hK).1
  omega
theorem yjm_CN1 {g : yM} {t r1 : Int} (hK : yKnv g) (a0 : ¬ (0 ≤ t ∧ t < 4) → r1 = -1) (a1 : 0 ≤ t ∧ t < 4 → yFst (fun i => g (50 + i) 0 = t ∧ g (50 + i) 10 = -2) (g 1 1) r1) : 0 ≤ g 90 6 ∧ g 90 6 ≤ 12 := by
  have h := (yK_s hK).2.1
  omega
theorem yjm_CN2 {g : yM} {t r1 : Int} (hK : yKnv g) (a0 : ¬ (0 ≤ t ∧ t < 4) → r1 = -1) (a1 : 0 ≤ t ∧ t < 4 → yFst (fun i => g (50 + i) 0 = t ∧ g (50 + i) 10 = -2) (g 1 1) r1) : ∀ n : Nat, (n : Int) < g 90 22 → (0 ≤ g 104 n ∧ g 104 n ≤ 5) ∧ g 102 n ≤ 719 := by
  exact yK_m hK
theorem yq_CN {g : yM} {t r1 r2 : Int} (hK : yKnv g) (a0 : ¬ (0 ≤ t ∧ t < 4) → r1 = -1) (a1 : 0 ≤ t ∧ t < 4 → yFst (fun i => g (50 + i) 0 = t ∧ g (50 + i) 10 = -2) (g 1 1) r1) (b0 : ¬ (0 ≤ t ∧ t ≤ 3) → r2 = -1) (b1 : (0 ≤ t ∧ t ≤ 3) → yFst (fun i => g 101 i = t ∧ yMf g i = -2) (g 90 22) r2) : yKnv g ∧ r1 = r2 := by
  refine ⟨hK, ?_⟩
  have hs := yK_s hK
  by_cases ok : 0 ≤ t ∧ t < 4
  · have h2 := b1 (by omega)
    rw [hs.1.1] at h2
    refine yFst_u (fun i hi => ?_) (a1 ok) h2
    have cc := yK_c hK hi
    show (g (50 + i) 0 = t ∧ g (50 + i) 10 = -2) ↔ (g 101 i = t ∧ yMf g i = -2)
    rw [cc.1.1, cc.2.2.2.2.2.2.1]
  · rw [a0 ok, b0 (by omega)]
theorem yjc_PD0 {g : yM} (hK : yKnv g) : 0 ≤ g 1 1 ∧ g 1 1 ≤ 40 := by
  exact (yK_s hK).1.2
theorem yjm_PD0 {g : yM} {v h r1 : Int} (hK : yKnv g) (a0 : ¬ ((0 ≤ (yb (fun x y => x / y) v 100) ∧ (yb (fun x y => x / y) v 100) < g 1 1) ∧ (0 ≤ (yb (fun x y => x - x / y * y) v 100) ∧ (yb (fun x y => x - x / y * y) v 100) < g 1 1) ∧ (yb (fun x y => x / y) v 100) ≠ (yb (fun x y => x - x / y * y) v 100) ∧ 0 ≤ h ∧ h ≤ 1 ∧ g (50 + Int.toNat (yb (fun x y => x / y) v 100)) 0 = g (50 + Int.toNat (yb (fun x y => x - x / y * y) v 100)) 0) → r1 = -1) (a1 : ((0 ≤ (yb (fun x y => x / y) v 100) ∧ (yb (fun x y => x / y) v 100) < g 1 1) ∧ (0 ≤ (yb (fun x y => x - x / y * y) v 100) ∧ (yb (fun x y => x - x / y * y) v 100) < g 1 1) ∧ (yb (fun x y => x / y) v 100) ≠ (yb (fun x y => x - x / y * y) v 100) ∧ 0 ≤ h ∧ h ≤ 1 ∧ g (50 + Int.toNat (yb (fun x y => x / y) v 100)) 0 = g (50 + Int.toNat (yb (fun x y => x - x / y * y) v 100)) 0) → (r1 = 1 ∧ yPs g h (Int.toNat (yb (fun x y => x / y) v 100)) (Int.toNat (yb (fun x y => x - x / y * y) v 100))) ∨ (r1 = 0 ∧ ¬ yPs g h (Int.toNat (yb (fun x y => x / y) v 100)) (Int.toNat (yb (fun x y => x - x / y * y) v 100)))) (a2 : -2147483648 ≤ v ∧ v ≤ 2147483647) : yTy zpZ g := by
  exact yK_ty hK
theorem yjm_PD1 {g : yM} {v h r1 : Int} (hK : yKnv g) (a0 : ¬ ((0 ≤ (yb (fun x y => x / y) v 100) ∧ (yb (fun x y => x / y) v 100) < g 1 1) ∧ (0 ≤ (yb (fun x y => x - x / y * y) v 100) ∧ (yb (fun x y => x - x / y * y) v 100) < g 1 1) ∧ (yb (fun x y => x / y) v 100) ≠ (yb (fun x y => x - x / y * y) v 100) ∧ 0 ≤ h ∧ h ≤ 1 ∧ g (50 + Int.toNat (yb (fun x y => x / y) v 100)) 0 = g (50 + Int.toNat (yb (fun x y => x - x / y * y) v 100)) 0) → r1 = -1) (a1 : ((0 ≤ (yb (fun x y => x / y) v 100) ∧ (yb (fun x y => x / y) v 100) < g 1 1) ∧ (0 ≤ (yb (fun x y => x - x / y * y) v 100) ∧ (yb (fun x y => x - x / y * y) v 100) < g 1 1) ∧ (yb (fun x y => x / y) v 100) ≠ (yb (fun x y => x - x / y * y) v 100) ∧ 0 ≤ h ∧ h ≤ 1 ∧ g (50 + Int.toNat (yb (fun x y => x / y) v 100)) 0 = g (50 + Int.toNat (yb (fun x y => x - x / y * y) v 100)) 0) → (r1 = 1 ∧ yPs g h (Int.toNat (yb (fun x y => x / y) v 100)) (Int.toNat (yb (fun x y => x - x / y * y) v 100))) ∨ (r1 = 0 ∧ ¬ yPs g h (Int.toNat (yb (fun x y => x / y) v 100)) (Int.toNat (yb (fun x y => x - x / y * y) v 100)))) (a2 : -2147483648 ≤ v ∧ v ≤ 2147483647) : 0 ≤ g 90 22 ∧ g 90 22 ≤ 40 := by
  have h := (yK_s hK).1
  omega
theorem yjm_PD2 {g : yM} {v h r1 : Int} (hK : yKnv g) (a0 : ¬ ((0 ≤ (yb (fun x y => x / y) v 100) ∧ (yb (fun x y => x / y) v 100) < g 1 1) ∧ (0 ≤ (yb (fun x y => x - x / y * y) v 100) ∧ (yb (fun x y => x - x / y * y) v 100) < g 1 1) ∧ (yb (fun x y => x / y) v 100) ≠ (yb (fun x y => x - x / y * y) v 100) ∧ 0 ≤ h ∧ h ≤ 1 ∧ g (50 + Int.toNat (yb (fun x y => x / y) v 100)) 0 = g (50 + Int.toNat (yb (fun x y => x - x / y * y) v 100)) 0) → r1 = -1) (a1 : ((0 ≤ (yb (fun x y => x / y) v 100) ∧ (yb (fun x y => x / y) v 100) < g 1 1) ∧ (0 ≤ (yb (fun x y => x - x / y * y) v 100) ∧ (yb (fun x y => x - x / y * y) v 100) < g 1 1) ∧ (yb (fun x y => x / y) v 100) ≠ (yb (fun x y => x - x / y * y) v 100) ∧ 0 ≤ h ∧ h ≤ 1 ∧ g (50 + Int.toNat (yb (fun x y => x / y) v 100)) 0 = g (50 + Int.toNat (yb (fun x y => x - x / y * y) v 100)) 0) → (r1 = 1 ∧ yPs g h (Int.toNat (yb (fun x y => x / y) v 100)) (Int.toNat (yb (fun x y => x - x / y * y) v 100))) ∨ (r1 = 0 ∧ ¬ yPs g h (Int.toNat (yb (fun x y => x / y) v 100)) (Int.toNat (yb (fun x y => x - x / y * y) v 100)))) (a2 : -2147483648 ≤ v ∧ v ≤ 2147483647) : 0 ≤ g 90 6 ∧ g 90 6 ≤ 12 := by
  have h := (yK_s hK).2.1
  omega
theorem yjm_PD3 {g : yM} {v h r1 : Int} (hK : yKnv g) (a0 : ¬ ((0 ≤ (yb (fun x y => x / y) v 100) ∧ (yb (fun x y => x / y) v 100) < g 1 1) ∧ (0 ≤ (yb (fun x y => x - x / y * y) v 100) ∧ (yb (fun x y => x - x / y * y) v 100) < g 1 1) ∧ (yb (fun x y => x / y) v 100) ≠ (yb (fun x y => x - x / y * y) v 100) ∧ 0 ≤ h ∧ h ≤ 1 ∧ g (50 + Int.toNat (yb (fun x y => x / y) v 100)) 0 = g (50 + Int.toNat (yb (fun x y => x - x / y * y) v 100)) 0) → r1 = -1) (a1 : ((0 ≤ (yb (fun x y => x / y) v 100) ∧ (yb (fun x y => x / y) v 100) < g 1 1) ∧ (0 ≤ (yb (fun x y => x - x / y * y) v 100) ∧ (yb (fun x y => x - x / y * y) v 100) < g 1 1) ∧ (yb (fun x y => x / y) v 100) ≠ (yb (fun x y => x - x / y * y) v 100) ∧ 0 ≤ h ∧ h ≤ 1 ∧ g (50 + Int.toNat (yb (fun x y => x / y) v 100)) 0 = g (50 + Int.toNat (yb (fun x y => x - x / y * y) v 100)) 0) → (r1 = 1 ∧ yPs g h (Int.toNat (yb (fun x y => x / y) v 100)) (Int.toNat (yb (fun x y => x - x / y * y) v 100))) ∨ (r1 = 0 ∧ ¬ yPs g h (Int.toNat (yb (fun x y => x / y) v 100)) (Int.toNat (yb (fun x y => x - x / y * y) v 100)))) (a2 : -2147483648 ≤ v ∧ v ≤ 2147483647) : ∀ n : Nat, (n : Int) < g 90 22 → (0 ≤ g 104 n ∧ g 104 n ≤ 5) ∧ g 102 n ≤ 719 := by
  exact yK_m hK
theorem yq_PD {g g2 : yM} {v h r1 r2 : Int} (hK : yKnv g) (a0 : ¬ ((0 ≤ (yb (fun x y => x / y) v 100) ∧ (yb (fun x y => x / y) v 100) < g 1 1) ∧ (0 ≤ (yb (fun x y => x - x / y * y) v 100) ∧ (yb (fun x y => x - x / y * y) v 100) < g 1 1) ∧ (yb (fun x y => x / y) v 100) ≠ (yb (fun x y => x - x / y * y) v 100) ∧ 0 ≤ h ∧ h ≤ 1 ∧ g (50 + Int.toNat (yb (fun x y => x / y) v 100)) 0 = g (50 + Int.toNat (yb (fun x y => x - x / y * y) v 100)) 0) → r1 = -1) (a1 : ((0 ≤ (yb (fun x y => x / y) v 100) ∧ (yb (fun x y => x / y) v 100) < g 1 1) ∧ (0 ≤ (yb (fun x y => x - x / y * y) v 100) ∧ (yb (fun x y => x - x / y * y) v 100) < g 1 1) ∧ (yb (fun x y => x / y) v 100) ≠ (yb (fun x y => x - x / y * y) v 100) ∧ 0 ≤ h ∧ h ≤ 1 ∧ g (50 + Int.toNat (yb (fun x y => x / y) v 100)) 0 = g (50 + Int.toNat (yb (fun x y => x - x / y * y) v 100)) 0) → (r1 = 1 ∧ yPs g h (Int.toNat (yb (fun x y => x / y) v 100)) (Int.toNat (yb (fun x y => x - x / y * y) v 100))) ∨ (r1 = 0 ∧ ¬ yPs g h (Int.toNat (yb (fun x y => x / y) v 100)) (Int.toNat (yb (fun x y => x - x / y * y) v 100)))) (a2 : -2147483648 ≤ v ∧ v ≤ 2147483647) (b0 : ¬ (0 ≤ v ∧ (0 ≤ (yb (fun x y => x / y) v 100) ∧ (yb (fun x y => x / y) v 100) < g 90 22) ∧ (0 ≤ (yb (fun x y => x - x / y * y) v 100) ∧ (yb (fun x y => x - x / y * y) v 100) < g 90 22) ∧ (yb (fun x y => x / y) v 100) ≠ (yb (fun x y => x - x / y * y) v 100) ∧ g 101 (Int.toNat (yb (fun x y => x / y) v 100)) = g 101 (Int.toNat (yb (fun x y => x - x / y * y) v 100)) ∧ 0 ≤ h ∧ h ≤ 1) → r2 = -1 ∧ g2 = g) (b1 : (0 ≤ v ∧ (0 ≤ (yb (fun x y => x / y) v 100) ∧ (yb (fun x y => x / y) v 100) < g 90 22) ∧ (0 ≤ (yb (fun x y => x - x / y * y) v 100) ∧ (yb (fun x y => x - x / y * y) v 100) < g 90 22) ∧ (yb (fun x y => x / y) v 100) ≠ (yb (fun x y => x - x / y * y) v 100) ∧ g 101 (Int.toNat (yb (fun x y => x / y) v 100)) = g 101 (Int.toNat (yb (fun x y => x - x / y * y) v 100)) ∧ 0 ≤ h ∧ h ≤ 1) → yFd g g2 ∧ ((r2 = 1 ∧ yPm g2 h (Int.toNat (yb (fun x y => x / y) v 100)) (Int.toNat (yb (fun x y => x - x / y * y) v 100))) ∨ (r2 = 0 ∧ ¬ yPm g2 h (Int.toNat (yb (fun x y => x / y) v 100)) (Int.toNat (yb (fun x y => x - x / y * y) v 100))))) : yKnv g2 ∧ r1 = r2 := by
  have hs := yK_s hK
  have q3 := yq100 a2
  by_cases ok : ((0 ≤ (yb (fun x y => x / y) v 100) ∧ (yb (fun x y => x / y) v 100) < g 1 1) ∧ (0 ≤ (yb (fun x y => x - x / y * y) v 100) ∧ (yb (fun x y => x - x / y * y) v 100) < g 1 1) ∧ (yb (fun x y => x / y) v 100) ≠ (yb (fun x y => x - x / y * y) v 100) ∧ 0 ≤ h ∧ h ≤ 1 ∧ g (50 + Int.toNat (yb (fun x y => x / y) v 100)) 0 = g (50 + Int.toNat (yb (fun x y => x - x / y * y) v 100)) 0)
  · have cp := yK_c hK (c := Int.toNat (yb (fun x y => x / y) v 100)) (by omega)
    have cq := yK_c hK (c := Int.toNat (yb (fun x y => x - x / y * y) v 100)) (by omega)
    obtain ⟨f1, f2⟩ := b1 ⟨by omega, by omega, by omega, by omega, by omega, by omega, by omega⟩
    refine ⟨hK.fd f1, ?_⟩
    have al := yPs_al hK f1 (w := h) (by omega) (p := Int.toNat (yb (fun x y => x / y) v 100)) (q := Int.toNat (yb (fun x y => x - x / y * y) v 100)) (by omega) (by omega)
    rcases a1 ok with ⟨x1, x2⟩ | ⟨x1, x2⟩
    · rcases f2 with ⟨y1, y2⟩ | ⟨y1, y2⟩
      · rw [x1, y1]
      · exact absurd (al.mp x2) y2
    · rcases f2 with ⟨y1, y2⟩ | ⟨y1, y2⟩
      · exact absurd (al.mpr y2) x2
      · rw [x1, y1]
  · have m := b0 (fun z => ok (by
      have cp := yK_c hK (c := Int.toNat (yb (fun x y => x / y) v 100)) (by omega)
      have cq := yK_c hK (c := Int.toNat (yb (fun x y => x - x / y * y) v 100)) (by omega)
      exact ⟨by omega, by omega, by omega, by omega, by omega, by omega⟩))
    rw [m.2]
    exact ⟨hK, by rw [a0 ok, m.1]⟩
theorem yjc_PR0 {g : yM} (hK : yKnv g) : 0 ≤ g 1 1 ∧ g 1 1 ≤ 40 := by
  exact (yK_s hK).1.2
theorem yjm_PR0 {g : yM} {t h r1 : Int} (hK : yKnv g) (a0 : ¬ (0 ≤ t ∧ t < 4 ∧ 0 ≤ h ∧ h < 2) → r1 = -1) (a1 : (0 ≤ t ∧ t < 4 ∧ 0 ≤ h ∧ h < 2) → yDu (fun p q => g (50 + p) 0 = t ∧ yPs g h p q) (Int.toNat (g 1 1)) (Int.toNat (g 1 1)) r1) : yTy zpZ g := by
  exact yK_ty hK
theorem yjm_PR1 {g : yM} {t h r1 : Int} (hK : yKnv g) (a0 : ¬ (0 ≤ t ∧ t < 4 ∧ 0 ≤ h ∧ h < 2) → r1 = -1) (a1 : (0 ≤ t ∧ t < 4 ∧ 0 ≤ h ∧ h < 2) → yDu (fun p q => g (50 + p) 0 = t ∧ yPs g h p q) (Int.toNat (g 1 1)) (Int.toNat (g 1 1)) r1) : 0 ≤ g 90 22 ∧ g 90 22 ≤ 40 := by
  have h := (yK_s hK).1
  omega
theorem yjm_PR2 {g : yM} {t h r1 : Int} (hK : yKnv g) (a0 : ¬ (0 ≤ t ∧ t < 4 ∧ 0 ≤ h ∧ h < 2) → r1 = -1) (a1 : (0 ≤ t ∧ t < 4 ∧ 0 ≤ h ∧ h < 2) → yDu (fun p q => g (50 + p) 0 = t ∧ yPs g h p q) (Int.toNat (g 1 1)) (Int.toNat (g 1 1)) r1) : 0 ≤ g 90 6 ∧ g 90 6 ≤ 12 := by
  have h := (yK_s hK).2.1
  omega
theorem yjm_PR3 {g : yM} {t h r1 : Int} (hK : yKnv g) (a0 : ¬ (0 ≤ t ∧ t < 4 ∧ 0 ≤ h ∧ h < 2) → r1 = -1) (a1 : (0 ≤ t ∧ t < 4 ∧ 0 ≤ h ∧ h < 2) → yDu (fun p q => g (50 + p) 0 = t ∧ yPs g h p q) (Int.toNat (g 1 1)) (Int.toNat (g 1 1)) r1) : ∀ n : Nat, (n : Int) < g 90 22 → (0 ≤ g 104 n ∧ g 104 n ≤ 5) ∧ g 102 n ≤ 719 := by
  exact yK_m hK
theorem yq_PR {g g2 : yM} {t h r1 r2 : Int} (hK : yKnv g) (a0 : ¬ (0 ≤ t ∧ t < 4 ∧ 0 ≤ h ∧ h < 2) → r1 = -1) (a1 : (0 ≤ t ∧ t < 4 ∧ 0 ≤ h ∧ h < 2) → yDu (fun p q => g (50 + p) 0 = t ∧ yPs g h p q) (Int.toNat (g 1 1)) (Int.toNat (g 1 1)) r1) (b0 : ¬ (0 ≤ t ∧ t ≤ 3 ∧ 0 ≤ h ∧ h ≤ 1) → r2 = -1 ∧ g2 = g) (b1 : (0 ≤ t ∧ t ≤ 3 ∧ 0 ≤ h ∧ h ≤ 1) → yFd g g2 ∧ yDu (fun p q => g2 101 p = t ∧ yPm g2 h p q) (Int.toNat (g2 90 22)) (Int.toNat (g2 90 22)) r2) : yKnv g2 ∧ r1 = r2 := by
  have hs := yK_s hK
  by_cases ok : (0 ≤ t ∧ t < 4 ∧ 0 ≤ h ∧ h < 2)
  · obtain ⟨f1, f2⟩ := b1 (by omega)
    refine ⟨hK.fd f1, ?_⟩
    have e : g2 90 22 = g 1 1 := (f1.2.1 90 22 (by decide) (by decide)).trans hs.1.1
    rw [e] at f2
    refine yDu_u _ _ _ (fun p q hp hq => ?_) (a1 ok) f2
    have al := yPs_al hK f1 (w := h) (by omega) (p := p) (q := q) (by omega) (by omega)
    have fp := yK_f hK f1 (c := p) (by omega)
    show (g (50 + p) 0 = t ∧ yPs g h p q) ↔ (g2 101 p = t ∧ yPm g2 h p q)
    rw [fp.2.2.2.2, al]
  · have m := b0 (by omega)
    rw [m.2]
    exact ⟨hK, by rw [a0 ok, m.1]⟩
theorem yjc_JU0 {g : yM} (hK : yKnv g) : 0 ≤ g 1 1 ∧ g 1 1 ≤ 40 := by
  exact (yK_s hK).1.2
theorem yjm_JU0 {g : yM} {t h r1 : Int} (hK : yKnv g) (a0 : ¬ (0 ≤ t ∧ t < 4 ∧ 0 ≤ h ∧ h < 2) → r1 = -1) (a1 : (0 ≤ t ∧ t < 4 ∧ 0 ≤ h ∧ h < 2) → h = 0 → yFst (yMs g t) (g 1 1) r1) (a2 : (0 ≤ t ∧ t < 4 ∧ 0 ≤ h ∧ h < 2) → h = 1 → yDu (fun p q => g (50 + p) 0 = t ∧ yPs g 2 p q) (Int.toNat (g 1 1)) (Int.toNat (g 1 1)) r1) : yTy zpZ g := by
  exact yK_ty hK
theorem yjm_JU1 {g : yM} {t h r1 : Int} (hK : yKnv g) (a0 : ¬ (0 ≤ t ∧ t < 4 ∧ 0 ≤ h ∧ h < 2) → r1 = -1) (a1 : (0 ≤ t ∧ t < 4 ∧ 0 ≤ h ∧ h < 2) → h = 0 → yFst (yMs g t) (g 1 1) r1) (a2 : (0 ≤ t ∧ t < 4 ∧ 0 ≤ h ∧ h < 2) → h = 1 → yDu (fun p q => g (50 + p) 0 = t ∧ yPs g 2 p q) (Int.toNat (g 1 1)) (Int.toNat (g 1 1)) r1) : 0 ≤ g 90 22 ∧ g 90 22 ≤ 40 := by
  have h := (yK_s hK).1
  omega
theorem yjm_JU2 {g : yM} {t h r1 : Int} (hK : yKnv g) (a0 : ¬ (0 ≤ t ∧ t < 4 ∧ 0 ≤ h ∧ h < 2) → r1 = -1) (a1 : (0 ≤ t ∧ t < 4 ∧ 0 ≤ h ∧ h < 2) → h = 0 → yFst (yMs g t) (g 1 1) r1) (a2 : (0 ≤ t ∧ t < 4 ∧ 0 ≤ h ∧ h < 2) → h = 1 → yDu (fun p q => g (50 + p) 0 = t ∧ yPs g 2 p q) (Int.toNat (g 1 1)) (Int.toNat (g 1 1)) r1) : 0 ≤ g 90 6 ∧ g 90 6 ≤ 12 := by
  have h := (yK_s hK).2.1
  omega
theorem yjm_JU3 {g : yM} {t h r1 : Int} (hK : yKnv g) (a0 : ¬ (0 ≤ t ∧ t < 4 ∧ 0 ≤ h ∧ h < 2) → r1 = -1) (a1 : (0 ≤ t ∧ t < 4 ∧ 0 ≤ h ∧ h < 2) → h = 0 → yFst (yMs g t) (g 1 1) r1) (a2 : (0 ≤ t ∧ t < 4 ∧ 0 ≤ h ∧ h < 2) → h = 1 → yDu (fun p q => g (50 + p) 0 = t ∧ yPs g 2 p q) (Int.toNat (g 1 1)) (Int.toNat (g 1 1)) r1) : ∀ n : Nat, (n : Int) < g 90 22 → (0 ≤ g 104 n ∧ g 104 n ≤ 5) ∧ g 102 n ≤ 719 := by
  exact yK_m hK
theorem yq_JU {g g2 : yM} {t h r1 r2 : Int} (hK : yKnv g) (a0 : ¬ (0 ≤ t ∧ t < 4 ∧ 0 ≤ h ∧ h < 2) → r1 = -1) (a1 : (0 ≤ t ∧ t < 4 ∧ 0 ≤ h ∧ h < 2) → h = 0 → yFst (yMs g t) (g 1 1) r1) (a2 : (0 ≤ t ∧ t < 4 ∧ 0 ≤ h ∧ h < 2) → h = 1 → yDu (fun p q => g (50 + p) 0 = t ∧ yPs g 2 p q) (Int.toNat (g 1 1)) (Int.toNat (g 1 1)) r1) (b0 : ¬ (0 ≤ t ∧ t ≤ 3 ∧ 0 ≤ h ∧ h ≤ 1) → r2 = -1 ∧ g2 = g) (b1 : (0 ≤ t ∧ t ≤ 3 ∧ 0 ≤ h ∧ h ≤ 1) → h = 0 → yFd g g2 ∧ yFst (yMm g2 t) (g2 90 22) r2) (b2 : (0 ≤ t ∧ t ≤ 3 ∧ 0 ≤ h ∧ h ≤ 1) → h = 1 → yFd g g2 ∧ yDu (fun p q => g2 101 p = t ∧ yPt g2 p q) (Int.toNat (g2 90 22)) (Int.toNat (g2 90 22)) r2) : yKnv g2 ∧ r1 = r2 := by
  have hs := yK_s hK
  by_cases ok : (0 ≤ t ∧ t < 4 ∧ 0 ≤ h ∧ h < 2)
  · by_cases h0 : h = 0
    · obtain ⟨f1, f2⟩ := b1 (by omega) h0
      refine ⟨hK.fd f1, ?_⟩
      have e : g2 90 22 = g 1 1 := (f1.2.1 90 22 (by decide) (by decide)).trans hs.1.1
      rw [e] at f2
      exact yFst_u (fun i hi => yMs_al hK f1 hi) (a1 ok h0) f2
    · obtain ⟨f1, f2⟩ := b2 (by omega) (by omega)
      refine ⟨hK.fd f1, ?_⟩
      have e : g2 90 22 = g 1 1 := (f1.2.1 90 22 (by decide) (by decide)).trans hs.1.1
      rw [e] at f2
      refine yDu_u _ _ _ (fun p q hp hq => ?_) (a2 ok (by omega)) f2
      have al := yPt_al hK f1 (p := p) (q := q) (by omega) (by omega)
      have fp := yK_f hK f1 (c := p) (by omega)
      show (g (50 + p) 0 = t ∧ yPs g 2 p q) ↔ (g2 101 p = t ∧ yPt g2 p q)
      rw [fp.2.2.2.2, al]
  · have m := b0 (by omega)
    rw [m.2]
    exact ⟨hK, by rw [a0 ok, m.1]⟩
theorem yjc_WH0 {g : yM} (hK : yKnv g) : 0 ≤ g 1 1 ∧ g 1 1 ≤ 40 := by
  exact (yK_s hK).1.2
theorem yjm_WH0 {g : yM} {w r1 : Int} (hK : yKnv g) (a0 : ¬ (0 ≤ w ∧ w < g 1 1) → r1 = -1) (a1 : 0 ≤ w ∧ w < g 1 1 → yBt (yPs g 2 (Int.toNat w)) (Int.toNat (g 1 1)) r1) : yTy zpZ g := by
  exact yK_ty hK
theorem yjm_WH1 {g : yM} {w r1 : Int} (hK : yKnv g) (a0 : ¬ (0 ≤ w ∧ w < g 1 1) → r1 = -1) (a1 : 0 ≤ w ∧ w < g 1 1 → yBt (yPs g 2 (Int.toNat w)) (Int.toNat (g 1 1)) r1) : 0 ≤ g 90 22 ∧ g 90 22 ≤ 40 := by
  have h := (yK_s hK).1
  omega
theorem yjm_WH2 {g : yM} {w r1 : Int} (hK : yKnv g) (a0 : ¬ (0 ≤ w ∧ w < g 1 1) → r1 = -1) (a1 : 0 ≤ w ∧ w < g 1 1 → yBt (yPs g 2 (Int.toNat w)) (Int.toNat (g 1 1)) r1) : 0 ≤ g 90 6 ∧ g 90 6 ≤ 12 := by
  have h := (yK_s hK).2.1
  omega
theorem yjm_WH3 {g : yM} {w r1 : Int} (hK : yKnv g) (a0 : ¬ (0 ≤ w ∧ w < g 1 1) → r1 = -1) (a1 : 0 ≤ w ∧ w < g 1 1 → yBt (yPs g 2 (Int.toNat w)) (Int.toNat (g 1 1)) r1) : ∀ n : Nat, (n : Int) < g 90 22 → (0 ≤ g 104 n ∧ g 104 n ≤ 5) ∧ g 102 n ≤ 719 := by
  exact yK_m hK
theorem yq_WH {g g2 : yM} {w r1 r2 : Int} (hK : yKnv g) (a0 : ¬ (0 ≤ w ∧ w < g 1 1) → r1 = -1) (a1 : 0 ≤ w ∧ w < g 1 1 → yBt (yPs g 2 (Int.toNat w)) (Int.toNat (g 1 1)) r1) (b0 : ¬ (0 ≤ w ∧ w < g 90 22) → r2 = -1 ∧ g2 = g) (b1 : (0 ≤ w ∧ w < g 90 22) → yFd g g2 ∧ yBt (yPt g2 (Int.toNat w)) (Int.toNat (g2 90 22)) r2) : yKnv g2 ∧ r1 = r2 := by
  have hs := yK_s hK
  by_cases ok : 0 ≤ w ∧ w < g 1 1
  · obtain ⟨f1, f2⟩ := b1 (by omega)
    refine ⟨hK.fd f1, ?_⟩
    have e : g2 90 22 = g 1 1 := (f1.2.1 90 22 (by decide) (by decide)).trans hs.1.1
    rw [e] at f2
    exact yBt_u _ _ _ (fun q hq => yPt_al hK f1 (p := Int.toNat w) (q := q) (by omega) (by omega)) (a1 ok) f2
  · have m := b0 (by omega)
    rw [m.2]
    exact ⟨hK, by rw [a0 ok, m.1]⟩
theorem yK_lt {g : yM} (h : yKnv g) {c : Nat} (hc : (c : Int) < g 1 1) (hn : g (50 + c) 10 ≠ -2) : g (50 + c) 10 ≤ g (50 + c) 11 ∧ g (50 + c) 11 ≤ 719 := by
  obtain ⟨hVt, hVc, hVv, hVh, hVd⟩ := h.1.2
  have cc := yK_c h hc
  obtain ⟨-, w10, w11⟩ := h.2.1 c hc
  have v1 := hVv 1 (g (50 + c) 4) (Or.inr (Or.inl ⟨rfl, by omega, by omega⟩))
  rw [ycod_1, ykv_1] at v1
  have v1b := v1.2.2.1 (Or.inl rfl)
  have hl : yLt g c ≤ 719 := by
    unfold yLt
    rw [yw_s (g (50 + c) 2 - g 13 (Int.toNat (g (50 + c) 4))) (by omega) (by omega)]
    omega
  rw [w11]
  rw [w10] at hn ⊢
  unfold yEf at hn ⊢
  unfold yLf
  by_cases q : yEe g c (yAg g c (Int.toNat (g 1 1))) ≤ yLt g c
  · rw [if_pos q, if_pos q]
    exact ⟨q, hl⟩
  · rw [if_neg q] at hn
    exact absurd rfl hn
theorem yU_al {g : yM} (h : yKnv g) {t e v w : Int} (h1 : yUs g t e (Int.toNat (g 1 1)) v) (h2 : yUm g t e (Int.toNat (g 90 22)) w) : v = w := by
  have hs := yK_s h
  rw [hs.1.1] at h2
  refine ySu_u (Int.toNat (g 1 1)) v w (fun i hi => ?_) (fun i hi hp => ?_) h1 h2
  · have cc := yK_c h (c := i) (by omega)
    show (g (50 + i) 0 = t ∧ g (50 + i) 3 = e ∧ g (50 + i) 10 ≠ -2) ↔ (g 101 i = t ∧ g 103 i = e ∧ 0 ≤ yMf g i)
    omega
  · have cc := yK_c h (c := i) (by omega)
    have hp : g (50 + i) 0 = t ∧ g (50 + i) 3 = e ∧ g (50 + i) 10 ≠ -2 := hp
    show yw (g (50 + i) 11 - g (50 + i) 10) = yw (yMl g i - yMf g i)
    rw [cc.2.2.2.2.2.2.1, cc.2.2.2.2.2.2.2.1 hp.2.2]
theorem yU_0 {g : yM} (h : yKnv g) {t e v : Int} (h1 : yUs g t e (Int.toNat (g 1 1)) v) : 0 ≤ v := by
  have hs := yK_s h
  refine (ySu_pos _ v (by omega) (fun i hi hp => ?_) h1).1
  have hp : g (50 + i) 0 = t ∧ g (50 + i) 3 = e ∧ g (50 + i) 10 ≠ -2 := hp
  have lt := yK_lt h (c := i) (by omega) hp.2.2
  have cc := yK_c h (c := i) (by omega)
  show 0 ≤ yw (g (50 + i) 11 - g (50 + i) 10) ∧ yw (g (50 + i) 11 - g (50 + i) 10) ≤ 719
  rw [yw_s (g (50 + i) 11 - g (50 + i) 10) (by omega) (by omega)]
  omega
theorem yjc_SD0 {g : yM} (hK : yKnv g) : 0 ≤ g 1 1 ∧ g 1 1 ≤ 40 := by
  exact (yK_s hK).1.2
theorem yjm_SD0 {g : yM} {t h r1 : Int} (hK : yKnv g) (a0 : ¬ (0 ≤ t ∧ t < 4 ∧ 0 ≤ h ∧ h < 2) → r1 = -1) (a1 : (0 ≤ t ∧ t < 4 ∧ 0 ≤ h ∧ h < 2) → ∃ s0 s1 s2 s3 : Int, yUs g t 0 (Int.toNat (g 1 1)) s0 ∧ yUs g t 1 (Int.toNat (g 1 1)) s1 ∧ yUs g t 2 (Int.toNat (g 1 1)) s2 ∧ yUs g t 3 (Int.toNat (g 1 1)) s3 ∧ (h = 0 → r1 = (yDb (yDb (yDb 0 s0 1 s1) (ymx s0 s1) 2 s2) (ymx (ymx s0 s1) s2) 3 s3)) ∧ (h = 1 → r1 = (ymx (ymx (ymx s0 s1) s2) s3))) : 0 ≤ g 90 22 ∧ g 90 22 ≤ 40 := by
  have h := (yK_s hK).1
  omega
theorem yjm_SD1 {g : yM} {t h r1 : Int} (hK : yKnv g) (a0 : ¬ (0 ≤ t ∧ t < 4 ∧ 0 ≤ h ∧ h < 2) → r1 = -1) (a1 : (0 ≤ t ∧ t < 4 ∧ 0 ≤ h ∧ h < 2) → ∃ s0 s1 s2 s3 : Int, yUs g t 0 (Int.toNat (g 1 1)) s0 ∧ yUs g t 1 (Int.toNat (g 1 1)) s1 ∧ yUs g t 2 (Int.toNat (g 1 1)) s2 ∧ yUs g t 3 (Int.toNat (g 1 1)) s3 ∧ (h = 0 → r1 = (yDb (yDb (yDb 0 s0 1 s1) (ymx s0 s1) 2 s2) (ymx (ymx s0 s1) s2) 3 s3)) ∧ (h = 1 → r1 = (ymx (ymx (ymx s0 s1) s2) s3))) : 0 ≤ g 90 6 ∧ g 90 6 ≤ 12 := by
  have h := (yK_s hK).2.1
  omega
theorem yjm_SD2 {g : yM} {t h r1 : Int} (hK : yKnv g) (a0 : ¬ (0 ≤ t ∧ t < 4 ∧ 0 ≤ h ∧ h < 2) → r1 = -1) (a1 : (0 ≤ t ∧ t < 4 ∧ 0 ≤ h ∧ h < 2) → ∃ s0 s1 s2 s3 : Int, yUs g t 0 (Int.toNat (g 1 1)) s0 ∧ yUs g t 1 (Int.toNat (g 1 1)) s1 ∧ yUs g t 2 (Int.toNat (g 1 1)) s2 ∧ yUs g t 3 (Int.toNat (g 1 1)) s3 ∧ (h = 0 → r1 = (yDb (yDb (yDb 0 s0 1 s1) (ymx s0 s1) 2 s2) (ymx (ymx s0 s1) s2) 3 s3)) ∧ (h = 1 → r1 = (ymx (ymx (ymx s0 s1) s2) s3))) : ∀ n : Nat, (n : Int) < g 90 22 → (0 ≤ g 104 n ∧ g 104 n ≤ 5) ∧ g 102 n ≤ 719 := by
  exact yK_m hK
theorem yq_SD {g : yM} {t h r1 r2 : Int} (hK : yKnv g) (a0 : ¬ (0 ≤ t ∧ t < 4 ∧ 0 ≤ h ∧ h < 2) → r1 = -1) (a1 : (0 ≤ t ∧ t < 4 ∧ 0 ≤ h ∧ h < 2) → ∃ s0 s1 s2 s3 : Int, yUs g t 0 (Int.toNat (g 1 1)) s0 ∧ yUs g t 1 (Int.toNat (g 1 1)) s1 ∧ yUs g t 2 (Int.toNat (g 1 1)) s2 ∧ yUs g t 3 (Int.toNat (g 1 1)) s3 ∧ (h = 0 → r1 = (yDb (yDb (yDb 0 s0 1 s1) (ymx s0 s1) 2 s2) (ymx (ymx s0 s1) s2) 3 s3)) ∧ (h = 1 → r1 = (ymx (ymx (ymx s0 s1) s2) s3))) (b0 : ¬ (0 ≤ t ∧ t ≤ 3 ∧ 0 ≤ h ∧ h ≤ 1) → r2 = -1) (b1 : (0 ≤ t ∧ t ≤ 3 ∧ 0 ≤ h ∧ h ≤ 1) → ∃ s0 s1 s2 s3 : Int, yUm g t 0 (Int.toNat (g 90 22)) s0 ∧ yUm g t 1 (Int.toNat (g 90 22)) s1 ∧ yUm g t 2 (Int.toNat (g 90 22)) s2 ∧ yUm g t 3 (Int.toNat (g 90 22)) s3 ∧ (h = 0 → r2 = (yDb (yDb (yDb (yDb 0 (-1) 0 s0) (ymx (-1) s0) 1 s1) (ymx (ymx (-1) s0) s1) 2 s2) (ymx (ymx (ymx (-1) s0) s1) s2) 3 s3)) ∧ (h = 1 → r2 = (ymx (ymx (ymx (ymx (-1) s0) s1) s2) s3))) : yKnv g ∧ r1 = r2 := by
  refine ⟨hK, ?_⟩
  by_cases ok : (0 ≤ t ∧ t < 4 ∧ 0 ≤ h ∧ h < 2)
  · obtain ⟨s0, s1, s2, s3, u0, u1, u2, u3, x1, x2⟩ := a1 ok
    obtain ⟨z0, z1, z2, z3, v0, v1, v2, v3, y1, y2⟩ := b1 (by omega)
    have e0 := yU_al hK u0 v0
    have e1 := yU_al hK u1 v1
    have e2 := yU_al hK u2 v2
    have e3 := yU_al hK u3 v3
    have p0 := yU_0 hK u0
    subst e0 e1 e2 e3
    rw [ymx_1 (a := -1) (b := s0) (by omega), yDb_1 (z := -1) (s := s0) (by omega)] at y1
    rw [ymx_1 (a := -1) (b := s0) (by omega)] at y2
    by_cases h0 : h = 0
    · rw [x1 h0, y1 h0]
    · rw [x2 (by omega), y2 (by omega)]
  · rw [a0 ok, b0 (by omega)]
theorem yKnv.fi {g m : yM} (h : yKnv g) (hT : yTy zpZ m) (hF : yIf g m) : yKnv m := by
  have u : yUn [(7, 7, 1, 5), (7, 7, 1, 6)] g m := fun a b hn => hF a b (fun e => by
    rcases e with ⟨rfl, rfl | rfl⟩
    · exact hn (7, 7, 1, 5) (by decide) ⟨by decide, by decide, Or.inr rfl⟩
    · exact hn (7, 7, 1, 6) (by decide) ⟨by decide, by decide, Or.inr rfl⟩)
  exact ⟨⟨⟨hT, h.1.1.2.mono (u.eq (by decide +kernel))⟩, h.1.2.mono (u.eq (by decide +kernel))⟩, h.2.mono h.1.1.1.sz.2 (u.eq (by decide +kernel))⟩
theorem yIo_w {g m : yM} (hF : yIf g m) {d e : Int} {n : Nat} {u z : Int} : yIoc g d e n u z ↔ yIoc m d e n u z := by
  have e1 : yQk m d e = yQk g d e := funext fun c => by
    unfold yQk
    rw [hF (50 + c) 0 (by omega), hF (50 + c) 3 (by omega), hF (50 + c) 10 (by omega), hF (50 + c) 9 (by omega), hF 1 1 (by omega)]
  have e2 : yTc m = yTc g := funext fun c => by
    unfold yTc
    rw [hF (50 + c) 9 (by omega), hF _ 2 (by omega)]
  have e3 : (fun c : Nat => m (50 + c) 11) = (fun c => g (50 + c) 11) := funext fun c => hF (50 + c) 11 (by omega)
  have e4 : (fun c : Nat => yIc m (m (50 + c) 0) (m (50 + c) 3)) = (fun c => yIc g (g (50 + c) 0) (g (50 + c) 3)) := funext fun c => by
    rw [yIc_fi hF, hF (50 + c) 0 (by omega), hF (50 + c) 3 (by omega)]
  unfold yIoc
  rw [e1, e2, e3, e4]
theorem yI1 {g g1 : yM} {s h r1 : Int} (hK : yKnv g) (a0 : ¬ (0 ≤ (yb (fun x y => x / y) s 10) ∧ (yb (fun x y => x / y) s 10) < 4 ∧ 0 ≤ (yb (fun x y => x - x / y * y) s 10) ∧ (yb (fun x y => x - x / y * y) s 10) < 4 ∧ 0 ≤ h ∧ h < 2) → r1 = -1 ∧ g1 = g) (a1 : (0 ≤ (yb (fun x y => x / y) s 10) ∧ (yb (fun x y => x / y) s 10) < 4 ∧ 0 ≤ (yb (fun x y => x - x / y * y) s 10) ∧ (yb (fun x y => x - x / y * y) s 10) < 4 ∧ 0 ≤ h ∧ h < 2) → yTy zpZ g1 ∧ yIf g g1 ∧ ∃ n f : Int, yIoc g (yb (fun x y => x / y) s 10) (yb (fun x y => x - x / y * y) s 10) (Int.toNat (g 1 1)) n f ∧ (h = 0 → r1 = n) ∧ (h = 1 → r1 = f)) : yKnv g1 := by
  by_cases ok : (0 ≤ (yb (fun x y => x / y) s 10) ∧ (yb (fun x y => x / y) s 10) < 4 ∧ 0 ≤ (yb (fun x y => x - x / y * y) s 10) ∧ (yb (fun x y => x - x / y * y) s 10) < 4 ∧ 0 ≤ h ∧ h < 2)
  · exact hK.fi (a1 ok).1 (a1 ok).2.1
  · rw [(a0 ok).2]
    exact hK
/-- the clerk away, one who waits: alike -/
theorem yI_aw {g m : yM} (h : yKnv g) (hf : yFd g m) (d t : Int) : yaC g d t (Int.toNat (g 1 7)) = yaM m d t (Int.toNat (m 90 6)) := by
  obtain ⟨hVt, hVc, hVv, hVh, hVd⟩ := h.1.2
  have fr : ∀ a b : Nat, a < 110 → m a b = g a b := fun a b hab => hf.2.1 a b (by omega) (by omega)
  rw [yaM_fr fr, fr 90 6 (by decide), hVd.1.1]
  exact (yaC_al _ (fun j hj => (hVd.2.2.2 j (by omega)).1)).symm
theorem yI_wt {g m : yM} (h : yKnv g) (hf : yFd g m) {d e t : Int} : yWt g d e t ↔ yWm m d e t := by
  have fr : ∀ a b : Nat, a < 110 → m a b = g a b := fun a b hab => hf.2.1 a b (by omega) (by omega)
  have hs := yK_s h
  have key : ∀ i : Nat, (i : Int) < g 1 1 → (yWc g d e t i ↔ yWn m d e t i) := fun i hi => by
    have cc := yK_c h hi
    have fc := yK_f h hf hi
    unfold yWc yWn
    rw [fr 101 i (by decide), fr 90 11 (by decide), fr 107 i (by decide), fr 91 i (by decide), fr 91 52 (by decide), fc.1, cc.1.1, cc.1.2.2.2.2.2.2.1, cc.2.1.1, cc.2.2.2.2.1.1, hs.2.2.2.1]
    exact ⟨fun z => ⟨z.1, z.2.2.2, z.2.2.1, z.2.1⟩, fun z => ⟨z.1, z.2.2.2, z.2.2.1, z.2.1⟩⟩
  unfold yWt yWm
  rw [fr 90 22 (by decide), hs.1.1]
  exact ⟨fun ⟨i, i1, i2⟩ => ⟨i, i1, (key i i1).mp i2⟩, fun ⟨i, i1, i2⟩ => ⟨i, i1, (key i i1).mpr i2⟩⟩
theorem yId_al {g m : yM} (h : yKnv g) (hf : yFd g m) {d e n f n' f' : Int} (h1 : yIoc g d e (Int.toNat (g 1 1)) n f) (h2 : yIom m d e (Int.toNat (m 90 22)) n' f') : n = n' ∧ f = f' := by
  have fr : ∀ a b : Nat, a < 110 → m a b = g a b := fun a b hab => hf.2.1 a b (by omega) (by omega)
  have hs := yK_s h
  have e22 : m 90 22 = g 90 22 := fr 90 22 (by decide)
  rw [e22, hs.1.1] at h2
  refine yIo_u _ n f n' f' (fun i hi => ?_) (fun i hi hq => ?_) h1 h2
  · have cc := yK_c h (c := i) (by omega)
    have fc := yK_f h hf (c := i) (by omega)
    have hb := @yMg_b g i (Int.toNat (g 90 22))
    unfold yQk yQi
    rw [fr 101 i (by decide), fr 103 i (by decide), fc.1, e22, yMg_fr fr, cc.2.2.2.2.2.1, cc.1.1, cc.1.2.2.1]
    rw [cc.2.2.2.2.2.1] at hb
    omega
  · have cc := yK_c h (c := i) (by omega)
    have fc := yK_f h hf (c := i) (by omega)
    obtain ⟨q1, q2, q3, q4, q5⟩ := hq
    refine ⟨?_, ?_, fun t => ?_⟩
    · have ca := yK_c h (c := Int.toNat (g (50 + i) 9)) (by omega)
      unfold yTc yTi
      rw [e22, yMg_fr fr, cc.2.2.2.2.2.1, fr 102 _ (by decide)]
      exact ca.1.2.1.symm
    · show g (50 + i) 11 = yMl m i
      rw [fc.2.2.1]
      exact (cc.2.2.2.2.2.2.2.1 q3).symm
    · show yIc g (g (50 + i) 0) (g (50 + i) 3) t ↔ yIn m d e t
      rw [q1, q2]
      unfold yIc yIn
      rw [yI_aw h hf]
      exact ⟨fun z => ⟨z.1, (yI_wt h hf).mp z.2⟩, fun z => ⟨z.1, (yI_wt h hf).mpr z.2⟩⟩
theorem yjc_ID0 {g : yM} (hK : yKnv g) : yTy zpZ g := by
  exact yK_ty hK
theorem yjc_ID1 {g : yM} (hK : yKnv g) : ∀ n : Nat, (n : Int) < g 1 1 → 0 ≤ g (50 + n) 2 ∧ g (50 + n) 2 ≤ 719 := by
  intro n hn
  have cc := yK_c hK (c := n) hn
  omega
theorem yjm_ID0 {g g1 : yM} {s h r1 : Int} (hK : yKnv g) (a0 : ¬ (0 ≤ (yb (fun x y => x / y) s 10) ∧ (yb (fun x y => x / y) s 10) < 4 ∧ 0 ≤ (yb (fun x y => x - x / y * y) s 10) ∧ (yb (fun x y => x - x / y * y) s 10) < 4 ∧ 0 ≤ h ∧ h < 2) → r1 = -1 ∧ g1 = g) (a1 : (0 ≤ (yb (fun x y => x / y) s 10) ∧ (yb (fun x y => x / y) s 10) < 4 ∧ 0 ≤ (yb (fun x y => x - x / y * y) s 10) ∧ (yb (fun x y => x - x / y * y) s 10) < 4 ∧ 0 ≤ h ∧ h < 2) → yTy zpZ g1 ∧ yIf g g1 ∧ ∃ n f : Int, yIoc g (yb (fun x y => x / y) s 10) (yb (fun x y => x - x / y * y) s 10) (Int.toNat (g 1 1)) n f ∧ (h = 0 → r1 = n) ∧ (h = 1 → r1 = f)) : yTy zpZ g1 := by
  have h1 := yI1 hK a0 a1
  exact yK_ty h1
theorem yjm_ID1 {g g1 : yM} {s h r1 : Int} (hK : yKnv g) (a0 : ¬ (0 ≤ (yb (fun x y => x / y) s 10) ∧ (yb (fun x y => x / y) s 10) < 4 ∧ 0 ≤ (yb (fun x y => x - x / y * y) s 10) ∧ (yb (fun x y => x - x / y * y) s 10) < 4 ∧ 0 ≤ h ∧ h < 2) → r1 = -1 ∧ g1 = g) (a1 : (0 ≤ (yb (fun x y => x / y) s 10) ∧ (yb (fun x y => x / y) s 10) < 4 ∧ 0 ≤ (yb (fun x y => x - x / y * y) s 10) ∧ (yb (fun x y => x - x / y * y) s 10) < 4 ∧ 0 ≤ h ∧ h < 2) → yTy zpZ g1 ∧ yIf g g1 ∧ ∃ n f : Int, yIoc g (yb (fun x y => x / y) s 10) (yb (fun x y => x - x / y * y) s 10) (Int.toNat (g 1 1)) n f ∧ (h = 0 → r1 = n) ∧ (h = 1 → r1 = f)) : 0 ≤ g1 90 22 ∧ g1 90 22 ≤ 40 := by
  have h1 := yI1 hK a0 a1
  have h := (yK_s h1).1
  omega
theorem yjm_ID2 {g g1 : yM} {s h r1 : Int} (hK : yKnv g) (a0 : ¬ (0 ≤ (yb (fun x y => x / y) s 10) ∧ (yb (fun x y => x / y) s 10) < 4 ∧ 0 ≤ (yb (fun x y => x - x / y * y) s 10) ∧ (yb (fun x y => x - x / y * y) s 10) < 4 ∧ 0 ≤ h ∧ h < 2) → r1 = -1 ∧ g1 = g) (a1 : (0 ≤ (yb (fun x y => x / y) s 10) ∧ (yb (fun x y => x / y) s 10) < 4 ∧ 0 ≤ (yb (fun x y => x - x / y * y) s 10) ∧ (yb (fun x y => x - x / y * y) s 10) < 4 ∧ 0 ≤ h ∧ h < 2) → yTy zpZ g1 ∧ yIf g g1 ∧ ∃ n f : Int, yIoc g (yb (fun x y => x / y) s 10) (yb (fun x y => x - x / y * y) s 10) (Int.toNat (g 1 1)) n f ∧ (h = 0 → r1 = n) ∧ (h = 1 → r1 = f)) : 0 ≤ g1 90 6 ∧ g1 90 6 ≤ 12 := by
  have h1 := yI1 hK a0 a1
  have h := (yK_s h1).2.1
  omega
theorem yjm_ID3 {g g1 : yM} {s h r1 : Int} (hK : yKnv g) (a0 : ¬ (0 ≤ (yb (fun x y => x / y) s 10) ∧ (yb (fun x y => x / y) s 10) < 4 ∧ 0 ≤ (yb (fun x y => x - x / y * y) s 10) ∧ (yb (fun x y => x - x / y * y) s 10) < 4 ∧ 0 ≤ h ∧ h < 2) → r1 = -1 ∧ g1 = g) (a1 : (0 ≤ (yb (fun x y => x / y) s 10) ∧ (yb (fun x y => x / y) s 10) < 4 ∧ 0 ≤ (yb (fun x y => x - x / y * y) s 10) ∧ (yb (fun x y => x - x / y * y) s 10) < 4 ∧ 0 ≤ h ∧ h < 2) → yTy zpZ g1 ∧ yIf g g1 ∧ ∃ n f : Int, yIoc g (yb (fun x y => x / y) s 10) (yb (fun x y => x - x / y * y) s 10) (Int.toNat (g 1 1)) n f ∧ (h = 0 → r1 = n) ∧ (h = 1 → r1 = f)) : ∀ n : Nat, (n : Int) < g1 90 22 → (0 ≤ g1 104 n ∧ g1 104 n ≤ 5) ∧ g1 102 n ≤ 719 := by
  have h1 := yI1 hK a0 a1
  exact yK_m h1
theorem yjm_ID4 {g g1 : yM} {s h r1 : Int} (hK : yKnv g) (a0 : ¬ (0 ≤ (yb (fun x y => x / y) s 10) ∧ (yb (fun x y => x / y) s 10) < 4 ∧ 0 ≤ (yb (fun x y => x - x / y * y) s 10) ∧ (yb (fun x y => x - x / y * y) s 10) < 4 ∧ 0 ≤ h ∧ h < 2) → r1 = -1 ∧ g1 = g) (a1 : (0 ≤ (yb (fun x y => x / y) s 10) ∧ (yb (fun x y => x / y) s 10) < 4 ∧ 0 ≤ (yb (fun x y => x - x / y * y) s 10) ∧ (yb (fun x y => x - x / y * y) s 10) < 4 ∧ 0 ≤ h ∧ h < 2) → yTy zpZ g1 ∧ yIf g g1 ∧ ∃ n f : Int, yIoc g (yb (fun x y => x / y) s 10) (yb (fun x y => x - x / y * y) s 10) (Int.toNat (g 1 1)) n f ∧ (h = 0 → r1 = n) ∧ (h = 1 → r1 = f)) : ∀ n : Nat, (n : Int) < g1 90 22 → 0 ≤ g1 102 n := by
  have h1 := yI1 hK a0 a1
  intro n hn
  have hs := yK_s h1
  have cc := yK_c h1 (c := n) (by omega)
  omega
theorem yq_ID {g g1 g2 : yM} {s h r1 r2 : Int} (hK : yKnv g) (a0 : ¬ (0 ≤ (yb (fun x y => x / y) s 10) ∧ (yb (fun x y => x / y) s 10) < 4 ∧ 0 ≤ (yb (fun x y => x - x / y * y) s 10) ∧ (yb (fun x y => x - x / y * y) s 10) < 4 ∧ 0 ≤ h ∧ h < 2) → r1 = -1 ∧ g1 = g) (a1 : (0 ≤ (yb (fun x y => x / y) s 10) ∧ (yb (fun x y => x / y) s 10) < 4 ∧ 0 ≤ (yb (fun x y => x - x / y * y) s 10) ∧ (yb (fun x y => x - x / y * y) s 10) < 4 ∧ 0 ≤ h ∧ h < 2) → yTy zpZ g1 ∧ yIf g g1 ∧ ∃ n f : Int, yIoc g (yb (fun x y => x / y) s 10) (yb (fun x y => x - x / y * y) s 10) (Int.toNat (g 1 1)) n f ∧ (h = 0 → r1 = n) ∧ (h = 1 → r1 = f)) (b0 : ¬ (0 ≤ (yb (fun x y => x / y) s 10) ∧ (yb (fun x y => x / y) s 10) < 4 ∧ 0 ≤ (yb (fun x y => x - x / y * y) s 10) ∧ (yb (fun x y => x - x / y * y) s 10) < 4 ∧ 0 ≤ h ∧ h < 2) → r2 = -1 ∧ g2 = g1) (b1 : (0 ≤ (yb (fun x y => x / y) s 10) ∧ (yb (fun x y => x / y) s 10) < 4 ∧ 0 ≤ (yb (fun x y => x - x / y * y) s 10) ∧ (yb (fun x y => x - x / y * y) s 10) < 4 ∧ 0 ≤ h ∧ h < 2) → yFd g1 g2 ∧ ∃ n f : Int, yIom g2 (yb (fun x y => x / y) s 10) (yb (fun x y => x - x / y * y) s 10) (Int.toNat (g2 90 22)) n f ∧ (h = 0 → r2 = n) ∧ (h = 1 → r2 = f)) : yKnv g2 ∧ r1 = r2 := by
  have h1 := yI1 hK a0 a1
  by_cases ok : (0 ≤ (yb (fun x y => x / y) s 10) ∧ (yb (fun x y => x / y) s 10) < 4 ∧ 0 ≤ (yb (fun x y => x - x / y * y) s 10) ∧ (yb (fun x y => x - x / y * y) s 10) < 4 ∧ 0 ≤ h ∧ h < 2)
  · obtain ⟨f1, n2, z2, y1, y2, y3⟩ := b1 ok
    obtain ⟨t1, hF, n1, z1, x1, x2, x3⟩ := a1 ok
    refine ⟨h1.fd f1, ?_⟩
    have x1' := (yIo_w hF).mp x1
    rw [← hF 1 1 (by omega)] at x1'
    obtain ⟨e1, e2⟩ := yId_al h1 f1 x1' y1
    by_cases h0 : h = 0
    · rw [x2 h0, y2 h0, e1]
    · rw [x3 (by omega), y3 (by omega), e2]
  · rw [(b0 ok).2]
    exact ⟨h1, by rw [(a0 ok).1, (b0 ok).1]⟩
theorem yKnv.fh {g m : yM} (h : yKnv g) (hT : yTy zpZ m) (hF : yFh g m) : yKnv m := by
  have u : yUn [(37, 38, 0, 0), (7, 7, 1, 3), (7, 7, 1, 4)] g m := fun a b hn => hF a b (fun e => hn (37, 38, 0, 0) (by decide) (by rw [e]; exact ⟨by decide, by decide, Or.inl rfl⟩)) (fun e => hn (37, 38, 0, 0) (by decide) (by rw [e]; exact ⟨by decide, by decide, Or.inl rfl⟩)) (fun e => by
    rcases e with ⟨rfl, rfl | rfl⟩
    · exact hn (7, 7, 1, 3) (by decide) ⟨by decide, by decide, Or.inr rfl⟩
    · exact hn (7, 7, 1, 4) (by decide) ⟨by decide, by decide, Or.inr rfl⟩)
  exact ⟨⟨⟨hT, h.1.1.2.mono (u.eq (by decide +kernel))⟩, h.1.2.mono (u.eq (by decide +kernel))⟩, h.2.mono h.1.1.1.sz.2 (u.eq (by decide +kernel))⟩
theorem yKnv.fr {g m : yM} (h : yKnv g) (hT : yTy zpZ m) (hF : yFr g m) : yKnv m := by
  have u : yUn [(118, 119, 0, 0)] g m := fun a b hn => hF a b (fun e => hn (118, 119, 0, 0) (by decide) (by rw [e]; exact ⟨by decide, by decide, Or.inl rfl⟩)) (fun e => hn (118, 119, 0, 0) (by decide) (by rw [e]; exact ⟨by decide, by decide, Or.inl rfl⟩))
  exact ⟨⟨⟨hT, h.1.1.2.mono (u.eq (by decide +kernel))⟩, h.1.2.mono (u.eq (by decide +kernel))⟩, h.2.mono h.1.1.1.sz.2 (u.eq (by decide +kernel))⟩
theorem yL1 {g g1 : yM} {s z n r1 : Int} (hK : yKnv g) (a0 : ¬ (0 ≤ (yb (fun x y => x / y) s 10) ∧ (yb (fun x y => x / y) s 10) < 4 ∧ 0 ≤ (yb (fun x y => x - x / y * y) s 10) ∧ (yb (fun x y => x - x / y * y) s 10) < 8 ∧ 1 ≤ n ∧ n ≤ 200) → r1 = -1 ∧ g1 = g) (a1 : (0 ≤ (yb (fun x y => x / y) s 10) ∧ (yb (fun x y => x / y) s 10) < 4 ∧ 0 ≤ (yb (fun x y => x - x / y * y) s 10) ∧ (yb (fun x y => x - x / y * y) s 10) < 8 ∧ 1 ≤ n ∧ n ≤ 200) → yTy zpZ g1 ∧ yFh g g1 ∧ ∃ W S : Nat → Int, yGa (fun q => g (50 + q) 0) (yWv g) (fun q => g (50 + q) 5) (yb (fun x y => x / y) s 10) W S (Int.toNat (g 1 1)) ∧ r1 = yTr W (yb (fun x y => x - x / y * y) s 10) (yZm W S (yb (fun x y => x - x / y * y) s 10) (yDn (fun q => g (50 + q) 0) (yb (fun x y => x / y) s 10) (Int.toNat (g 1 1)))) (yDn (fun q => g (50 + q) 0) (yb (fun x y => x / y) s 10) (Int.toNat (g 1 1))) (Int.toNat n) 0 z S) : yKnv g1 := by
  by_cases ok : (0 ≤ (yb (fun x y => x / y) s 10) ∧ (yb (fun x y => x / y) s 10) < 4 ∧ 0 ≤ (yb (fun x y => x - x / y * y) s 10) ∧ (yb (fun x y => x - x / y * y) s 10) < 8 ∧ 1 ≤ n ∧ n ≤ 200)
  · exact hK.fh (a1 ok).1 (a1 ok).2.1
  · rw [(a0 ok).2]
    exact hK
theorem yjc_SL0 {g : yM} (hK : yKnv g) : yTy zpZ g := by
  exact yK_ty hK
theorem yjm_SL0 {g g1 : yM} {s z n r1 : Int} (hK : yKnv g) (a0 : ¬ (0 ≤ (yb (fun x y => x / y) s 10) ∧ (yb (fun x y => x / y) s 10) < 4 ∧ 0 ≤ (yb (fun x y => x - x / y * y) s 10) ∧ (yb (fun x y => x - x / y * y) s 10) < 8 ∧ 1 ≤ n ∧ n ≤ 200) → r1 = -1 ∧ g1 = g) (a1 : (0 ≤ (yb (fun x y => x / y) s 10) ∧ (yb (fun x y => x / y) s 10) < 4 ∧ 0 ≤ (yb (fun x y => x - x / y * y) s 10) ∧ (yb (fun x y => x - x / y * y) s 10) < 8 ∧ 1 ≤ n ∧ n ≤ 200) → yTy zpZ g1 ∧ yFh g g1 ∧ ∃ W S : Nat → Int, yGa (fun q => g (50 + q) 0) (yWv g) (fun q => g (50 + q) 5) (yb (fun x y => x / y) s 10) W S (Int.toNat (g 1 1)) ∧ r1 = yTr W (yb (fun x y => x - x / y * y) s 10) (yZm W S (yb (fun x y => x - x / y * y) s 10) (yDn (fun q => g (50 + q) 0) (yb (fun x y => x / y) s 10) (Int.toNat (g 1 1)))) (yDn (fun q => g (50 + q) 0) (yb (fun x y => x / y) s 10) (Int.toNat (g 1 1))) (Int.toNat n) 0 z S) : yTy zpZ g1 := by
  have h1 := yL1 hK a0 a1
  exact yK_ty h1
theorem yjm_SL1 {g g1 : yM} {s z n r1 : Int} (hK : yKnv g) (a0 : ¬ (0 ≤ (yb (fun x y => x / y) s 10) ∧ (yb (fun x y => x / y) s 10) < 4 ∧ 0 ≤ (yb (fun x y => x - x / y * y) s 10) ∧ (yb (fun x y => x - x / y * y) s 10) < 8 ∧ 1 ≤ n ∧ n ≤ 200) → r1 = -1 ∧ g1 = g) (a1 : (0 ≤ (yb (fun x y => x / y) s 10) ∧ (yb (fun x y => x / y) s 10) < 4 ∧ 0 ≤ (yb (fun x y => x - x / y * y) s 10) ∧ (yb (fun x y => x - x / y * y) s 10) < 8 ∧ 1 ≤ n ∧ n ≤ 200) → yTy zpZ g1 ∧ yFh g g1 ∧ ∃ W S : Nat → Int, yGa (fun q => g (50 + q) 0) (yWv g) (fun q => g (50 + q) 5) (yb (fun x y => x / y) s 10) W S (Int.toNat (g 1 1)) ∧ r1 = yTr W (yb (fun x y => x - x / y * y) s 10) (yZm W S (yb (fun x y => x - x / y * y) s 10) (yDn (fun q => g (50 + q) 0) (yb (fun x y => x / y) s 10) (Int.toNat (g 1 1)))) (yDn (fun q => g (50 + q) 0) (yb (fun x y => x / y) s 10) (Int.toNat (g 1 1))) (Int.toNat n) 0 z S) : 0 ≤ g1 90 22 ∧ g1 90 22 ≤ 40 := by
  have h1 := yL1 hK a0 a1
  have h := (yK_s h1).1
  omega
theorem yjm_SL2 {g g1 : yM} {s z n r1 : Int} (hK : yKnv g) (a0 : ¬ (0 ≤ (yb (fun x y => x / y) s 10) ∧ (yb (fun x y => x / y) s 10) < 4 ∧ 0 ≤ (yb (fun x y => x - x / y * y) s 10) ∧ (yb (fun x y => x - x / y * y) s 10) < 8 ∧ 1 ≤ n ∧ n ≤ 200) → r1 = -1 ∧ g1 = g) (a1 : (0 ≤ (yb (fun x y => x / y) s 10) ∧ (yb (fun x y => x / y) s 10) < 4 ∧ 0 ≤ (yb (fun x y => x - x / y * y) s 10) ∧ (yb (fun x y => x - x / y * y) s 10) < 8 ∧ 1 ≤ n ∧ n ≤ 200) → yTy zpZ g1 ∧ yFh g g1 ∧ ∃ W S : Nat → Int, yGa (fun q => g (50 + q) 0) (yWv g) (fun q => g (50 + q) 5) (yb (fun x y => x / y) s 10) W S (Int.toNat (g 1 1)) ∧ r1 = yTr W (yb (fun x y => x - x / y * y) s 10) (yZm W S (yb (fun x y => x - x / y * y) s 10) (yDn (fun q => g (50 + q) 0) (yb (fun x y => x / y) s 10) (Int.toNat (g 1 1)))) (yDn (fun q => g (50 + q) 0) (yb (fun x y => x / y) s 10) (Int.toNat (g 1 1))) (Int.toNat n) 0 z S) : 0 ≤ g1 90 6 ∧ g1 90 6 ≤ 12 := by
  have h1 := yL1 hK a0 a1
  have h := (yK_s h1).2.1
  omega
theorem yjm_SL3 {g g1 : yM} {s z n r1 : Int} (hK : yKnv g) (a0 : ¬ (0 ≤ (yb (fun x y => x / y) s 10) ∧ (yb (fun x y => x / y) s 10) < 4 ∧ 0 ≤ (yb (fun x y => x - x / y * y) s 10) ∧ (yb (fun x y => x - x / y * y) s 10) < 8 ∧ 1 ≤ n ∧ n ≤ 200) → r1 = -1 ∧ g1 = g) (a1 : (0 ≤ (yb (fun x y => x / y) s 10) ∧ (yb (fun x y => x / y) s 10) < 4 ∧ 0 ≤ (yb (fun x y => x - x / y * y) s 10) ∧ (yb (fun x y => x - x / y * y) s 10) < 8 ∧ 1 ≤ n ∧ n ≤ 200) → yTy zpZ g1 ∧ yFh g g1 ∧ ∃ W S : Nat → Int, yGa (fun q => g (50 + q) 0) (yWv g) (fun q => g (50 + q) 5) (yb (fun x y => x / y) s 10) W S (Int.toNat (g 1 1)) ∧ r1 = yTr W (yb (fun x y => x - x / y * y) s 10) (yZm W S (yb (fun x y => x - x / y * y) s 10) (yDn (fun q => g (50 + q) 0) (yb (fun x y => x / y) s 10) (Int.toNat (g 1 1)))) (yDn (fun q => g (50 + q) 0) (yb (fun x y => x / y) s 10) (Int.toNat (g 1 1))) (Int.toNat n) 0 z S) : ∀ n : Nat, (n : Int) < g1 90 22 → (0 ≤ g1 104 n ∧ g1 104 n ≤ 5) ∧ g1 102 n ≤ 719 := by
  have h1 := yL1 hK a0 a1
  exact yK_m h1
theorem yq_SL {g g1 g2 : yM} {s z n r1 r2 : Int} (hK : yKnv g) (a0 : ¬ (0 ≤ (yb (fun x y => x / y) s 10) ∧ (yb (fun x y => x / y) s 10) < 4 ∧ 0 ≤ (yb (fun x y => x - x / y * y) s 10) ∧ (yb (fun x y => x - x / y * y) s 10) < 8 ∧ 1 ≤ n ∧ n ≤ 200) → r1 = -1 ∧ g1 = g) (a1 : (0 ≤ (yb (fun x y => x / y) s 10) ∧ (yb (fun x y => x / y) s 10) < 4 ∧ 0 ≤ (yb (fun x y => x - x / y * y) s 10) ∧ (yb (fun x y => x - x / y * y) s 10) < 8 ∧ 1 ≤ n ∧ n ≤ 200) → yTy zpZ g1 ∧ yFh g g1 ∧ ∃ W S : Nat → Int, yGa (fun q => g (50 + q) 0) (yWv g) (fun q => g (50 + q) 5) (yb (fun x y => x / y) s 10) W S (Int.toNat (g 1 1)) ∧ r1 = yTr W (yb (fun x y => x - x / y * y) s 10) (yZm W S (yb (fun x y => x - x / y * y) s 10) (yDn (fun q => g (50 + q) 0) (yb (fun x y => x / y) s 10) (Int.toNat (g 1 1)))) (yDn (fun q => g (50 + q) 0) (yb (fun x y => x / y) s 10) (Int.toNat (g 1 1))) (Int.toNat n) 0 z S) (b0 : ¬ (0 ≤ (yb (fun x y => x / y) s 10) ∧ (yb (fun x y => x / y) s 10) < 4 ∧ 0 ≤ (yb (fun x y => x - x / y * y) s 10) ∧ (yb (fun x y => x - x / y * y) s 10) < 8 ∧ 1 ≤ n ∧ n ≤ 200) → r2 = -1 ∧ g2 = g1) (b1 : (0 ≤ (yb (fun x y => x / y) s 10) ∧ (yb (fun x y => x / y) s 10) < 4 ∧ 0 ≤ (yb (fun x y => x - x / y * y) s 10) ∧ (yb (fun x y => x - x / y * y) s 10) < 8 ∧ 1 ≤ n ∧ n ≤ 200) → ∃ m : yM, yFd g1 m ∧ yTy zpZ g2 ∧ yFr m g2 ∧ ∃ A S : Nat → Int, (∀ q : Nat, q < 40 → 0 ≤ A q ∧ A q ≤ 39) ∧ yGa (fun q => g1 101 q) (fun q => (q : Int)) (fun q => g1 105 q) (yb (fun x y => x / y) s 10) A S (Int.toNat (g1 90 22)) ∧ r2 = yTr (fun q => if 0 ≤ m 111 (Int.toNat (A q)) then yw (m 111 (Int.toNat (A q)) - m 91 (Int.toNat (A q))) else 0) (yb (fun x y => x - x / y * y) s 10) (yZm (fun q => if 0 ≤ m 111 (Int.toNat (A q)) then yw (m 111 (Int.toNat (A q)) - m 91 (Int.toNat (A q))) else 0) S (yb (fun x y => x - x / y * y) s 10) (yDn (fun q => g1 101 q) (yb (fun x y => x / y) s 10) (Int.toNat (g1 90 22)))) (yDn (fun q => g1 101 q) (yb (fun x y => x / y) s 10) (Int.toNat (g1 90 22))) (Int.toNat n) 0 z S) : yKnv g2 ∧ r1 = r2 := by
  have h1 := yL1 hK a0 a1
  by_cases ok : (0 ≤ (yb (fun x y => x / y) s 10) ∧ (yb (fun x y => x / y) s 10) < 4 ∧ 0 ≤ (yb (fun x y => x - x / y * y) s 10) ∧ (yb (fun x y => x - x / y * y) s 10) < 8 ∧ 1 ≤ n ∧ n ≤ 200)
  · obtain ⟨m, f1, t2, f2, A, S', hA, hG2, y2⟩ := b1 ok
    obtain ⟨t1, hF, W, S, hG1, x2⟩ := a1 ok
    refine ⟨(h1.fd f1).fr t2 f2, ?_⟩
    have hs := yK_s h1
    have s1 : g1 1 1 = g 1 1 := hF 1 1 (by decide) (by decide) (by omega)
    have hz := hs.1.2
    rw [s1] at hz
    have eC : Int.toNat (g1 90 22) = Int.toNat (g 1 1) := by rw [hs.1.1, s1]
    rw [eC] at hG2 y2
    have eD : ∀ j : Nat, j < Int.toNat (g 1 1) → (fun q => g (50 + q) 0) j = (fun q => g1 101 q) j := fun j hj => by
      have cc := yK_c h1 (c := j) (by omega)
      show g (50 + j) 0 = g1 101 j
      rw [cc.1.1]
      exact (hF _ _ (by omega) (by omega) (by omega)).symm
    have eN := yDn_c (t := (yb (fun x y => x / y) s 10)) (Int.toNat (g 1 1)) eD
    rw [← eN] at y2
    have hb := @yDn_b (fun q => g (50 + q) 0) (yb (fun x y => x / y) s 10) (Int.toNat (g 1 1))
    have key : ∀ q : Nat, q < yDn (fun q => g (50 + q) 0) (yb (fun x y => x / y) s 10) (Int.toNat (g 1 1)) → W q = (if 0 ≤ m 111 (Int.toNat (A q)) then yw (m 111 (Int.toNat (A q)) - m 91 (Int.toNat (A q))) else 0) ∧ S q = S' q := fun q hq => by
      obtain ⟨j, j1, j2, j3⟩ := yDn_ex _ q hq
      have cc := yK_c h1 (c := j) (by omega)
      have fc := yK_f h1 f1 (c := j) (by omega)
      have j4 : yDn (fun q => g1 101 q) (yb (fun x y => x / y) s 10) j = q := (yDn_c j (fun i hi => eD i (by omega))).symm.trans j3
      obtain ⟨p1, p2⟩ := hG1 j j1 j2
      obtain ⟨p3, p4⟩ := hG2 j j1 ((eD j j1).symm.trans j2)
      rw [j3] at p1 p2
      rw [j4] at p3 p4
      have fr : ∀ b : Nat, g1 (50 + j) b = g (50 + j) b := fun b => hF _ _ (by omega) (by omega) (by omega)
      have eS : ySv g1 j = ySv g j := by
        unfold ySv
        rw [fr 8, fr 10]
      have e9 : m 91 j = g (50 + j) 1 := ((f1.2.1 91 j (by decide) (by decide)).trans cc.2.1.1).trans (fr 1)
      refine ⟨?_, ?_⟩
      · rw [p1, p3]
        show yWv g j = if 0 ≤ m 111 j then yw (m 111 j - m 91 j) else 0
        rw [fc.2.1, eS, e9]
        unfold yWv
        by_cases c : ySv g j < 0
        · rw [if_pos c, if_neg (by omega)]
        · rw [if_neg c, if_pos (by omega)]
      · rw [p2, p4]
        show g (50 + j) 5 = g1 105 j
        rw [cc.1.2.2.2.2.1]
        exact (fr 5).symm
    have hW := fun q hq => (key q hq).1
    have hS := fun q hq => (key q hq).2
    rw [x2, y2, yZm_c (s := (yb (fun x y => x - x / y * y) s 10)) _ hW hS]
    exact yTr_c (by omega) hW _ _ _ _ _ hS
  · rw [(b0 ok).2]
    exact ⟨h1, by rw [(a0 ok).1, (b0 ok).1]⟩
