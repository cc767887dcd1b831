/-! THE NEXT ONE, BREAKS: THE CLASS -/
/-- what asking by rules changes: names, stacks -/
def yFq (g m : yM) : Prop := ∀ a b : Nat, a ≠ 26 → a ≠ 35 → a ≠ 36 → m a b = g a b
theorem yFq.rf {g : yM} : yFq g g := fun _ _ _ _ _ => rfl
theorem yFq.tr {g m k : yM} (h1 : yFq g m) (h2 : yFq m k) : yFq g k := fun a b c1 c2 c3 => (h2 a b c1 c2 c3).trans (h1 a b c1 c2 c3)
theorem yFq.w {g m : yM} {j : Nat} {v : Int} (h : yFq g m) : yFq g (yset m 26 j v) := fun a b c1 c2 c3 => (yset_nc c1).trans (h a b c1 c2 c3)
theorem yFq.c {g m : yM} (h : yFq g m) (i b : Nat) : m (50 + i) b = g (50 + i) b := h _ _ (by omega) (by omega) (by omega)
def yNf (v0 v1 v2 v3 v4 v5 v6 v7 : Int) (j : Nat) : Int := match j with
  | 0 => v0
  | 1 => v1
  | 2 => v2
  | 3 => v3
  | 4 => v4
  | 5 => v5
  | 6 => v6
  | 7 => v7
  | _ => 0
theorem yN8_8 {N : Nat → Int} {v0 v1 v2 v3 v4 v5 v6 v7 : Int} (h0 : N 0 = v0) (h1 : N 1 = v1) (h2 : N 2 = v2) (h3 : N 3 = v3) (h4 : N 4 = v4) (h5 : N 5 = v5) (h6 : N 6 = v6) (h7 : N 7 = v7) : yN8 N = yNf v0 v1 v2 v3 v4 v5 v6 v7 := funext fun j => by
  match j with
  | 0 => exact h0
  | 1 => exact h1
  | 2 => exact h2
  | 3 => exact h3
  | 4 => exact h4
  | 5 => exact h5
  | 6 => exact h6
  | 7 => exact h7
  | n + 8 => exact if_neg (by omega)
/-- the score of a comer with its numbers -/
def ySco (kd srt a nu l inn t b tx : Int) : Int := if kd = 2 then (if nu = -1 then 0 else yw (99 - nu)) else if kd = 3 then (if srt = a then 1 else 0) else if kd = 4 then yw (99 - l) else if kd = 5 then inn else if kd = 6 then (if b ≤ yw (t - inn) then 2 else if srt = a then 1 else 0) else if kd = 7 then tx else 0
/-- the class: the text's worth, names, the score -/
def yTxv (g : yM) (N : Nat → Int) : Int := yWtx (Int.toNat (g 6 5)) g N 61 0 []
def yNc (g : yM) (a : Int) (c : Nat) (e t : Int) : Nat → Int := yNf (yw (t - g (50 + c) 1)) (g (50 + c) 5) (g (50 + c) 4) (g 13 (Int.toNat (g (50 + c) 4))) (if g (50 + c) 6 = -1 then 0 else g (50 + c) 6) (if g (50 + c) 7 = e then 1 else 0) (g 27 (Int.toNat a)) (g 28 (Int.toNat a))
def ySa (g : yM) (a e t : Int) (c : Nat) : Int := ySco (g 30 (Int.toNat a)) (g (50 + c) 5) (g 27 (Int.toNat a)) (g (50 + c) 6) (g 13 (Int.toNat (g (50 + c) 4))) (g (50 + c) 1) t (g 28 (Int.toNat a)) (yTxv g (yNc g a c e t))
theorem yWt_fr {q : Nat} (hq : q = 10 ∨ q = 11) {g m : yM} (f : yFq g m) {N : Nat → Int} {n : Nat} {a : Int} {st : List Int} : yWtx q m N n a st = yWtx q g N n a st := by
  have e : (fun j => (m (q + 21) j, m (q + 23) j)) = (fun j => (g (q + 21) j, g (q + 23) j)) := funext fun j => by rw [f (q + 21) j (by omega) (by omega) (by omega), f (q + 23) j (by omega) (by omega) (by omega)]
  unfold yWtx
  rw [e, f q 4 (by omega) (by omega) (by omega)]
theorem yTy.t6 {g : yM} (h : yTy zpZ g) : g 6 5 = 10 ∨ g 6 5 = 11 := by
  have z : 10 ≤ g 6 5 ∧ g 6 5 ≤ 11 := h.fRf (List.mem_of_getElem? (i := 6) rfl) rfl
  omega
theorem yTxv_fr {g m : yM} (hT : yTy zpZ g) (f : yFq g m) (N : Nat → Int) : yTxv m N = yTxv g N := by
  unfold yTxv
  rw [f 6 5 (by decide) (by decide) (by decide)]
  exact yWt_fr (by rcases hT.t6 with e | e <;> rw [e]; exact Or.inl rfl; exact Or.inr rfl) f
theorem yNc_fr {g m : yM} (f : yFq g m) (a : Int) (c : Nat) (e t : Int) : yNc m a c e t = yNc g a c e t := by
  unfold yNc
  rw [f.c c 1, f.c c 5, f.c c 4, f.c c 6, f.c c 7, f 13 _ (by decide) (by decide) (by decide), f 27 _ (by decide) (by decide) (by decide), f 28 _ (by decide) (by decide) (by decide)]
theorem ySa_fr {g m : yM} (hT : yTy zpZ g) (f : yFq g m) (a e t : Int) (c : Nat) : ySa m a e t c = ySa g a e t c := by
  unfold ySa
  rw [yNc_fr f, yTxv_fr hT f, f.c c 1, f.c c 5, f.c c 4, f.c c 6, f 13 _ (by decide) (by decide) (by decide), f 27 _ (by decide) (by decide) (by decide), f 28 _ (by decide) (by decide) (by decide), f 30 _ (by decide) (by decide) (by decide)]
theorem ySv_fq {g m : yM} (f : yFq g m) (c : Nat) : ySv m c = ySv g c := by
  unfold ySv
  rw [f.c c 8, f.c c 10]
/-- the best of the first n: who, with which score -/
def yNp (P : Nat → Prop) (sc inn : Nat → Int) : Nat → Int → Int → Prop
  | 0, b, s => b = -2 ∧ s = 0
  | n + 1, b, s => ∃ b0 s0 : Int, yNp P sc inn n b0 s0 ∧ ((P n ∧ (b0 < 0 ∨ s0 < sc n ∨ (sc n = s0 ∧ inn n < inn (Int.toNat b0))) ∧ b = n ∧ s = sc n) ∨ (¬ (P n ∧ (b0 < 0 ∨ s0 < sc n ∨ (sc n = s0 ∧ inn n < inn (Int.toNat b0)))) ∧ b = b0 ∧ s = s0))
theorem yNp_b {P : Nat → Prop} {sc inn : Nat → Int} : ∀ (n : Nat) (b s : Int), yNp P sc inn n b s → b = -2 ∨ (0 ≤ b ∧ b < n)
  | 0, _, _, h => Or.inl h.1
  | n + 1, b, s, h => by
    obtain ⟨b0, s0, h1, h2⟩ := h
    have ih := yNp_b n b0 s0 h1
    rcases h2 with ⟨-, -, e, -⟩ | ⟨-, e, -⟩ <;> omega
theorem yNp_1 {P : Nat → Prop} {sc inn : Nat → Int} {n : Nat} {b0 s0 b x : Int} (h : yNp P sc inn n b0 s0) (hP : P n) (hx : sc n = x) (hc : b0 < 0 ∨ s0 < x ∨ (x = s0 ∧ inn n < inn (Int.toNat b0))) (hb : b = n) : yNp P sc inn (n + 1) b x := ⟨b0, s0, h, Or.inl ⟨hP, by rw [hx]; exact hc, hb, hx.symm⟩⟩
theorem yNp_0 {P : Nat → Prop} {sc inn : Nat → Int} {n : Nat} {b0 s0 : Int} (h : yNp P sc inn n b0 s0) (hn : ¬ (P n ∧ (b0 < 0 ∨ s0 < sc n ∨ (sc n = s0 ∧ inn n < inn (Int.toNat b0))))) : yNp P sc inn (n + 1) b0 s0 := ⟨b0, s0, h, Or.inr ⟨hn, rfl, rfl⟩⟩
theorem yNp_u {P Q : Nat → Prop} {sc sd inn jnn : Nat → Int} : ∀ (n : Nat) (b s c t : Int), (∀ i : Nat, i < n → (P i ↔ Q i)) → (∀ i : Nat, i < n → P i → sc i = sd i) → (∀ i : Nat, i < n → inn i = jnn i) → yNp P sc inn n b s → yNp Q sd jnn n c t → b = c ∧ s = t
  | 0, b, s, c, t, _, _, _, h1, h2 => ⟨h1.1.trans h2.1.symm, h1.2.trans h2.2.symm⟩
  | n + 1, b, s, c, t, hP, hs, hi, h1, h2 => by
    obtain ⟨b0, s0, p1, p2⟩ := h1
    obtain ⟨c0, t0, q1, q2⟩ := h2
    obtain ⟨e1, e2⟩ := yNp_u n b0 s0 c0 t0 (fun i h => hP i (by omega)) (fun i h => hs i (by omega)) (fun i h => hi i (by omega)) p1 q1
    subst e1 e2
    have hb := yNp_b n b0 s0 p1
    have hn := hP n (by omega)
    have key : (P n ∧ (b0 < 0 ∨ s0 < sc n ∨ (sc n = s0 ∧ inn n < inn (Int.toNat b0)))) ↔ (Q n ∧ (b0 < 0 ∨ s0 < sd n ∨ (sd n = s0 ∧ jnn n < jnn (Int.toNat b0)))) := by
      by_cases hp : P n
      · rw [hs n (by omega) hp, hi n (by omega), and_congr hn Iff.rfl]
        by_cases hb0 : b0 < 0
        · exact ⟨fun z => ⟨z.1, Or.inl hb0⟩, fun z => ⟨z.1, Or.inl hb0⟩⟩
        · rw [hi (Int.toNat b0) (by omega)]
      · exact ⟨fun z => absurd z.1 hp, fun z => absurd (hn.mpr z.1) hp⟩
    rcases p2 with ⟨a1, a2, a3, a4⟩ | ⟨a1, a2, a3⟩
    · rcases q2 with ⟨d1, d2, d3, d4⟩ | ⟨d1, d2, d3⟩
      · exact ⟨a3.trans d3.symm, (a4.trans (hs n (by omega) a1)).trans d4.symm⟩
      · exact absurd (key.mp ⟨a1, a2⟩) d1
    · rcases q2 with ⟨d1, d2, d3, d4⟩ | ⟨d1, d2, d3⟩
      · exact absurd (key.mpr ⟨d1, d2⟩) a1
      · exact ⟨a2.trans d2.symm, a3.trans d3.symm⟩
/-- who could be next -/
def yEl (g : yM) (d e t : Int) (c : Nat) : Prop := g (50 + c) 0 = d ∧ g (50 + c) 1 ≤ t ∧ t ≤ ySv g c ∧ (g 1 10 = 0 ∨ g (50 + c) 7 = e)
def yNx1 (g : yM) (a d e t : Int) (n : Nat) (b s : Int) : Prop := yNp (yEl g d e t) (ySa g a e t) (fun c => g (50 + c) 1) n b s
theorem yEl_fr {g m : yM} (f : yFq g m) (d e t : Int) : yEl m d e t = yEl g d e t := funext fun c => by
  unfold yEl
  rw [f.c c 0, f.c c 1, f.c c 7, ySv_fq f, f 1 10 (by decide) (by decide) (by decide)]
theorem yNx1_fr {g m : yM} (hT : yTy zpZ g) (f : yFq g m) {a d e t : Int} {n : Nat} {b s : Int} : yNx1 m a d e t n b s ↔ yNx1 g a d e t n b s := by
  unfold yNx1
  rw [yEl_fr f, show ySa m a e t = ySa g a e t from funext fun c => ySa_fr hT f a e t c, show (fun c : Nat => m (50 + c) 1) = (fun c => g (50 + c) 1) from funext fun c => f.c c 1]
/-- a break of a rule; how many -/
def yBr (g : yM) (a : Int) (c : Nat) : Prop := g (50 + c) 10 ≠ -2 ∧ ∀ b s : Int, yNx1 g a (g (50 + c) 0) (g (50 + c) 3) (ySv g c) (Int.toNat (g 1 1)) b s → b ≠ c
theorem yBr_fr {g m : yM} (hT : yTy zpZ g) (f : yFq g m) (a : Int) (c : Nat) : yBr m a c ↔ yBr g a c := by
  unfold yBr
  rw [f.c c 10, f.c c 0, f.c c 3, ySv_fq f, f 1 1 (by decide) (by decide) (by decide)]
  exact ⟨fun z => ⟨z.1, fun b s h => z.2 b s ((yNx1_fr hT f).mpr h)⟩, fun z => ⟨z.1, fun b s h => z.2 b s ((yNx1_fr hT f).mp h)⟩⟩
theorem yBr_of {g : yM} {a : Int} {c : Nat} {b s : Int} (h : yNx1 g a (g (50 + c) 0) (g (50 + c) 3) (ySv g c) (Int.toNat (g 1 1)) b s) (h1 : g (50 + c) 10 ≠ -2) : yBr g a c ↔ b ≠ c := by
  refine ⟨fun z => z.2 b s h, fun z => ⟨h1, fun b' s' h' => ?_⟩⟩
  have e := yNp_u _ _ _ _ _ (fun _ _ => Iff.rfl) (fun _ _ _ => rfl) (fun _ _ => rfl) h h'
  rw [← e.1]
  exact z
def yP_SBT_10 : yPT := fun as g K => ∃ (a w e t : Int), as = [(3, 6), (1, a), (141, w), (1, e), (1, t)] ∧ (yTy zpZ g) ∧ (0 ≤ a ∧ a < 20) ∧ (0 ≤ w ∧ w < g 1 1) ∧ (g 6 5 = 10) ∧ (∀ (r : Int) (g' : yM), (r = yTxv g (yNc g a (Int.toNat w) e t)) → (yTy zpZ g') → (yFq g g') → K [(1, r)] g')
def yC_SBT_10 : yC := (86, (3, 88), yP_SBT_10)
set_option maxRecDepth 8000 in
theorem yp118_SBT_10 {K : List yV → yM → Prop} {Y : yNx} {g m : yM} {a w e t : Int} (hY : yCl zpD86 (zpZ, zpRS, zpP7, zpMT, [yC_WU_10], (3, 88), 1) K Y) (hG : yTy zpZ g) (hT : yTy zpZ m) (f : yFq g m) (ha : 0 ≤ a ∧ a < 20) (hw : 0 ≤ w ∧ w < g 1 1) (hz : g 1 1 ≤ 40) (h65 : g 6 5 = 10) (hK : ∀ (r : Int) (g' : yM), (r = yTxv g (yNc g a (Int.toNat w) e t)) → (yTy zpZ g') → (yFq g g') → K [(1, r)] g') (n0 : m 26 0 = yw (t - g (50 + Int.toNat w) 1)) (n1 : m 26 1 = g (50 + Int.toNat w) 5) (n2 : m 26 2 = g (50 + Int.toNat w) 4) (n3 : m 26 3 = g 13 (Int.toNat (g (50 + Int.toNat w) 4))) (n4 : m 26 4 = if g (50 + Int.toNat w) 6 = -1 then 0 else g (50 + Int.toNat w) 6) (n5 : m 26 5 = if g (50 + Int.toNat w) 7 = e then 1 else 0) (n6 : m 26 6 = g 27 (Int.toNat a)) (n7 : m 26 7 = g 28 (Int.toNat a)) : Y 118 [(3, 6), (1, a), (141, w), (1, e), (1, t)] [] m := by
  have e0 : yset m 6 5 10 = m := by
    have e1 : m 6 5 = 10 := (f 6 5 (by decide) (by decide) (by decide)).trans h65
    rw [← e1]
    exact yset_id _ _ _
  rw [← e0]
  refine yrun_ok (sp := fun pc => false) hY 6 118 _ [] (yset m 6 5 10) ?_
  show ([(3, ((yset m 6 5 10) 6 5)), (3, 26)] = [(3, 10), (3, 26)] ∧ (yTy zpZ (yset m 6 5 10)) ∧ (0 ≤ (yset m 6 5 10) 10 4 ∧ (yset m 6 5 10) 10 4 ≤ 61) ∧ (∀ (r1 : Int) (g2 : yM), (r1 = yWtx 10 (yset m 6 5 10) (yN8 ((yset m 6 5 10) 26)) 61 0 []) → (yTy zpZ g2) → (∀ a b : Nat, a ≠ 35 → g2 a b = (yset m 6 5 10) a b) → (K [(1, r1)] g2)))
  refine ⟨rfl, (by rw [e0]; exact hT), (by rw [yset_nc (by decide)]; have z := hT.fRs (q := 10) (Or.inl rfl); exact z), ?_⟩
  intro r1 g2 p30 p31 p32
  have r0 := p30
  have r2 := p32
  rw [e0] at r0 r2
  refine hK _ _ ?_ p31 (f.tr (fun a b c1 c2 c3 => r2 a b (by omega)))
  rw [r0, yN8_8 n0 n1 n2 n3 n4 n5 n6 n7, yWt_fr (Or.inl rfl) f]
  unfold yTxv
  rw [h65]
  rfl
set_option maxRecDepth 8000 in
theorem yp105_SBT_10 {K : List yV → yM → Prop} {Y : yNx} {g m : yM} {a w e t : Int} (hY : yCl zpD86 (zpZ, zpRS, zpP7, zpMT, [yC_WU_10], (3, 88), 1) K Y) (hG : yTy zpZ g) (hT : yTy zpZ m) (f : yFq g m) (ha : 0 ≤ a ∧ a < 20) (hw : 0 ≤ w ∧ w < g 1 1) (hz : g 1 1 ≤ 40) (h65 : g 6 5 = 10) (hK : ∀ (r : Int) (g' : yM), (r = yTxv g (yNc g a (Int.toNat w) e t)) → (yTy zpZ g') → (yFq g g') → K [(1, r)] g') (n0 : m 26 0 = yw (t - g (50 + Int.toNat w) 1)) (n1 : m 26 1 = g (50 + Int.toNat w) 5) (n2 : m 26 2 = g (50 + Int.toNat w) 4) (n3 : m 26 3 = g 13 (Int.toNat (g (50 + Int.toNat w) 4))) (n4 : m 26 4 = if g (50 + Int.toNat w) 6 = -1 then 0 else g (50 + Int.toNat w) 6) (n5 : m 26 5 = if g (50 + Int.toNat w) 7 = e then 1 else 0) (n6 : m 26 6 = g 27 (Int.toNat a)) : Y 105 [(3, 6), (1, a), (141, w), (1, e), (1, t)] [] m := by
  refine yrun_ok (sp := fun pc => Nat.beq pc 118) hY 9 105 _ [] m ?_
  show (((0 : Int) ≤ a ∧ a < ((20 : Nat) : Int)) ∧ (((0 : Int) ≤ 7 ∧ 7 < ((8 : Nat) : Int)) ∧ (Y 118 [(3, 6), (1, a), (141, w), (1, e), (1, t)] [] (yset m 26 7 (m 28 (Int.toNat a))))))
  refine ⟨(by have z := hG.fM (i := Int.toNat w) (by omega); have z2 := f.c (Int.toNat w) 4; omega), ?_⟩
  refine ⟨(by have z := hG.fM (i := Int.toNat w) (by omega); have z2 := f.c (Int.toNat w) 4; omega), ?_⟩
  have ev : (m 28 (Int.toNat a)) = g 28 (Int.toNat a) := by
    exact f 28 _ (by decide) (by decide) (by decide)
  rw [ev]
  exact yp118_SBT_10 hY hG (hT.sA (List.mem_of_getElem? (i := 25) rfl) (by decide +kernel) (hG.fA (List.mem_of_getElem? (i := 27) rfl) (by omega))) f.w ha hw hz h65 hK ((yset_nj (by decide)).trans n0) ((yset_nj (by decide)).trans n1) ((yset_nj (by decide)).trans n2) ((yset_nj (by decide)).trans n3) ((yset_nj (by decide)).trans n4) ((yset_nj (by decide)).trans n5) ((yset_nj (by decide)).trans n6) (yset_eq)
set_option maxRecDepth 8000 in
theorem yp92_SBT_10 {K : List yV → yM → Prop} {Y : yNx} {g m : yM} {a w e t : Int} (hY : yCl zpD86 (zpZ, zpRS, zpP7, zpMT, [yC_WU_10], (3, 88), 1) K Y) (hG : yTy zpZ g) (hT : yTy zpZ m) (f : yFq g m) (ha : 0 ≤ a ∧ a < 20) (hw : 0 ≤ w ∧ w < g 1 1) (hz : g 1 1 ≤ 40) (h65 : g 6 5 = 10) (hK : ∀ (r : Int) (g' : yM), (r = yTxv g (yNc g a (Int.toNat w) e t)) → (yTy zpZ g') → (yFq g g') → K [(1, r)] g') (n0 : m 26 0 = yw (t - g (50 + Int.toNat w) 1)) (n1 : m 26 1 = g (50 + Int.toNat w) 5) (n2 : m 26 2 = g (50 + Int.toNat w) 4) (n3 : m 26 3 = g 13 (Int.toNat (g (50 + Int.toNat w) 4))) (n4 : m 26 4 = if g (50 + Int.toNat w) 6 = -1 then 0 else g (50 + Int.toNat w) 6) (n5 : m 26 5 = if g (50 + Int.toNat w) 7 = e then 1 else 0) : Y 92 [(3, 6), (1, a), (141, w), (1, e), (1, t)] [] m := by
  refine yrun_ok (sp := fun pc => Nat.beq pc 105) hY 9 92 _ [] m ?_
  show (((0 : Int) ≤ a ∧ a < ((20 : Nat) : Int)) ∧ (((0 : Int) ≤ 6 ∧ 6 < ((8 : Nat) : Int)) ∧ (Y 105 [(3, 6), (1, a), (141, w), (1, e), (1, t)] [] (yset m 26 6 (m 27 (Int.toNat a))))))
  refine ⟨(by have z := hG.fM (i := Int.toNat w) (by omega); have z2 := f.c (Int.toNat w) 4; omega), ?_⟩
  refine ⟨(by have z := hG.fM (i := Int.toNat w) (by omega); have z2 := f.c (Int.toNat w) 4; omega), ?_⟩
  have ev : (m 27 (Int.toNat a)) = g 27 (Int.toNat a) := by
    exact f 27 _ (by decide) (by decide) (by decide)
  rw [ev]
  exact yp105_SBT_10 hY hG (hT.sA (List.mem_of_getElem? (i := 25) rfl) (by decide +kernel) (hG.fA (List.mem_of_getElem? (i := 26) rfl) (by omega))) f.w ha hw hz h65 hK ((yset_nj (by decide)).trans n0) ((yset_nj (by decide)).trans n1) ((yset_nj (by decide)).trans n2) ((yset_nj (by decide)).trans n3) ((yset_nj (by decide)).trans n4) ((yset_nj (by decide)).trans n5) (yset_eq)
set_option maxRecDepth 8000 in
theorem yp73_SBT_10 {K : List yV → yM → Prop} {Y : yNx} {g m : yM} {a w e t : Int} (hY : yCl zpD86 (zpZ, zpRS, zpP7, zpMT, [yC_WU_10], (3, 88), 1) K Y) (hG : yTy zpZ g) (hT : yTy zpZ m) (f : yFq g m) (ha : 0 ≤ a ∧ a < 20) (hw : 0 ≤ w ∧ w < g 1 1) (hz : g 1 1 ≤ 40) (h65 : g 6 5 = 10) (hK : ∀ (r : Int) (g' : yM), (r = yTxv g (yNc g a (Int.toNat w) e t)) → (yTy zpZ g') → (yFq g g') → K [(1, r)] g') (n0 : m 26 0 = yw (t - g (50 + Int.toNat w) 1)) (n1 : m 26 1 = g (50 + Int.toNat w) 5) (n2 : m 26 2 = g (50 + Int.toNat w) 4) (n3 : m 26 3 = g 13 (Int.toNat (g (50 + Int.toNat w) 4))) (n4 : m 26 4 = if g (50 + Int.toNat w) 6 = -1 then 0 else g (50 + Int.toNat w) 6) : Y 73 [(3, 6), (1, a), (141, w), (1, e), (1, t)] [] m := by
  refine yrun_ok (sp := fun pc => Nat.beq pc 92) hY 11 73 _ [] m ?_
  show (((m (50 + Int.toNat w) 7) ≠ e → (((0 : Int) ≤ 5 ∧ 5 < ((8 : Nat) : Int)) ∧ (Y 92 [(3, 6), (1, a), (141, w), (1, e), (1, t)] [] (yset m 26 5 0)))) ∧ (¬ ((m (50 + Int.toNat w) 7) ≠ e) → (((0 : Int) ≤ 5 ∧ 5 < ((8 : Nat) : Int)) ∧ (Y 92 [(3, 6), (1, a), (141, w), (1, e), (1, t)] [] (yset m 26 5 1)))))
  refine ⟨fun h1 => ?_, fun h1 => ?_⟩
  · refine ⟨(by have z := hG.fM (i := Int.toNat w) (by omega); have z2 := f.c (Int.toNat w) 4; omega), ?_⟩
    have z7 := f.c (Int.toNat w) 7
    have ev : (0 : Int) = (if g (50 + Int.toNat w) 7 = e then 1 else 0) := (if_neg (by omega)).symm
    exact yp92_SBT_10 hY hG (hT.sA (List.mem_of_getElem? (i := 25) rfl) (by decide +kernel) ⟨by decide, by decide⟩) f.w ha hw hz h65 hK ((yset_nj (by decide)).trans n0) ((yset_nj (by decide)).trans n1) ((yset_nj (by decide)).trans n2) ((yset_nj (by decide)).trans n3) ((yset_nj (by decide)).trans n4) (yset_eq.trans ev)
  · refine ⟨(by have z := hG.fM (i := Int.toNat w) (by omega); have z2 := f.c (Int.toNat w) 4; omega), ?_⟩
    have z7 := f.c (Int.toNat w) 7
    have ev : (1 : Int) = (if g (50 + Int.toNat w) 7 = e then 1 else 0) := (if_pos (by omega)).symm
    exact yp92_SBT_10 hY hG (hT.sA (List.mem_of_getElem? (i := 25) rfl) (by decide +kernel) ⟨by decide, by decide⟩) f.w ha hw hz h65 hK ((yset_nj (by decide)).trans n0) ((yset_nj (by decide)).trans n1) ((yset_nj (by decide)).trans n2) ((yset_nj (by decide)).trans n3) ((yset_nj (by decide)).trans n4) (yset_eq.trans ev)
set_option maxRecDepth 8000 in
theorem yp51_SBT_10 {K : List yV → yM → Prop} {Y : yNx} {g m : yM} {a w e t : Int} (hY : yCl zpD86 (zpZ, zpRS, zpP7, zpMT, [yC_WU_10], (3, 88), 1) K Y) (hG : yTy zpZ g) (hT : yTy zpZ m) (f : yFq g m) (ha : 0 ≤ a ∧ a < 20) (hw : 0 ≤ w ∧ w < g 1 1) (hz : g 1 1 ≤ 40) (h65 : g 6 5 = 10) (hK : ∀ (r : Int) (g' : yM), (r = yTxv g (yNc g a (Int.toNat w) e t)) → (yTy zpZ g') → (yFq g g') → K [(1, r)] g') (n0 : m 26 0 = yw (t - g (50 + Int.toNat w) 1)) (n1 : m 26 1 = g (50 + Int.toNat w) 5) (n2 : m 26 2 = g (50 + Int.toNat w) 4) (n3 : m 26 3 = g 13 (Int.toNat (g (50 + Int.toNat w) 4))) : Y 51 [(3, 6), (1, a), (141, w), (1, e), (1, t)] [] m := by
  refine yrun_ok (sp := fun pc => Nat.beq pc 73) hY 11 51 _ [] m ?_
  show (((m (50 + Int.toNat w) 6) ≠ (-1) → (((0 : Int) ≤ 4 ∧ 4 < ((8 : Nat) : Int)) ∧ (Y 73 [(3, 6), (1, a), (141, w), (1, e), (1, t)] [] (yset m 26 4 (m (50 + Int.toNat w) 6))))) ∧ (¬ ((m (50 + Int.toNat w) 6) ≠ (-1)) → (((0 : Int) ≤ 4 ∧ 4 < ((8 : Nat) : Int)) ∧ (Y 73 [(3, 6), (1, a), (141, w), (1, e), (1, t)] [] (yset m 26 4 0)))))
  refine ⟨fun h1 => ?_, fun h1 => ?_⟩
  · refine ⟨(by have z := hG.fM (i := Int.toNat w) (by omega); have z2 := f.c (Int.toNat w) 4; omega), ?_⟩
    have z6 := f.c (Int.toNat w) 6
    have r6 : -2147483648 ≤ g (50 + Int.toNat w) 6 ∧ g (50 + Int.toNat w) 6 ≤ 2147483647 := hG.fR (List.mem_of_getElem? (i := 41) rfl) (by omega) (by omega) rfl
    have ev : (m (50 + Int.toNat w) 6) = (if g (50 + Int.toNat w) 6 = -1 then 0 else g (50 + Int.toNat w) 6) := by
      rw [if_neg (by omega)]
      exact z6
    exact yp73_SBT_10 hY hG (hT.sA (List.mem_of_getElem? (i := 25) rfl) (by decide +kernel) ⟨by omega, by omega⟩) f.w ha hw hz h65 hK ((yset_nj (by decide)).trans n0) ((yset_nj (by decide)).trans n1) ((yset_nj (by decide)).trans n2) ((yset_nj (by decide)).trans n3) (yset_eq.trans ev)
  · refine ⟨(by have z := hG.fM (i := Int.toNat w) (by omega); have z2 := f.c (Int.toNat w) 4; omega), ?_⟩
    have z6 := f.c (Int.toNat w) 6
    have r6 : -2147483648 ≤ g (50 + Int.toNat w) 6 ∧ g (50 + Int.toNat w) 6 ≤ 2147483647 := hG.fR (List.mem_of_getElem? (i := 41) rfl) (by omega) (by omega) rfl
    have ev : 0 = (if g (50 + Int.toNat w) 6 = -1 then 0 else g (50 + Int.toNat w) 6) := by
      rw [if_pos (by omega)]
    exact yp73_SBT_10 hY hG (hT.sA (List.mem_of_getElem? (i := 25) rfl) (by decide +kernel) ⟨by omega, by omega⟩) f.w ha hw hz h65 hK ((yset_nj (by decide)).trans n0) ((yset_nj (by decide)).trans n1) ((yset_nj (by decide)).trans n2) ((yset_nj (by decide)).trans n3) (yset_eq.trans ev)
set_option maxRecDepth 8000 in
theorem yp33_SBT_10 {K : List yV → yM → Prop} {Y : yNx} {g m : yM} {a w e t : Int} (hY : yCl zpD86 (zpZ, zpRS, zpP7, zpMT, [yC_WU_10], (3, 88), 1) K Y) (hG : yTy zpZ g) (hT : yTy zpZ m) (f : yFq g m) (ha : 0 ≤ a ∧ a < 20) (hw : 0 ≤ w ∧ w < g 1 1) (hz : g 1 1 ≤ 40) (h65 : g 6 5 = 10) (hK : ∀ (r : Int) (g' : yM), (r = yTxv g (yNc g a (Int.toNat w) e t)) → (yTy zpZ g') → (yFq g g') → K [(1, r)] g') (n0 : m 26 0 = yw (t - g (50 + Int.toNat w) 1)) (n1 : m 26 1 = g (50 + Int.toNat w) 5) (n2 : m 26 2 = g (50 + Int.toNat w) 4) : Y 33 [(3, 6), (1, a), (141, w), (1, e), (1, t)] [] m := by
  refine yrun_ok (sp := fun pc => Nat.beq pc 51) hY 11 33 _ [] m ?_
  show (((0 : Int) ≤ (m (50 + Int.toNat w) 4) ∧ (m (50 + Int.toNat w) 4) < ((6 : Nat) : Int)) ∧ (((0 : Int) ≤ 3 ∧ 3 < ((8 : Nat) : Int)) ∧ (Y 51 [(3, 6), (1, a), (141, w), (1, e), (1, t)] [] (yset m 26 3 (m 13 (Int.toNat (m (50 + Int.toNat w) 4)))))))
  refine ⟨(by have z := hG.fM (i := Int.toNat w) (by omega); have z2 := f.c (Int.toNat w) 4; omega), ?_⟩
  refine ⟨(by have z := hG.fM (i := Int.toNat w) (by omega); have z2 := f.c (Int.toNat w) 4; omega), ?_⟩
  have ev : (m 13 (Int.toNat (m (50 + Int.toNat w) 4))) = g 13 (Int.toNat (g (50 + Int.toNat w) 4)) := by
    rw [f 13 _ (by decide) (by decide) (by decide), f.c (Int.toNat w) 4]
  rw [ev]
  exact yp51_SBT_10 hY hG (hT.sA (List.mem_of_getElem? (i := 25) rfl) (by decide +kernel) (hG.fA (List.mem_of_getElem? (i := 12) rfl) (by have := hG.fM (i := Int.toNat w) (by omega); omega))) f.w ha hw hz h65 hK ((yset_nj (by decide)).trans n0) ((yset_nj (by decide)).trans n1) ((yset_nj (by decide)).trans n2) (yset_eq)
set_option maxRecDepth 8000 in
theorem yp23_SBT_10 {K : List yV → yM → Prop} {Y : yNx} {g m : yM} {a w e t : Int} (hY : yCl zpD86 (zpZ, zpRS, zpP7, zpMT, [yC_WU_10], (3, 88), 1) K Y) (hG : yTy zpZ g) (hT : yTy zpZ m) (f : yFq g m) (ha : 0 ≤ a ∧ a < 20) (hw : 0 ≤ w ∧ w < g 1 1) (hz : g 1 1 ≤ 40) (h65 : g 6 5 = 10) (hK : ∀ (r : Int) (g' : yM), (r = yTxv g (yNc g a (Int.toNat w) e t)) → (yTy zpZ g') → (yFq g g') → K [(1, r)] g') (n0 : m 26 0 = yw (t - g (50 + Int.toNat w) 1)) (n1 : m 26 1 = g (50 + Int.toNat w) 5) : Y 23 [(3, 6), (1, a), (141, w), (1, e), (1, t)] [] m := by
  refine yrun_ok (sp := fun pc => Nat.beq pc 33) hY 7 23 _ [] m ?_
  show (((0 : Int) ≤ 2 ∧ 2 < ((8 : Nat) : Int)) ∧ (Y 33 [(3, 6), (1, a), (141, w), (1, e), (1, t)] [] (yset m 26 2 (m (50 + Int.toNat w) 4))))
  refine ⟨(by have z := hG.fM (i := Int.toNat w) (by omega); have z2 := f.c (Int.toNat w) 4; omega), ?_⟩
  have ev : (m (50 + Int.toNat w) 4) = g (50 + Int.toNat w) 4 := by
    exact f.c (Int.toNat w) 4
  rw [ev]
  exact yp33_SBT_10 hY hG (hT.sA (List.mem_of_getElem? (i := 25) rfl) (by decide +kernel) (by have := hG.fM (i := Int.toNat w) (by omega); omega)) f.w ha hw hz h65 hK ((yset_nj (by decide)).trans n0) ((yset_nj (by decide)).trans n1) (yset_eq)
set_option maxRecDepth 8000 in
theorem yp13_SBT_10 {K : List yV → yM → Prop} {Y : yNx} {g m : yM} {a w e t : Int} (hY : yCl zpD86 (zpZ, zpRS, zpP7, zpMT, [yC_WU_10], (3, 88), 1) K Y) (hG : yTy zpZ g) (hT : yTy zpZ m) (f : yFq g m) (ha : 0 ≤ a ∧ a < 20) (hw : 0 ≤ w ∧ w < g 1 1) (hz : g 1 1 ≤ 40) (h65 : g 6 5 = 10) (hK : ∀ (r : Int) (g' : yM), (r = yTxv g (yNc g a (Int.toNat w) e t)) → (yTy zpZ g') → (yFq g g') → K [(1, r)] g') (n0 : m 26 0 = yw (t - g (50 + Int.toNat w) 1)) : Y 13 [(3, 6), (1, a), (141, w), (1, e), (1, t)] [] m := by
  refine yrun_ok (sp := fun pc => Nat.beq pc 23) hY 7 13 _ [] m ?_
  show (((0 : Int) ≤ 1 ∧ 1 < ((8 : Nat) : Int)) ∧ (Y 23 [(3, 6), (1, a), (141, w), (1, e), (1, t)] [] (yset m 26 1 (m (50 + Int.toNat w) 5))))
  refine ⟨(by have z := hG.fM (i := Int.toNat w) (by omega); have z2 := f.c (Int.toNat w) 4; omega), ?_⟩
  have ev : (m (50 + Int.toNat w) 5) = g (50 + Int.toNat w) 5 := by
    exact f.c (Int.toNat w) 5
  rw [ev]
  exact yp23_SBT_10 hY hG (hT.sA (List.mem_of_getElem? (i := 25) rfl) (by decide +kernel) (hG.fR (List.mem_of_getElem? (i := 41) rfl) (by omega) (by omega) rfl)) f.w ha hw hz h65 hK ((yset_nj (by decide)).trans n0) (yset_eq)
set_option maxRecDepth 8000 in
theorem yp0_SBT_10 {K : List yV → yM → Prop} {Y : yNx} {g m : yM} {a w e t : Int} (hY : yCl zpD86 (zpZ, zpRS, zpP7, zpMT, [yC_WU_10], (3, 88), 1) K Y) (hG : yTy zpZ g) (hT : yTy zpZ m) (f : yFq g m) (ha : 0 ≤ a ∧ a < 20) (hw : 0 ≤ w ∧ w < g 1 1) (hz : g 1 1 ≤ 40) (h65 : g 6 5 = 10) (hK : ∀ (r : Int) (g' : yM), (r = yTxv g (yNc g a (Int.toNat w) e t)) → (yTy zpZ g') → (yFq g g') → K [(1, r)] g')  : Y 0 [(3, 6), (1, a), (141, w), (1, e), (1, t)] [] m := by
  refine yrun_ok (sp := fun pc => Nat.beq pc 13) hY 9 0 _ [] m ?_
  show (((0 : Int) ≤ 0 ∧ 0 < ((8 : Nat) : Int)) ∧ (Y 13 [(3, 6), (1, a), (141, w), (1, e), (1, t)] [] (yset m 26 0 (yw (t - (m (50 + Int.toNat w) 1))))))
  refine ⟨(by have z := hG.fM (i := Int.toNat w) (by omega); have z2 := f.c (Int.toNat w) 4; omega), ?_⟩
  have ev : (yw (t - (m (50 + Int.toNat w) 1))) = yw (t - g (50 + Int.toNat w) 1) := by
    rw [f.c (Int.toNat w) 1]
  rw [ev]
  exact yp13_SBT_10 hY hG (hT.sA (List.mem_of_getElem? (i := 25) rfl) (by decide +kernel) (yw_rng _)) f.w ha hw hz h65 hK  (yset_eq)
theorem yv_SBT_10 {K : List yV → yM → Prop} {Y : yNx} {g : yM} {a w e t : Int} (hY : yCl zpD86 (zpZ, zpRS, zpP7, zpMT, [yC_WU_10], (3, 88), 1) K Y) (hr_a : -2147483648 ≤ a ∧ a ≤ 2147483647) (hr_e : -2147483648 ≤ e ∧ e ≤ 2147483647) (hr_t : -2147483648 ≤ t ∧ t ≤ 2147483647) (hp0 : yTy zpZ g) (hp1 : 0 ≤ a ∧ a < 20) (hp2 : 0 ≤ w ∧ w < g 1 1) (hp3 : g 6 5 = 10) (hK : ∀ (r : Int) (g' : yM), (r = yTxv g (yNc g a (Int.toNat w) e t)) → (yTy zpZ g') → (yFq g g') → K [(1, r)] g') : Y 0 [(3, 6), (1, a), (141, w), (1, e), (1, t)] [] g := yp0_SBT_10 hY hp0 hp0 yFq.rf hp1 hp2 hp0.sz.2 hp3 hK
theorem yM_SBT_10 {l : Launch} {Ts : List Cond} {cl : List vw_C} {RO : zRO} (H : zHyp Ts cl RO) : yMet l Ts cl zpZ RO zpMT yC_SBT_10 := ymet_of2 H.1 H.2.1 zpDj H.2.2.1 yRb H.p7 (ymets_cons (yM_WU_10 H) ymets_nil) (zrc1 rfl) (plainFor_of_name zpy7) zpDk86 (fun as g K Y h hA hY => by
  obtain ⟨a, w, e, t, rfl, hp0, hp1, hp2, hp3, hK⟩ := h
  exact yv_SBT_10 hY (yAr1 hA (by simp)) (yAr1 hA (by simp)) (yAr1 hA (by simp)) hp0 hp1 hp2 hp3 hK)
def yP_SBT_11 : yPT := fun as g K => ∃ (a w e t : Int), as = [(3, 6), (1, a), (141, w), (1, e), (1, t)] ∧ (yTy zpZ g) ∧ (0 ≤ a ∧ a < 20) ∧ (0 ≤ w ∧ w < g 1 1) ∧ (g 6 5 = 11) ∧ (∀ (r : Int) (g' : yM), (r = yTxv g (yNc g a (Int.toNat w) e t)) → (yTy zpZ g') → (yFq g g') → K [(1, r)] g')
def yC_SBT_11 : yC := (86, (3, 88), yP_SBT_11)
set_option maxRecDepth 8000 in
theorem yp118_SBT_11 {K : List yV → yM → Prop} {Y : yNx} {g m : yM} {a w e t : Int} (hY : yCl zpD86 (zpZ, zpRS, zpP7, zpMT, [yC_WU_11], (3, 88), 1) K Y) (hG : yTy zpZ g) (hT : yTy zpZ m) (f : yFq g m) (ha : 0 ≤ a ∧ a < 20) (hw : 0 ≤ w ∧ w < g 1 1) (hz : g 1 1 ≤ 40) (h65 : g 6 5 = 11) (hK : ∀ (r : Int) (g' : yM), (r = yTxv g (yNc g a (Int.toNat w) e t)) → (yTy zpZ g') → (yFq g g') → K [(1, r)] g') (n0 : m 26 0 = yw (t - g (50 + Int.toNat w) 1)) (n1 : m 26 1 = g (50 + Int.toNat w) 5) (n2 : m 26 2 = g (50 + Int.toNat w) 4) (n3 : m 26 3 = g 13 (Int.toNat (g (50 + Int.toNat w) 4))) (n4 : m 26 4 = if g (50 + Int.toNat w) 6 = -1 then 0 else g (50 + Int.toNat w) 6) (n5 : m 26 5 = if g (50 + Int.toNat w) 7 = e then 1 else 0) (n6 : m 26 6 = g 27 (Int.toNat a)) (n7 : m 26 7 = g 28 (Int.toNat a)) : Y 118 [(3, 6), (1, a), (141, w), (1, e), (1, t)] [] m := by
  have e0 : yset m 6 5 11 = m := by
    have e1 : m 6 5 = 11 := (f 6 5 (by decide) (by decide) (by decide)).trans h65
    rw [← e1]
    exact yset_id _ _ _
  rw [← e0]
  refine yrun_ok (sp := fun pc => false) hY 6 118 _ [] (yset m 6 5 11) ?_
  show ([(3, ((yset m 6 5 11) 6 5)), (3, 26)] = [(3, 11), (3, 26)] ∧ (yTy zpZ (yset m 6 5 11)) ∧ (0 ≤ (yset m 6 5 11) 11 4 ∧ (yset m 6 5 11) 11 4 ≤ 61) ∧ (∀ (r1 : Int) (g2 : yM), (r1 = yWtx 11 (yset m 6 5 11) (yN8 ((yset m 6 5 11) 26)) 61 0 []) → (yTy zpZ g2) → (∀ a b : Nat, a ≠ 36 → g2 a b = (yset m 6 5 11) a b) → (K [(1, r1)] g2)))
  refine ⟨rfl, (by rw [e0]; exact hT), (by rw [yset_nc (by decide)]; have z := hT.fRs (q := 11) (Or.inr rfl); exact z), ?_⟩
  intro r1 g2 p30 p31 p32
  have r0 := p30
  have r2 := p32
  rw [e0] at r0 r2
  refine hK _ _ ?_ p31 (f.tr (fun a b c1 c2 c3 => r2 a b (by omega)))
  rw [r0, yN8_8 n0 n1 n2 n3 n4 n5 n6 n7, yWt_fr (Or.inr rfl) f]
  unfold yTxv
  rw [h65]
  rfl
set_option maxRecDepth 8000 in
theorem yp105_SBT_11 {K : List yV → yM → Prop} {Y : yNx} {g m : yM} {a w e t : Int} (hY : yCl zpD86 (zpZ, zpRS, zpP7, zpMT, [yC_WU_11], (3, 88), 1) K Y) (hG : yTy zpZ g) (hT : yTy zpZ m) (f : yFq g m) (ha : 0 ≤ a ∧ a < 20) (hw : 0 ≤ w ∧ w < g 1 1) (hz : g 1 1 ≤ 40) (h65 : g 6 5 = 11) (hK : ∀ (r : Int) (g' : yM), (r = yTxv g (yNc g a (Int.toNat w) e t)) → (yTy zpZ g') → (yFq g g') → K [(1, r)] g') (n0 : m 26 0 = yw (t - g (50 + Int.toNat w) 1)) (n1 : m 26 1 = g (50 + Int.toNat w) 5) (n2 : m 26 2 = g (50 + Int.toNat w) 4) (n3 : m 26 3 = g 13 (Int.toNat (g (50 + Int.toNat w) 4))) (n4 : m 26 4 = if g (50 + Int.toNat w) 6 = -1 then 0 else g (50 + Int.toNat w) 6) (n5 : m 26 5 = if g (50 + Int.toNat w) 7 = e then 1 else 0) (n6 : m 26 6 = g 27 (Int.toNat a)) : Y 105 [(3, 6), (1, a), (141, w), (1, e), (1, t)] [] m := by
  refine yrun_ok (sp := fun pc => Nat.beq pc 118) hY 9 105 _ [] m ?_
  show (((0 : Int) ≤ a ∧ a < ((20 : Nat) : Int)) ∧ (((0 : Int) ≤ 7 ∧ 7 < ((8 : Nat) : Int)) ∧ (Y 118 [(3, 6), (1, a), (141, w), (1, e), (1, t)] [] (yset m 26 7 (m 28 (Int.toNat a))))))
  refine ⟨(by have z := hG.fM (i := Int.toNat w) (by omega); have z2 := f.c (Int.toNat w) 4; omega), ?_⟩
  refine ⟨(by have z := hG.fM (i := Int.toNat w) (by omega); have z2 := f.c (Int.toNat w) 4; omega), ?_⟩
  have ev : (m 28 (Int.toNat a)) = g 28 (Int.toNat a) := by
    exact f 28 _ (by decide) (by decide) (by decide)
  rw [ev]
  exact yp118_SBT_11 hY hG (hT.sA (List.mem_of_getElem? (i := 25) rfl) (by decide +kernel) (hG.fA (List.mem_of_getElem? (i := 27) rfl) (by omega))) f.w ha hw hz h65 hK ((yset_nj (by decide)).trans n0) ((yset_nj (by decide)).trans n1) ((yset_nj (by decide)).trans n2) ((yset_nj (by decide)).trans n3) ((yset_nj (by decide)).trans n4) ((yset_nj (by decide)).trans n5) ((yset_nj (by decide)).trans n6) (yset_eq)
set_option maxRecDepth 8000 in
theorem yp92_SBT_11 {K : List yV → yM → Prop} {Y : yNx} {g m : yM} {a w e t : Int} (hY : yCl zpD86 (zpZ, zpRS, zpP7, zpMT, [yC_WU_11], (3, 88), 1) K Y) (hG : yTy zpZ g) (hT : yTy zpZ m) (f : yFq g m) (ha : 0 ≤ a ∧ a < 20) (hw : 0 ≤ w ∧ w < g 1 1) (hz : g 1 1 ≤ 40) (h65 : g 6 5 = 11) (hK : ∀ (r : Int) (g' : yM), (r = yTxv g (yNc g a (Int.toNat w) e t)) → (yTy zpZ g') → (yFq g g') → K [(1, r)] g') (n0 : m 26 0 = yw (t - g (50 + Int.toNat w) 1)) (n1 : m 26 1 = g (50 + Int.toNat w) 5) (n2 : m 26 2 = g (50 + Int.toNat w) 4) (n3 : m 26 3 = g 13 (Int.toNat (g (50 + Int.toNat w) 4))) (n4 : m 26 4 = if g (50 + Int.toNat w) 6 = -1 then 0 else g (50 + Int.toNat w) 6) (n5 : m 26 5 = if g (50 + Int.toNat w) 7 = e then 1 else 0) : Y 92 [(3, 6), (1, a), (141, w), (1, e), (1, t)] [] m := by
  refine yrun_ok (sp := fun pc => Nat.beq pc 105) hY 9 92 _ [] m ?_
  show (((0 : Int) ≤ a ∧ a < ((20 : Nat) : Int)) ∧ (((0 : Int) ≤ 6 ∧ 6 < ((8 : Nat) : Int)) ∧ (Y 105 [(3, 6), (1, a), (141, w), (1, e), (1, t)] [] (yset m 26 6 (m 27 (Int.toNat a))))))
  refine ⟨(by have z := hG.fM (i := Int.toNat w) (by omega); have z2 := f.c (Int.toNat w) 4; omega), ?_⟩
  refine ⟨(by have z := hG.fM (i := Int.toNat w) (by omega); have z2 := f.c (Int.toNat w) 4; omega), ?_⟩
  have ev : (m 27 (Int.toNat a)) = g 27 (Int.toNat a) := by
    exact f 27 _ (by decide) (by decide) (by decide)
  rw [ev]
  exact yp105_SBT_11 hY hG (hT.sA (List.mem_of_getElem? (i := 25) rfl) (by decide +kernel) (hG.fA (List.mem_of_getElem? (i := 26) rfl) (by omega))) f.w ha hw hz h65 hK ((yset_nj (by decide)).trans n0) ((yset_nj (by decide)).trans n1) ((yset_nj (by decide)).trans n2) ((yset_nj (by decide)).trans n3) ((yset_nj (by decide)).trans n4) ((yset_nj (by decide)).trans n5) (yset_eq)
set_option maxRecDepth 8000 in
theorem yp73_SBT_11 {K : List yV → yM → Prop} {Y : yNx} {g m : yM} {a w e t : Int} (hY : yCl zpD86 (zpZ, zpRS, zpP7, zpMT, [yC_WU_11], (3, 88), 1) K Y) (hG : yTy zpZ g) (hT : yTy zpZ m) (f : yFq g m) (ha : 0 ≤ a ∧ a < 20) (hw : 0 ≤ w ∧ w < g 1 1) (hz : g 1 1 ≤ 40) (h65 : g 6 5 = 11) (hK : ∀ (r : Int) (g' : yM), (r = yTxv g (yNc g a (Int.toNat w) e t)) → (yTy zpZ g') → (yFq g g') → K [(1, r)] g') (n0 : m 26 0 = yw (t - g (50 + Int.toNat w) 1)) (n1 : m 26 1 = g (50 + Int.toNat w) 5) (n2 : m 26 2 = g (50 + Int.toNat w) 4) (n3 : m 26 3 = g 13 (Int.toNat (g (50 + Int.toNat w) 4))) (n4 : m 26 4 = if g (50 + Int.toNat w) 6 = -1 then 0 else g (50 + Int.toNat w) 6) : Y 73 [(3, 6), (1, a), (141, w), (1, e), (1, t)] [] m := by
  refine yrun_ok (sp := fun pc => Nat.beq pc 92) hY 11 73 _ [] m ?_
  show (((m (50 + Int.toNat w) 7) ≠ e → (((0 : Int) ≤ 5 ∧ 5 < ((8 : Nat) : Int)) ∧ (Y 92 [(3, 6), (1, a), (141, w), (1, e), (1, t)] [] (yset m 26 5 0)))) ∧ (¬ ((m (50 + Int.toNat w) 7) ≠ e) → (((0 : Int) ≤ 5 ∧ 5 < ((8 : Nat) : Int)) ∧ (Y 92 [(3, 6), (1, a), (141, w), (1, e), (1, t)] [] (yset m 26 5 1)))))
  refine ⟨fun h1 => ?_, fun h1 => ?_⟩
  · refine ⟨(by have z := hG.fM (i := Int.toNat w) (by omega); have z2 := f.c (Int.toNat w) 4; omega), ?_⟩
    have z7 := f.c (Int.toNat w) 7
    have ev : (0 : Int) = (if g (50 + Int.toNat w) 7 = e then 1 else 0) := (if_neg (by omega)).symm
    exact yp92_SBT_11 hY hG (hT.sA (List.mem_of_getElem? (i := 25) rfl) (by decide +kernel) ⟨by decide, by decide⟩) f.w ha hw hz h65 hK ((yset_nj (by decide)).trans n0) ((yset_nj (by decide)).trans n1) ((yset_nj (by decide)).trans n2) ((yset_nj (by decide)).trans n3) ((yset_nj (by decide)).trans n4) (yset_eq.trans ev)
  · refine ⟨(by have z := hG.fM (i := Int.toNat w) (by omega); have z2 := f.c (Int.toNat w) 4; omega), ?_⟩
    have z7 := f.c (Int.toNat w) 7
    have ev : (1 : Int) = (if g (50 + Int.toNat w) 7 = e then 1 else 0) := (if_pos (by omega)).symm
    exact yp92_SBT_11 hY hG (hT.sA (List.mem_of_getElem? (i := 25) rfl) (by decide +kernel) ⟨by decide, by decide⟩) f.w ha hw hz h65 hK ((yset_nj (by decide)).trans n0) ((yset_nj (by decide)).trans n1) ((yset_nj (by decide)).trans n2) ((yset_nj (by decide)).trans n3) ((yset_nj (by decide)).trans n4) (yset_eq.trans ev)
set_option maxRecDepth 8000 in
theorem yp51_SBT_11 {K : List yV → yM → Prop} {Y : yNx} {g m : yM} {a w e t : Int} (hY : yCl zpD86 (zpZ, zpRS, zpP7, zpMT, [yC_WU_11], (3, 88), 1) K Y) (hG : yTy zpZ g) (hT : yTy zpZ m) (f : yFq g m) (ha : 0 ≤ a ∧ a < 20) (hw : 0 ≤ w ∧ w < g 1 1) (hz : g 1 1 ≤ 40) (h65 : g 6 5 = 11) (hK : ∀ (r : Int) (g' : yM), (r = yTxv g (yNc g a (Int.toNat w) e t)) → (yTy zpZ g') → (yFq g g') → K [(1, r)] g') (n0 : m 26 0 = yw (t - g (50 + Int.toNat w) 1)) (n1 : m 26 1 = g (50 + Int.toNat w) 5) (n2 : m 26 2 = g (50 + Int.toNat w) 4) (n3 : m 26 3 = g 13 (Int.toNat (g (50 + Int.toNat w) 4))) : Y 51 [(3, 6), (1, a), (141, w), (1, e), (1, t)] [] m := by
  refine yrun_ok (sp := fun pc => Nat.beq pc 73) hY 11 51 _ [] m ?_
  show (((m (50 + Int.toNat w) 6) ≠ (-1) → (((0 : Int) ≤ 4 ∧ 4 < ((8 : Nat) : Int)) ∧ (Y 73 [(3, 6), (1, a), (141, w), (1, e), (1, t)] [] (yset m 26 4 (m (50 + Int.toNat w) 6))))) ∧ (¬ ((m (50 + Int.toNat w) 6) ≠ (-1)) → (((0 : Int) ≤ 4 ∧ 4 < ((8 : Nat) : Int)) ∧ (Y 73 [(3, 6), (1, a), (141, w), (1, e), (1, t)] [] (yset m 26 4 0)))))
  refine ⟨fun h1 => ?_, fun h1 => ?_⟩
  · refine ⟨(by have z := hG.fM (i := Int.toNat w) (by omega); have z2 := f.c (Int.toNat w) 4; omega), ?_⟩
    have z6 := f.c (Int.toNat w) 6
    have r6 : -2147483648 ≤ g (50 + Int.toNat w) 6 ∧ g (50 + Int.toNat w) 6 ≤ 2147483647 := hG.fR (List.mem_of_getElem? (i := 41) rfl) (by omega) (by omega) rfl
    have ev : (m (50 + Int.toNat w) 6) = (if g (50 + Int.toNat w) 6 = -1 then 0 else g (50 + Int.toNat w) 6) := by
      rw [if_neg (by omega)]
      exact z6
    exact yp73_SBT_11 hY hG (hT.sA (List.mem_of_getElem? (i := 25) rfl) (by decide +kernel) ⟨by omega, by omega⟩) f.w ha hw hz h65 hK ((yset_nj (by decide)).trans n0) ((yset_nj (by decide)).trans n1) ((yset_nj (by decide)).trans n2) ((yset_nj (by decide)).trans n3) (yset_eq.trans ev)
  · refine ⟨(by have z := hG.fM (i := Int.toNat w) (by omega); have z2 := f.c (Int.toNat w) 4; omega), ?_⟩
    have z6 := f.c (Int.toNat w) 6
    have r6 : -2147483648 ≤ g (50 + Int.toNat w) 6 ∧ g (50 + Int.toNat w) 6 ≤ 2147483647 := hG.fR (List.mem_of_getElem? (i := 41) rfl) (by omega) (by omega) rfl
    have ev : 0 = (if g (50 + Int.toNat w) 6 = -1 then 0 else g (50 + Int.toNat w) 6) := by
      rw [if_pos (by omega)]
    exact yp73_SBT_11 hY hG (hT.sA (List.mem_of_getElem? (i := 25) rfl) (by decide +kernel) ⟨by omega, by omega⟩) f.w ha hw hz h65 hK ((yset_nj (by decide)).trans n0) ((yset_nj (by decide)).trans n1) ((yset_nj (by decide)).trans n2) ((yset_nj (by decide)).trans n3) (yset_eq.trans ev)
set_option maxRecDepth 8000 in
theorem yp33_SBT_11 {K : List yV → yM → Prop} {Y : yNx} {g m : yM} {a w e t : Int} (hY : yCl zpD86 (zpZ, zpRS, zpP7, zpMT, [yC_WU_11], (3, 88), 1) K Y) (hG : yTy zpZ g) (hT : yTy zpZ m) (f : yFq g m) (ha : 0 ≤ a ∧ a < 20) (hw : 0 ≤ w ∧ w < g 1 1) (hz : g 1 1 ≤ 40) (h65 : g 6 5 = 11) (hK : ∀ (r : Int) (g' : yM), (r = yTxv g (yNc g a (Int.toNat w) e t)) → (yTy zpZ g') → (yFq g g') → K [(1, r)] g') (n0 : m 26 0 = yw (t - g (50 + Int.toNat w) 1)) (n1 : m 26 1 = g (50 + Int.toNat w) 5) (n2 : m 26 2 = g (50 + Int.toNat w) 4) : Y 33 [(3, 6), (1, a), (141, w), (1, e), (1, t)] [] m := by
  refine yrun_ok (sp := fun pc => Nat.beq pc 51) hY 11 33 _ [] m ?_
  show (((0 : Int) ≤ (m (50 + Int.toNat w) 4) ∧ (m (50 + Int.toNat w) 4) < ((6 : Nat) : Int)) ∧ (((0 : Int) ≤ 3 ∧ 3 < ((8 : Nat) : Int)) ∧ (Y 51 [(3, 6), (1, a), (141, w), (1, e), (1, t)] [] (yset m 26 3 (m 13 (Int.toNat (m (50 + Int.toNat w) 4)))))))
  refine ⟨(by have z := hG.fM (i := Int.toNat w) (by omega); have z2 := f.c (Int.toNat w) 4; omega), ?_⟩
  refine ⟨(by have z := hG.fM (i := Int.toNat w) (by omega); have z2 := f.c (Int.toNat w) 4; omega), ?_⟩
  have ev : (m 13 (Int.toNat (m (50 + Int.toNat w) 4))) = g 13 (Int.toNat (g (50 + Int.toNat w) 4)) := by
    rw [f 13 _ (by decide) (by decide) (by decide), f.c (Int.toNat w) 4]
  rw [ev]
  exact yp51_SBT_11 hY hG (hT.sA (List.mem_of_getElem? (i := 25) rfl) (by decide +kernel) (hG.fA (List.mem_of_getElem? (i := 12) rfl) (by have := hG.fM (i := Int.toNat w) (by omega); omega))) f.w ha hw hz h65 hK ((yset_nj (by decide)).trans n0) ((yset_nj (by decide)).trans n1) ((yset_nj (by decide)).trans n2) (yset_eq)
set_option maxRecDepth 8000 in
theorem yp23_SBT_11 {K : List yV → yM → Prop} {Y : yNx} {g m : yM} {a w e t : Int} (hY : yCl zpD86 (zpZ, zpRS, zpP7, zpMT, [yC_WU_11], (3, 88), 1) K Y) (hG : yTy zpZ g) (hT : yTy zpZ m) (f : yFq g m) (ha : 0 ≤ a ∧ a < 20) (hw : 0 ≤ w ∧ w < g 1 1) (hz : g 1 1 ≤ 40) (h65 : g 6 5 = 11) (hK : ∀ (r : Int) (g' : yM), (r = yTxv g (yNc g a (Int.toNat w) e t)) → (yTy zpZ g') → (yFq g g') → K [(1, r)] g') (n0 : m 26 0 = yw (t - g (50 + Int.toNat w) 1)) (n1 : m 26 1 = g (50 + Int.toNat w) 5) : Y 23 [(3, 6), (1, a), (141, w), (1, e), (1, t)] [] m := by
  refine yrun_ok (sp := fun pc => Nat.beq pc 33) hY 7 23 _ [] m ?_
  show (((0 : Int) ≤ 2 ∧ 2 < ((8 : Nat) : Int)) ∧ (Y 33 [(3, 6), (1, a), (141, w), (1, e), (1, t)] [] (yset m 26 2 (m (50 + Int.toNat w) 4))))
  refine ⟨(by have z := hG.fM (i := Int.toNat w) (by omega); have z2 := f.c (Int.toNat w) 4; omega), ?_⟩
  have ev : (m (50 + Int.toNat w) 4) = g (50 + Int.toNat w) 4 := by
    exact f.c (Int.toNat w) 4
  rw [ev]
  exact yp33_SBT_11 hY hG (hT.sA (List.mem_of_getElem? (i := 25) rfl) (by decide +kernel) (by have := hG.fM (i := Int.toNat w) (by omega); omega)) f.w ha hw hz h65 hK ((yset_nj (by decide)).trans n0) ((yset_nj (by decide)).trans n1) (yset_eq)
set_option maxRecDepth 8000 in
theorem yp13_SBT_11 {K : List yV → yM → Prop} {Y : yNx} {g m : yM} {a w e t : Int} (hY : yCl zpD86 (zpZ, zpRS, zpP7, zpMT, [yC_WU_11], (3, 88), 1) K Y) (hG : yTy zpZ g) (hT : yTy zpZ m) (f : yFq g m) (ha : 0 ≤ a ∧ a < 20) (hw : 0 ≤ w ∧ w < g 1 1) (hz : g 1 1 ≤ 40) (h65 : g 6 5 = 11) (hK : ∀ (r : Int) (g' : yM), (r = yTxv g (yNc g a (Int.toNat w) e t)) → (yTy zpZ g') → (yFq g g') → K [(1, r)] g') (n0 : m 26 0 = yw (t - g (50 + Int.toNat w) 1)) : Y 13 [(3, 6), (1, a), (141, w), (1, e), (1, t)] [] m := by
  refine yrun_ok (sp := fun pc => Nat.beq pc 23) hY 7 13 _ [] m ?_
  show (((0 : Int) ≤ 1 ∧ 1 < ((8 : Nat) : Int)) ∧ (Y 23 [(3, 6), (1, a), (141, w), (1, e), (1, t)] [] (yset m 26 1 (m (50 + Int.toNat w) 5))))
  refine ⟨(by have z := hG.fM (i := Int.toNat w) (by omega); have z2 := f.c (Int.toNat w) 4; omega), ?_⟩
  have ev : (m (50 + Int.toNat w) 5) = g (50 + Int.toNat w) 5 := by
    exact f.c (Int.toNat w) 5
  rw [ev]
  exact yp23_SBT_11 hY hG (hT.sA (List.mem_of_getElem? (i := 25) rfl) (by decide +kernel) (hG.fR (List.mem_of_getElem? (i := 41) rfl) (by omega) (by omega) rfl)) f.w ha hw hz h65 hK ((yset_nj (by decide)).trans n0) (yset_eq)
set_option maxRecDepth 8000 in
theorem yp0_SBT_11 {K : List yV → yM → Prop} {Y : yNx} {g m : yM} {a w e t : Int} (hY : yCl zpD86 (zpZ, zpRS, zpP7, zpMT, [yC_WU_11], (3, 88), 1) K Y) (hG : yTy zpZ g) (hT : yTy zpZ m) (f : yFq g m) (ha : 0 ≤ a ∧ a < 20) (hw : 0 ≤ w ∧ w < g 1 1) (hz : g 1 1 ≤ 40) (h65 : g 6 5 = 11) (hK : ∀ (r : Int) (g' : yM), (r = yTxv g (yNc g a (Int.toNat w) e t)) → (yTy zpZ g') → (yFq g g') → K [(1, r)] g')  : Y 0 [(3, 6), (1, a), (141, w), (1, e), (1, t)] [] m := by
  refine yrun_ok (sp := fun pc => Nat.beq pc 13) hY 9 0 _ [] m ?_
  show (((0 : Int) ≤ 0 ∧ 0 < ((8 : Nat) : Int)) ∧ (Y 13 [(3, 6), (1, a), (141, w), (1, e), (1, t)] [] (yset m 26 0 (yw (t - (m (50 + Int.toNat w) 1))))))
  refine ⟨(by have z := hG.fM (i := Int.toNat w) (by omega); have z2 := f.c (Int.toNat w) 4; omega), ?_⟩
  have ev : (yw (t - (m (50 + Int.toNat w) 1))) = yw (t - g (50 + Int.toNat w) 1) := by
    rw [f.c (Int.toNat w) 1]
  rw [ev]
  exact yp13_SBT_11 hY hG (hT.sA (List.mem_of_getElem? (i := 25) rfl) (by decide +kernel) (yw_rng _)) f.w ha hw hz h65 hK  (yset_eq)
theorem yv_SBT_11 {K : List yV → yM → Prop} {Y : yNx} {g : yM} {a w e t : Int} (hY : yCl zpD86 (zpZ, zpRS, zpP7, zpMT, [yC_WU_11], (3, 88), 1) K Y) (hr_a : -2147483648 ≤ a ∧ a ≤ 2147483647) (hr_e : -2147483648 ≤ e ∧ e ≤ 2147483647) (hr_t : -2147483648 ≤ t ∧ t ≤ 2147483647) (hp0 : yTy zpZ g) (hp1 : 0 ≤ a ∧ a < 20) (hp2 : 0 ≤ w ∧ w < g 1 1) (hp3 : g 6 5 = 11) (hK : ∀ (r : Int) (g' : yM), (r = yTxv g (yNc g a (Int.toNat w) e t)) → (yTy zpZ g') → (yFq g g') → K [(1, r)] g') : Y 0 [(3, 6), (1, a), (141, w), (1, e), (1, t)] [] g := yp0_SBT_11 hY hp0 hp0 yFq.rf hp1 hp2 hp0.sz.2 hp3 hK
theorem yM_SBT_11 {l : Launch} {Ts : List Cond} {cl : List vw_C} {RO : zRO} (H : zHyp Ts cl RO) : yMet l Ts cl zpZ RO zpMT yC_SBT_11 := ymet_of2 H.1 H.2.1 zpDj H.2.2.1 yRb H.p7 (ymets_cons (yM_WU_11 H) ymets_nil) (zrc1 rfl) (plainFor_of_name zpy7) zpDk86 (fun as g K Y h hA hY => by
  obtain ⟨a, w, e, t, rfl, hp0, hp1, hp2, hp3, hK⟩ := h
  exact yv_SBT_11 hY (yAr1 hA (by simp)) (yAr1 hA (by simp)) (yAr1 hA (by simp)) hp0 hp1 hp2 hp3 hK)
def yP_SBJ : yPT := fun as g K => ∃ (a w e t : Int), as = [(3, 6), (1, a), (141, w), (1, e), (1, t)] ∧ (yTy zpZ g) ∧ (0 ≤ a ∧ a < 20) ∧ (0 ≤ w ∧ w < g 1 1) ∧ (∀ (r : Int) (g' : yM), (r = yTxv g (yNc g a (Int.toNat w) e t)) → (yTy zpZ g') → (yFq g g') → K [(1, r)] g')
def yC_SBJ : yC := (86, (3, 88), yP_SBJ)
theorem yM_SBJ {l : Launch} {Ts : List Cond} {cl : List vw_C} {RO : zRO} (H : zHyp Ts cl RO) : yMet l Ts cl zpZ RO zpMT yC_SBJ := yMet.of (yMet.or (yM_SBT_10 H) (yM_SBT_11 H)) (fun as g K h => by
  obtain ⟨a, w, e, t, rfl, h1, h2, h3, h4⟩ := h
  rcases h1.t6 with z | z
  · exact Or.inl ⟨a, w, e, t, rfl, h1, h2, h3, z, h4⟩
  · exact Or.inr ⟨a, w, e, t, rfl, h1, h2, h3, z, h4⟩)
def yP_SCO : yPT := fun as g K => ∃ (a w e t : Int), as = [(3, 6), (1, a), (141, w), (1, e), (1, t)] ∧ (yTy zpZ g) ∧ (0 ≤ a ∧ a < 20) ∧ (0 ≤ w ∧ w < g 1 1) ∧ (∀ (r : Int) (g' : yM), (r = ySa g a e t (Int.toNat w)) → (yTy zpZ g') → (yFq g g') → K [(1, r)] g')
def yC_SCO : yC := (87, (4, 112), yP_SCO)
set_option maxRecDepth 8000 in
theorem yv_SCO {K : List yV → yM → Prop} {Y : yNx} {g : yM} {a w e t : Int} (hY : yCl zpD87 (zpZ, zpRS, zpP7, zpMT, [yC_SBJ], (4, 112), 1) K Y) (hr_a : -2147483648 ≤ a ∧ a ≤ 2147483647) (hr_e : -2147483648 ≤ e ∧ e ≤ 2147483647) (hr_t : -2147483648 ≤ t ∧ t ≤ 2147483647) (hp0 : yTy zpZ g) (hp1 : 0 ≤ a ∧ a < 20) (hp2 : 0 ≤ w ∧ w < g 1 1) (hK : ∀ (r : Int) (g' : yM), (r = ySa g a e t (Int.toNat w)) → (yTy zpZ g') → (yFq g g') → K [(1, r)] g') : Y 0 [(3, 6), (1, a), (141, w), (1, e), (1, t), (0, 0)] [] g := by
  refine yrun_ok (sp := fun pc => false) hY 27 0 _ [] g ?_
  show (((0 : Int) ≤ a ∧ a < ((20 : Nat) : Int)) ∧ (((g (50 + Int.toNat w) 5) ≠ (g 27 (Int.toNat a)) → (((0 : Int) ≤ a ∧ a < ((20 : Nat) : Int)) ∧ (((6 : Nat) : Int) = (7 : Int) - 2 + 1 ∧ ((g 30 (Int.toNat a)) < 2 ∨ 7 < (g 30 (Int.toNat a)) → (K [(1, 0)] g)) ∧ ((g 30 (Int.toNat a)) = 2 → (((g (50 + Int.toNat w) 6) ≠ (-1) → (K [(1, (yw (99 - (g (50 + Int.toNat w) 6))))] g)) ∧ (¬ ((g (50 + Int.toNat w) 6) ≠ (-1)) → (K [(1, 0)] g)))) ∧ ((g 30 (Int.toNat a)) = 2 + 1 → (K [(1, 0)] g)) ∧ ((g 30 (Int.toNat a)) = 2 + 1 + 1 → (((0 : Int) ≤ (g (50 + Int.toNat w) 4) ∧ (g (50 + Int.toNat w) 4) < ((6 : Nat) : Int)) ∧ (K [(1, (yw (99 - (g 13 (Int.toNat (g (50 + Int.toNat w) 4))))))] g))) ∧ ((g 30 (Int.toNat a)) = 2 + 1 + 1 + 1 → (K [(1, (g (50 + Int.toNat w) 1))] g)) ∧ ((g 30 (Int.toNat a)) = 2 + 1 + 1 + 1 + 1 → (((0 : Int) ≤ a ∧ a < ((20 : Nat) : Int)) ∧ (((yw (t - (g (50 + Int.toNat w) 1))) < (g 28 (Int.toNat a)) → (K [(1, 0)] g)) ∧ (¬ ((yw (t - (g (50 + Int.toNat w) 1))) < (g 28 (Int.toNat a))) → (K [(1, 2)] g))))) ∧ ((g 30 (Int.toNat a)) = 2 + 1 + 1 + 1 + 1 + 1 → (∃ (a5 w6 e7 t8 : Int), [(3, 6), (1, a), (141, w), (1, e), (1, t)] = [(3, 6), (1, a5), (141, w6), (1, e7), (1, t8)] ∧ (yTy zpZ g) ∧ (0 ≤ a5 ∧ a5 < 20) ∧ (0 ≤ w6 ∧ w6 < g 1 1) ∧ (∀ (r9 : Int) (g10 : yM), (r9 = yTxv g (yNc g a5 (Int.toNat w6) e7 t8)) → (yTy zpZ g10) → (yFq g g10) → (K [(1, r9)] g10)))) ∧ True))) ∧ (¬ ((g (50 + Int.toNat w) 5) ≠ (g 27 (Int.toNat a))) → (((0 : Int) ≤ a ∧ a < ((20 : Nat) : Int)) ∧ (((6 : Nat) : Int) = (7 : Int) - 2 + 1 ∧ ((g 30 (Int.toNat a)) < 2 ∨ 7 < (g 30 (Int.toNat a)) → (K [(1, 0)] g)) ∧ ((g 30 (Int.toNat a)) = 2 → (((g (50 + Int.toNat w) 6) ≠ (-1) → (K [(1, (yw (99 - (g (50 + Int.toNat w) 6))))] g)) ∧ (¬ ((g (50 + Int.toNat w) 6) ≠ (-1)) → (K [(1, 0)] g)))) ∧ ((g 30 (Int.toNat a)) = 2 + 1 → (K [(1, 1)] g)) ∧ ((g 30 (Int.toNat a)) = 2 + 1 + 1 → (((0 : Int) ≤ (g (50 + Int.toNat w) 4) ∧ (g (50 + Int.toNat w) 4) < ((6 : Nat) : Int)) ∧ (K [(1, (yw (99 - (g 13 (Int.toNat (g (50 + Int.toNat w) 4))))))] g))) ∧ ((g 30 (Int.toNat a)) = 2 + 1 + 1 + 1 → (K [(1, (g (50 + Int.toNat w) 1))] g)) ∧ ((g 30 (Int.toNat a)) = 2 + 1 + 1 + 1 + 1 → (((0 : Int) ≤ a ∧ a < ((20 : Nat) : Int)) ∧ (((yw (t - (g (50 + Int.toNat w) 1))) < (g 28 (Int.toNat a)) → (K [(1, 1)] g)) ∧ (¬ ((yw (t - (g (50 + Int.toNat w) 1))) < (g 28 (Int.toNat a))) → (K [(1, 2)] g))))) ∧ ((g 30 (Int.toNat a)) = 2 + 1 + 1 + 1 + 1 + 1 → (∃ (a15 w16 e17 t18 : Int), [(3, 6), (1, a), (141, w), (1, e), (1, t)] = [(3, 6), (1, a15), (141, w16), (1, e17), (1, t18)] ∧ (yTy zpZ g) ∧ (0 ≤ a15 ∧ a15 < 20) ∧ (0 ≤ w16 ∧ w16 < g 1 1) ∧ (∀ (r19 : Int) (g20 : yM), (r19 = yTxv g (yNc g a15 (Int.toNat w16) e17 t18)) → (yTy zpZ g20) → (yFq g g20) → (K [(1, r19)] g20)))) ∧ True)))))
  refine ⟨(by have z := hp0.sz; have z2 := hp0.fM (i := Int.toNat w) (by omega); omega), ?_⟩
  refine ⟨fun h1 => ?_, fun h1 => ?_⟩
  · refine ⟨(by have z := hp0.sz; have z2 := hp0.fM (i := Int.toNat w) (by omega); omega), ?_⟩
    refine ⟨by decide, fun h2 => ?_, fun h2 => ?_, fun h2 => ?_, fun h2 => ?_, fun h2 => ?_, fun h2 => ?_, fun h2 => ?_, trivial⟩
    · refine hK _ _ ?_ hp0 yFq.rf
      unfold ySa ySco
      repeat rw [if_neg (by omega)]
    · refine ⟨fun h3 => ?_, fun h3 => ?_⟩
      · refine hK _ _ ?_ hp0 yFq.rf
        have hk : g 30 (Int.toNat a) = 2 := by omega
        unfold ySa ySco
        rw [hk]
        rw [if_pos rfl]
        repeat' split
        all_goals first
          | omega
          | rfl
      · refine hK _ _ ?_ hp0 yFq.rf
        have hk : g 30 (Int.toNat a) = 2 := by omega
        unfold ySa ySco
        rw [hk]
        rw [if_pos rfl]
        repeat' split
        all_goals first
          | omega
          | rfl
    · refine hK _ _ ?_ hp0 yFq.rf
      have hk : g 30 (Int.toNat a) = 3 := by omega
      unfold ySa ySco
      rw [hk]
      rw [if_neg (by decide)]
      rw [if_pos rfl]
      repeat' split
      all_goals first
        | omega
        | rfl
    · refine ⟨(by have z := hp0.sz; have z2 := hp0.fM (i := Int.toNat w) (by omega); omega), ?_⟩
      refine hK _ _ ?_ hp0 yFq.rf
      have hk : g 30 (Int.toNat a) = 4 := by omega
      unfold ySa ySco
      rw [hk]
      rw [if_neg (by decide)]
      rw [if_neg (by decide)]
      rw [if_pos rfl]
      repeat' split
      all_goals first
        | omega
        | rfl
    · refine hK _ _ ?_ hp0 yFq.rf
      have hk : g 30 (Int.toNat a) = 5 := by omega
      unfold ySa ySco
      rw [hk]
      rw [if_neg (by decide)]
      rw [if_neg (by decide)]
      rw [if_neg (by decide)]
      rw [if_pos rfl]
    · refine ⟨(by have z := hp0.sz; have z2 := hp0.fM (i := Int.toNat w) (by omega); omega), ?_⟩
      refine ⟨fun h4 => ?_, fun h4 => ?_⟩
      · refine hK _ _ ?_ hp0 yFq.rf
        have hk : g 30 (Int.toNat a) = 6 := by omega
        unfold ySa ySco
        rw [hk]
        rw [if_neg (by decide)]
        rw [if_neg (by decide)]
        rw [if_neg (by decide)]
        rw [if_neg (by decide)]
        rw [if_pos rfl]
        repeat' split
        all_goals first
          | omega
          | rfl
      · refine hK _ _ ?_ hp0 yFq.rf
        have hk : g 30 (Int.toNat a) = 6 := by omega
        unfold ySa ySco
        rw [hk]
        rw [if_neg (by decide)]
        rw [if_neg (by decide)]
        rw [if_neg (by decide)]
        rw [if_neg (by decide)]
        rw [if_pos rfl]
        repeat' split
        all_goals first
          | omega
          | rfl
    · refine ⟨_, _, _, _, rfl, (hp0), (by have z := hp0.sz; have z2 := hp0.fM (i := Int.toNat w) (by omega); omega), (by have z := hp0.sz; have z2 := hp0.fM (i := Int.toNat w) (by omega); omega), ?_⟩
      intro r9 g10 p110 p111 p112
      refine hK _ _ ?_ p111 p112
      have hk : g 30 (Int.toNat a) = 7 := by omega
      unfold ySa ySco
      rw [hk]
      rw [if_neg (by decide)]
      rw [if_neg (by decide)]
      rw [if_neg (by decide)]
      rw [if_neg (by decide)]
      rw [if_neg (by decide)]
      rw [if_pos rfl]
      exact p110
  · refine ⟨(by have z := hp0.sz; have z2 := hp0.fM (i := Int.toNat w) (by omega); omega), ?_⟩
    refine ⟨by decide, fun h12 => ?_, fun h12 => ?_, fun h12 => ?_, fun h12 => ?_, fun h12 => ?_, fun h12 => ?_, fun h12 => ?_, trivial⟩
    · refine hK _ _ ?_ hp0 yFq.rf
      unfold ySa ySco
      repeat rw [if_neg (by omega)]
    · refine ⟨fun h13 => ?_, fun h13 => ?_⟩
      · refine hK _ _ ?_ hp0 yFq.rf
        have hk : g 30 (Int.toNat a) = 2 := by omega
        unfold ySa ySco
        rw [hk]
        rw [if_pos rfl]
        repeat' split
        all_goals first
          | omega
          | rfl
      · refine hK _ _ ?_ hp0 yFq.rf
        have hk : g 30 (Int.toNat a) = 2 := by omega
        unfold ySa ySco
        rw [hk]
        rw [if_pos rfl]
        repeat' split
        all_goals first
          | omega
          | rfl
    · refine hK _ _ ?_ hp0 yFq.rf
      have hk : g 30 (Int.toNat a) = 3 := by omega
      unfold ySa ySco
      rw [hk]
      rw [if_neg (by decide)]
      rw [if_pos rfl]
      repeat' split
      all_goals first
        | omega
        | rfl
    · refine ⟨(by have z := hp0.sz; have z2 := hp0.fM (i := Int.toNat w) (by omega); omega), ?_⟩
      refine hK _ _ ?_ hp0 yFq.rf
      have hk : g 30 (Int.toNat a) = 4 := by omega
      unfold ySa ySco
      rw [hk]
      rw [if_neg (by decide)]
      rw [if_neg (by decide)]
      rw [if_pos rfl]
      repeat' split
      all_goals first
        | omega
        | rfl
    · refine hK _ _ ?_ hp0 yFq.rf
      have hk : g 30 (Int.toNat a) = 5 := by omega
      unfold ySa ySco
      rw [hk]
      rw [if_neg (by decide)]
      rw [if_neg (by decide)]
      rw [if_neg (by decide)]
      rw [if_pos rfl]
    · refine ⟨(by have z := hp0.sz; have z2 := hp0.fM (i := Int.toNat w) (by omega); omega), ?_⟩
      refine ⟨fun h14 => ?_, fun h14 => ?_⟩
      · refine hK _ _ ?_ hp0 yFq.rf
        have hk : g 30 (Int.toNat a) = 6 := by omega
        unfold ySa ySco
        rw [hk]
        rw [if_neg (by decide)]
        rw [if_neg (by decide)]
        rw [if_neg (by decide)]
        rw [if_neg (by decide)]
        rw [if_pos rfl]
        repeat' split
        all_goals first
          | omega
          | rfl
      · refine hK _ _ ?_ hp0 yFq.rf
        have hk : g 30 (Int.toNat a) = 6 := by omega
        unfold ySa ySco
        rw [hk]
        rw [if_neg (by decide)]
        rw [if_neg (by decide)]
        rw [if_neg (by decide)]
        rw [if_neg (by decide)]
        rw [if_pos rfl]
        repeat' split
        all_goals first
          | omega
          | rfl
    · refine ⟨_, _, _, _, rfl, (hp0), (by have z := hp0.sz; have z2 := hp0.fM (i := Int.toNat w) (by omega); omega), (by have z := hp0.sz; have z2 := hp0.fM (i := Int.toNat w) (by omega); omega), ?_⟩
      intro r19 g20 p210 p211 p212
      refine hK _ _ ?_ p211 p212
      have hk : g 30 (Int.toNat a) = 7 := by omega
      unfold ySa ySco
      rw [hk]
      rw [if_neg (by decide)]
      rw [if_neg (by decide)]
      rw [if_neg (by decide)]
      rw [if_neg (by decide)]
      rw [if_neg (by decide)]
      rw [if_pos rfl]
      exact p210
theorem yM_SCO {l : Launch} {Ts : List Cond} {cl : List vw_C} {RO : zRO} (H : zHyp Ts cl RO) : yMet l Ts cl zpZ RO zpMT yC_SCO := ymet_of2 H.1 H.2.1 zpDj H.2.2.1 yRb H.p7 (ymets_cons (yM_SBJ H) ymets_nil) (zrc1 rfl) (plainFor_of_name zpy7) zpDk87 (fun as g K Y h hA hY => by
  obtain ⟨a, w, e, t, rfl, hp0, hp1, hp2, hK⟩ := h
  exact yv_SCO hY (yAr1 hA (by simp)) (yAr1 hA (by simp)) (yAr1 hA (by simp)) hp0 hp1 hp2 hK)
def yP_NXT : yPT := fun as g K => ∃ (a d e t : Int), as = [(3, 6), (1, a), (1, d), (1, e), (1, t)] ∧ (yTy zpZ g) ∧ (0 ≤ a ∧ a < 20) ∧ (∀ (r : Int) (g' : yM), (∃ s : Int, yNx1 g a d e t (Int.toNat (g 1 1)) r s) → (yTy zpZ g') → (yFq g g') → K [(1, r)] g')
def yC_NXT : yC := (84, (5, 137), yP_NXT)
set_option maxRecDepth 8000 in
theorem yl_NXT {K : List yV → yM → Prop} {Y : yNx} {g : yM} {a d e t : Int} (hY : yCl zpD84 (zpZ, zpRS, zpP7, zpMT, [yC_SVD, yC_SAT, yC_SCO], (5, 137), 1) K Y) (hG : yTy zpZ g) (ha : 0 ≤ a ∧ a < 20) (hK : ∀ (b s : Int) (m : yM), yNx1 g a d e t (Int.toNat (g 1 1)) b s → yTy zpZ m → yFq g m → K [(1, b)] m) : ∀ (n : Nat) (i : Int), i + n = g 1 1 → 0 ≤ i → ∀ (b s : Int) (m : yM) (w8 w9 : yV), yNx1 g a d e t (Int.toNat i) b s → yTy zpZ m → yFq g m → Y 10 [(3, 6), (1, a), (1, d), (1, e), (1, t), (1, b), (1, s), (1, i), w8, w9] [] m := by
  intro n
  induction n with
  | zero =>
    intro i hd h0 b s m w8 w9 hu hT f
    have hz := hG.sz
    have e11 : m 1 1 = g 1 1 := f 1 1 (by decide) (by decide) (by decide)
    have hb := yNp_b _ b s hu
    refine yrun_ok (sp := fun pc => Nat.beq pc 10) hY 61 10 _ [] m ?_
    show (((m 1 1) ≤ i → (K [(1, b)] m)) ∧ (¬ ((m 1 1) ≤ i) → (((0 : Int) ≤ i ∧ i < ((40 : Nat) : Int)) ∧ (((m (50 + Int.toNat i) 0) ≠ d → (Y 10 [(3, 6), (1, a), (1, d), (1, e), (1, t), (1, b), (1, s), (1, (yw (i + 1))), (141, i), w9] [] m)) ∧ (¬ ((m (50 + Int.toNat i) 0) ≠ d) → ((t < (m (50 + Int.toNat i) 1) → (Y 10 [(3, 6), (1, a), (1, d), (1, e), (1, t), (1, b), (1, s), (1, (yw (i + 1))), (141, i), w9] [] m)) ∧ (¬ (t < (m (50 + Int.toNat i) 1)) → (∃ (w4 : Int), [(141, i)] = [(141, w4)] ∧ (0 ≤ w4 ∧ w4 < 40) ∧ (∀ (r5 : Int), (r5 = ySv m (Int.toNat w4)) → ((r5 < t → (Y 10 [(3, 6), (1, a), (1, d), (1, e), (1, t), (1, b), (1, s), (1, (yw (i + 1))), (141, i), w9] [] m)) ∧ (¬ (r5 < t) → (∃ (w8 e9 : Int), [(3, 1), (141, i), (1, e)] = [(3, 1), (141, w8), (1, e9)] ∧ (0 ≤ w8 ∧ w8 < 40) ∧ (∀ (r10 : Int), ((r10 = 1 ∧ (m 1 10 = 0 ∨ m (50 + Int.toNat w8) 7 = e9)) ∨ (r10 = 0 ∧ ¬ (m 1 10 = 0 ∨ m (50 + Int.toNat w8) 7 = e9))) → ((r10 = 0 → (Y 10 [(3, 6), (1, a), (1, d), (1, e), (1, t), (1, b), (1, s), (1, (yw (i + 1))), (141, i), w9] [] m)) ∧ (¬ (r10 = 0) → (∃ (a13 w14 e15 t16 : Int), [(3, 6), (1, a), (141, i), (1, e), (1, t)] = [(3, 6), (1, a13), (141, w14), (1, e15), (1, t16)] ∧ (yTy zpZ m) ∧ (0 ≤ a13 ∧ a13 < 20) ∧ (0 ≤ w14 ∧ w14 < m 1 1) ∧ (∀ (r17 : Int) (g18 : yM), (r17 = ySa m a13 e15 t16 (Int.toNat w14)) → (yTy zpZ g18) → (yFq m g18) → ((b = (-2) → (Y 10 [(3, 6), (1, a), (1, d), (1, e), (1, t), (1, i), (1, r17), (1, (yw (i + 1))), (141, i), (1, r17)] [] g18)) ∧ (¬ (b = (-2)) → ((s < r17 → (Y 10 [(3, 6), (1, a), (1, d), (1, e), (1, t), (1, i), (1, r17), (1, (yw (i + 1))), (141, i), (1, r17)] [] g18)) ∧ (¬ (s < r17) → ((r17 ≠ s → (Y 10 [(3, 6), (1, a), (1, d), (1, e), (1, t), (1, b), (1, s), (1, (yw (i + 1))), (141, i), (1, r17)] [] g18)) ∧ (¬ (r17 ≠ s) → (((0 : Int) ≤ b ∧ b < ((40 : Nat) : Int)) ∧ (((g18 (50 + Int.toNat b) 1) ≤ (g18 (50 + Int.toNat i) 1) → (Y 10 [(3, 6), (1, a), (1, d), (1, e), (1, t), (1, b), (1, s), (1, (yw (i + 1))), (141, i), (1, r17)] [] g18)) ∧ (¬ ((g18 (50 + Int.toNat b) 1) ≤ (g18 (50 + Int.toNat i) 1)) → (Y 10 [(3, 6), (1, a), (1, d), (1, e), (1, t), (1, i), (1, r17), (1, (yw (i + 1))), (141, i), (1, r17)] [] g18)))))))))))))))))))))))))))
    refine ⟨fun h1 => ?_, fun h1 => ?_⟩
    · obtain rfl : i = g 1 1 := by omega
      exact hK b s m hu hT f
    · refine ⟨(by omega), ?_⟩
      refine ⟨fun h2 => ?_, fun h2 => ?_⟩
      · omega
      · refine ⟨fun h3 => ?_, fun h3 => ?_⟩
        · omega
        · refine ⟨_, rfl, (by omega), ?_⟩
          intro r5 p60
          refine ⟨fun h7 => ?_, fun h7 => ?_⟩
          · omega
          · refine ⟨_, _, rfl, (by omega), ?_⟩
            intro r10 p110
            refine ⟨fun h12 => ?_, fun h12 => ?_⟩
            · omega
            · refine ⟨_, _, _, _, rfl, (by omega), (by omega), (by omega), ?_⟩
              intro r17 g18 p190 p191 p192
              refine ⟨fun h20 => ?_, fun h20 => ?_⟩
              · omega
              · refine ⟨fun h21 => ?_, fun h21 => ?_⟩
                · omega
                · refine ⟨fun h22 => ?_, fun h22 => ?_⟩
                  · omega
                  · refine ⟨(by omega), ?_⟩
                    refine ⟨fun h23 => ?_, fun h23 => ?_⟩
                    · omega
                    · omega
  | succ n ih =>
    intro i hd h0 b s m w8 w9 hu hT f
    have hz := hG.sz
    have e11 : m 1 1 = g 1 1 := f 1 1 (by decide) (by decide) (by decide)
    have hb := yNp_b _ b s hu
    have c0 := f.c (Int.toNat i) 0
    have c1 := f.c (Int.toNat i) 1
    have c7 := f.c (Int.toNat i) 7
    have cb := f.c (Int.toNat b) 1
    have e110 : m 1 10 = g 1 10 := f 1 10 (by decide) (by decide) (by decide)
    refine yrun_ok (sp := fun pc => Nat.beq pc 10) hY 61 10 _ [] m ?_
    show (((m 1 1) ≤ i → (K [(1, b)] m)) ∧ (¬ ((m 1 1) ≤ i) → (((0 : Int) ≤ i ∧ i < ((40 : Nat) : Int)) ∧ (((m (50 + Int.toNat i) 0) ≠ d → (Y 10 [(3, 6), (1, a), (1, d), (1, e), (1, t), (1, b), (1, s), (1, (yw (i + 1))), (141, i), w9] [] m)) ∧ (¬ ((m (50 + Int.toNat i) 0) ≠ d) → ((t < (m (50 + Int.toNat i) 1) → (Y 10 [(3, 6), (1, a), (1, d), (1, e), (1, t), (1, b), (1, s), (1, (yw (i + 1))), (141, i), w9] [] m)) ∧ (¬ (t < (m (50 + Int.toNat i) 1)) → (∃ (w4 : Int), [(141, i)] = [(141, w4)] ∧ (0 ≤ w4 ∧ w4 < 40) ∧ (∀ (r5 : Int), (r5 = ySv m (Int.toNat w4)) → ((r5 < t → (Y 10 [(3, 6), (1, a), (1, d), (1, e), (1, t), (1, b), (1, s), (1, (yw (i + 1))), (141, i), w9] [] m)) ∧ (¬ (r5 < t) → (∃ (w8 e9 : Int), [(3, 1), (141, i), (1, e)] = [(3, 1), (141, w8), (1, e9)] ∧ (0 ≤ w8 ∧ w8 < 40) ∧ (∀ (r10 : Int), ((r10 = 1 ∧ (m 1 10 = 0 ∨ m (50 + Int.toNat w8) 7 = e9)) ∨ (r10 = 0 ∧ ¬ (m 1 10 = 0 ∨ m (50 + Int.toNat w8) 7 = e9))) → ((r10 = 0 → (Y 10 [(3, 6), (1, a), (1, d), (1, e), (1, t), (1, b), (1, s), (1, (yw (i + 1))), (141, i), w9] [] m)) ∧ (¬ (r10 = 0) → (∃ (a13 w14 e15 t16 : Int), [(3, 6), (1, a), (141, i), (1, e), (1, t)] = [(3, 6), (1, a13), (141, w14), (1, e15), (1, t16)] ∧ (yTy zpZ m) ∧ (0 ≤ a13 ∧ a13 < 20) ∧ (0 ≤ w14 ∧ w14 < m 1 1) ∧ (∀ (r17 : Int) (g18 : yM), (r17 = ySa m a13 e15 t16 (Int.toNat w14)) → (yTy zpZ g18) → (yFq m g18) → ((b = (-2) → (Y 10 [(3, 6), (1, a), (1, d), (1, e), (1, t), (1, i), (1, r17), (1, (yw (i + 1))), (141, i), (1, r17)] [] g18)) ∧ (¬ (b = (-2)) → ((s < r17 → (Y 10 [(3, 6), (1, a), (1, d), (1, e), (1, t), (1, i), (1, r17), (1, (yw (i + 1))), (141, i), (1, r17)] [] g18)) ∧ (¬ (s < r17) → ((r17 ≠ s → (Y 10 [(3, 6), (1, a), (1, d), (1, e), (1, t), (1, b), (1, s), (1, (yw (i + 1))), (141, i), (1, r17)] [] g18)) ∧ (¬ (r17 ≠ s) → (((0 : Int) ≤ b ∧ b < ((40 : Nat) : Int)) ∧ (((g18 (50 + Int.toNat b) 1) ≤ (g18 (50 + Int.toNat i) 1) → (Y 10 [(3, 6), (1, a), (1, d), (1, e), (1, t), (1, b), (1, s), (1, (yw (i + 1))), (141, i), (1, r17)] [] g18)) ∧ (¬ ((g18 (50 + Int.toNat b) 1) ≤ (g18 (50 + Int.toNat i) 1)) → (Y 10 [(3, 6), (1, a), (1, d), (1, e), (1, t), (1, i), (1, r17), (1, (yw (i + 1))), (141, i), (1, r17)] [] g18)))))))))))))))))))))))))))
    refine ⟨fun h1 => ?_, fun h1 => ?_⟩
    · omega
    · refine ⟨(by omega), ?_⟩
      refine ⟨fun h2 => ?_, fun h2 => ?_⟩
      · have yi : yw (i + 1) = i + 1 := yw_s (i + 1) (by omega) (by omega)
        rw [yi]
        refine ih (i + 1) (by omega) (by omega) b s m _ _ ?_ hT f
        rw [show Int.toNat (i + 1) = Int.toNat i + 1 by omega]
        exact yNp_0 hu (fun z => by obtain ⟨⟨z1, z2, z3, z4⟩, -⟩ := z; omega)
      · refine ⟨fun h3 => ?_, fun h3 => ?_⟩
        · have yi : yw (i + 1) = i + 1 := yw_s (i + 1) (by omega) (by omega)
          rw [yi]
          refine ih (i + 1) (by omega) (by omega) b s m _ _ ?_ hT f
          rw [show Int.toNat (i + 1) = Int.toNat i + 1 by omega]
          exact yNp_0 hu (fun z => by obtain ⟨⟨z1, z2, z3, z4⟩, -⟩ := z; omega)
        · refine ⟨_, rfl, (by omega), ?_⟩
          intro r5 p60
          refine ⟨fun h7 => ?_, fun h7 => ?_⟩
          · rw [ySv_fq f] at p60
            have yi : yw (i + 1) = i + 1 := yw_s (i + 1) (by omega) (by omega)
            rw [yi]
            refine ih (i + 1) (by omega) (by omega) b s m _ _ ?_ hT f
            rw [show Int.toNat (i + 1) = Int.toNat i + 1 by omega]
            exact yNp_0 hu (fun z => by obtain ⟨⟨z1, z2, z3, z4⟩, -⟩ := z; omega)
          · refine ⟨_, _, rfl, (by omega), ?_⟩
            intro r10 p110
            refine ⟨fun h12 => ?_, fun h12 => ?_⟩
            · rw [ySv_fq f] at p60
              have yi : yw (i + 1) = i + 1 := yw_s (i + 1) (by omega) (by omega)
              rw [yi]
              refine ih (i + 1) (by omega) (by omega) b s m _ _ ?_ hT f
              rw [show Int.toNat (i + 1) = Int.toNat i + 1 by omega]
              exact yNp_0 hu (fun z => by obtain ⟨⟨z1, z2, z3, z4⟩, -⟩ := z; rcases p110 with ⟨q1, q2⟩ | ⟨q1, q2⟩ <;> omega)
            · refine ⟨_, _, _, _, rfl, (hT), (by omega), (by omega), ?_⟩
              intro r17 g18 p190 p191 p192
              refine ⟨fun h20 => ?_, fun h20 => ?_⟩
              · rw [ySv_fq f] at p60
                have ff := f.tr p192
                have d1 := ff.c (Int.toNat i) 1
                have db := ff.c (Int.toNat b) 1
                rw [ySa_fr hG f] at p190
                have el : yEl g d e t (Int.toNat i) := by
                  refine ⟨by omega, by omega, by omega, ?_⟩
                  rcases p110 with ⟨q1, q2⟩ | ⟨q1, q2⟩
                  · rw [e110, c7] at q2
                    exact q2
                  · omega
                have yi : yw (i + 1) = i + 1 := yw_s (i + 1) (by omega) (by omega)
                rw [yi]
                refine ih (i + 1) (by omega) (by omega) i r17 g18 _ _ ?_ p191 ff
                rw [show Int.toNat (i + 1) = Int.toNat i + 1 by omega]
                exact yNp_1 hu el p190.symm (by omega) (by omega)
              · refine ⟨fun h21 => ?_, fun h21 => ?_⟩
                · rw [ySv_fq f] at p60
                  have ff := f.tr p192
                  have d1 := ff.c (Int.toNat i) 1
                  have db := ff.c (Int.toNat b) 1
                  rw [ySa_fr hG f] at p190
                  have el : yEl g d e t (Int.toNat i) := by
                    refine ⟨by omega, by omega, by omega, ?_⟩
                    rcases p110 with ⟨q1, q2⟩ | ⟨q1, q2⟩
                    · rw [e110, c7] at q2
                      exact q2
                    · omega
                  have yi : yw (i + 1) = i + 1 := yw_s (i + 1) (by omega) (by omega)
                  rw [yi]
                  refine ih (i + 1) (by omega) (by omega) i r17 g18 _ _ ?_ p191 ff
                  rw [show Int.toNat (i + 1) = Int.toNat i + 1 by omega]
                  exact yNp_1 hu el p190.symm (by omega) (by omega)
                · refine ⟨fun h22 => ?_, fun h22 => ?_⟩
                  · rw [ySv_fq f] at p60
                    have ff := f.tr p192
                    have d1 := ff.c (Int.toNat i) 1
                    have db := ff.c (Int.toNat b) 1
                    rw [ySa_fr hG f] at p190
                    have el : yEl g d e t (Int.toNat i) := by
                      refine ⟨by omega, by omega, by omega, ?_⟩
                      rcases p110 with ⟨q1, q2⟩ | ⟨q1, q2⟩
                      · rw [e110, c7] at q2
                        exact q2
                      · omega
                    have yi : yw (i + 1) = i + 1 := yw_s (i + 1) (by omega) (by omega)
                    rw [yi]
                    refine ih (i + 1) (by omega) (by omega) b s g18 _ _ ?_ p191 ff
                    rw [show Int.toNat (i + 1) = Int.toNat i + 1 by omega]
                    refine yNp_0 hu (fun z => ?_)
                    have z2 := z.2
                    rw [← p190] at z2
                    have z2 : b < 0 ∨ s < r17 ∨ (r17 = s ∧ g (50 + Int.toNat i) 1 < g (50 + Int.toNat b) 1) := z2
                    omega
                  · refine ⟨(by
      have ff := f.tr p192
      have d1 := ff.c (Int.toNat i) 1
      have db := ff.c (Int.toNat b) 1
      omega), ?_⟩
                    refine ⟨fun h23 => ?_, fun h23 => ?_⟩
                    · rw [ySv_fq f] at p60
                      have ff := f.tr p192
                      have d1 := ff.c (Int.toNat i) 1
                      have db := ff.c (Int.toNat b) 1
                      rw [ySa_fr hG f] at p190
                      have el : yEl g d e t (Int.toNat i) := by
                        refine ⟨by omega, by omega, by omega, ?_⟩
                        rcases p110 with ⟨q1, q2⟩ | ⟨q1, q2⟩
                        · rw [e110, c7] at q2
                          exact q2
                        · omega
                      have yi : yw (i + 1) = i + 1 := yw_s (i + 1) (by omega) (by omega)
                      rw [yi]
                      refine ih (i + 1) (by omega) (by omega) b s g18 _ _ ?_ p191 ff
                      rw [show Int.toNat (i + 1) = Int.toNat i + 1 by omega]
                      refine yNp_0 hu (fun z => ?_)
                      have z2 := z.2
                      rw [← p190] at z2
                      have z2 : b < 0 ∨ s < r17 ∨ (r17 = s ∧ g (50 + Int.toNat i) 1 < g (50 + Int.toNat b) 1) := z2
                      omega
                    · rw [ySv_fq f] at p60
                      have ff := f.tr p192
                      have d1 := ff.c (Int.toNat i) 1
                      have db := ff.c (Int.toNat b) 1
                      rw [ySa_fr hG f] at p190
                      have el : yEl g d e t (Int.toNat i) := by
                        refine ⟨by omega, by omega, by omega, ?_⟩
                        rcases p110 with ⟨q1, q2⟩ | ⟨q1, q2⟩
                        · rw [e110, c7] at q2
                          exact q2
                        · omega
                      have yi : yw (i + 1) = i + 1 := yw_s (i + 1) (by omega) (by omega)
                      rw [yi]
                      refine ih (i + 1) (by omega) (by omega) i r17 g18 _ _ ?_ p191 ff
                      rw [show Int.toNat (i + 1) = Int.toNat i + 1 by omega]
                      exact yNp_1 hu el p190.symm (by omega) (by omega)
set_option maxRecDepth 8000 in
theorem yv_NXT {K : List yV → yM → Prop} {Y : yNx} {g : yM} {a d e t : Int} (hY : yCl zpD84 (zpZ, zpRS, zpP7, zpMT, [yC_SVD, yC_SAT, yC_SCO], (5, 137), 1) K Y) (hr_a : -2147483648 ≤ a ∧ a ≤ 2147483647) (hr_d : -2147483648 ≤ d ∧ d ≤ 2147483647) (hr_e : -2147483648 ≤ e ∧ e ≤ 2147483647) (hr_t : -2147483648 ≤ t ∧ t ≤ 2147483647) (hp0 : yTy zpZ g) (hp1 : 0 ≤ a ∧ a < 20) (hK : ∀ (r : Int) (g' : yM), (∃ s : Int, yNx1 g a d e t (Int.toNat (g 1 1)) r s) → (yTy zpZ g') → (yFq g g') → K [(1, r)] g') : Y 0 [(3, 6), (1, a), (1, d), (1, e), (1, t), (0, 0), (0, 0), (0, 0), (0, 0), (0, 0)] [] g := by
  refine yrun_ok (sp := fun pc => Nat.beq pc 10) hY 7 0 _ [] g ?_
  show (Y 10 [(3, 6), (1, a), (1, d), (1, e), (1, t), (1, (-2)), (1, 0), (1, 0), (0, 0), (0, 0)] [] g)
  exact yl_NXT hY hp0 hp1 (fun b s m h1 h2 h3 => hK b m ⟨s, h1⟩ h2 h3) (Int.toNat (g 1 1)) 0 (by have := hp0.sz; omega) (by decide) (-2) 0 g _ _ ⟨rfl, rfl⟩ hp0 yFq.rf
theorem yM_NXT {l : Launch} {Ts : List Cond} {cl : List vw_C} {RO : zRO} (H : zHyp Ts cl RO) : yMet l Ts cl zpZ RO zpMT yC_NXT := ymet_of2 H.1 H.2.1 zpDj H.2.2.1 yRb H.p7 (ymets_cons (yM_SVD H) (ymets_cons (yM_SAT H) (ymets_cons (yM_SCO H) ymets_nil))) (zrc1 rfl) (plainFor_of_name zpy7) zpDk84 (fun as g K Y h hA hY => by
  obtain ⟨a, d, e, t, rfl, hp0, hp1, hK⟩ := h
  exact yv_NXT hY (yAr1 hA (by simp)) (yAr1 hA (by simp)) (yAr1 hA (by simp)) (yAr1 hA (by simp)) hp0 hp1 hK)
def yP_ISB : yPT := fun as g K => ∃ (a w : Int), as = [(3, 6), (1, a), (1, w)] ∧ (yTy zpZ g) ∧ (0 ≤ a ∧ a < 20) ∧ (0 ≤ w ∧ w < g 1 1) ∧ (∀ (r : Int) (g' : yM), ((r = 1 ∧ yBr g a (Int.toNat w)) ∨ (r = 0 ∧ ¬ yBr g a (Int.toNat w))) → (yTy zpZ g') → (yFq g g') → K [(1, r)] g')
def yC_ISB : yC := (83, (6, 166), yP_ISB)
set_option maxRecDepth 8000 in
theorem yv_ISB {K : List yV → yM → Prop} {Y : yNx} {g : yM} {a w : Int} (hY : yCl zpD83 (zpZ, zpRS, zpP7, zpMT, [yC_HST, yC_SVD, yC_NXT], (6, 166), 2) K Y) (hr_a : -2147483648 ≤ a ∧ a ≤ 2147483647) (hr_w : -2147483648 ≤ w ∧ w ≤ 2147483647) (hp0 : yTy zpZ g) (hp1 : 0 ≤ a ∧ a < 20) (hp2 : 0 ≤ w ∧ w < g 1 1) (hK : ∀ (r : Int) (g' : yM), ((r = 1 ∧ yBr g a (Int.toNat w)) ∨ (r = 0 ∧ ¬ yBr g a (Int.toNat w))) → (yTy zpZ g') → (yFq g g') → K [(1, r)] g') : Y 0 [(3, 6), (1, a), (1, w), (0, 0)] [] g := by
  refine yrun_ok (sp := fun pc => false) hY 23 0 _ [] g ?_
  show (((0 : Int) ≤ w ∧ w < ((40 : Nat) : Int)) ∧ (∃ (w1 : Int), [(141, w)] = [(141, w1)] ∧ (0 ≤ w1 ∧ w1 < 40) ∧ (∀ (r2 : Int), ((r2 = 1 ∧ g (50 + Int.toNat w1) 10 ≠ -2) ∨ (r2 = 0 ∧ g (50 + Int.toNat w1) 10 = -2)) → ((r2 = 0 → (((0 : Int) ≤ 0 ∧ 0 ≤ (1 : Int)) ∧ (K [(1, 0)] g))) ∧ (¬ (r2 = 0) → (∃ (w5 : Int), [(141, w)] = [(141, w5)] ∧ (0 ≤ w5 ∧ w5 < 40) ∧ (∀ (r6 : Int), (r6 = ySv g (Int.toNat w5)) → (∃ (a8 d9 e10 t11 : Int), [(3, 6), (1, a), (1, (g (50 + Int.toNat w) 0)), (1, (g (50 + Int.toNat w) 3)), (1, r6)] = [(3, 6), (1, a8), (1, d9), (1, e10), (1, t11)] ∧ (yTy zpZ g) ∧ (0 ≤ a8 ∧ a8 < 20) ∧ (∀ (r12 : Int) (g13 : yM), (∃ s : Int, yNx1 g a8 d9 e10 t11 (Int.toNat (g 1 1)) r12 s) → (yTy zpZ g13) → (yFq g g13) → ((r12 = w → (((0 : Int) ≤ 0 ∧ 0 ≤ (1 : Int)) ∧ (K [(1, 0)] g13))) ∧ (¬ (r12 = w) → (((0 : Int) ≤ 1 ∧ 1 ≤ (1 : Int)) ∧ (K [(1, 1)] g13)))))))))))))
  refine ⟨(by have z := hp0.sz; omega), ?_⟩
  refine ⟨_, rfl, (by have z := hp0.sz; omega), ?_⟩
  intro r2 p30
  refine ⟨fun h4 => ?_, fun h4 => ?_⟩
  · refine ⟨(by have z := hp0.sz; omega), ?_⟩
    refine hK _ _ (Or.inr ⟨rfl, fun z => ?_⟩) hp0 yFq.rf
    have z1 := z.1
    omega
  · refine ⟨_, rfl, (by have z := hp0.sz; omega), ?_⟩
    intro r6 p70
    refine ⟨_, _, _, _, rfl, (hp0), (by have z := hp0.sz; omega), ?_⟩
    intro r12 g13 p140 p141 p142
    refine ⟨fun h15 => ?_, fun h15 => ?_⟩
    · refine ⟨(by have z := hp0.sz; omega), ?_⟩
      obtain ⟨s_, q0⟩ := p140
      rw [p70] at q0
      have q1 := yBr_of q0 (by omega)
      refine hK _ _ (Or.inr ⟨rfl, fun z => q1.mp z (by omega)⟩) p141 p142
    · refine ⟨(by have z := hp0.sz; omega), ?_⟩
      obtain ⟨s_, q0⟩ := p140
      rw [p70] at q0
      have q1 := yBr_of q0 (by omega)
      refine hK _ _ (Or.inl ⟨rfl, q1.mpr (by omega)⟩) p141 p142
theorem yM_ISB {l : Launch} {Ts : List Cond} {cl : List vw_C} {RO : zRO} (H : zHyp Ts cl RO) : yMet l Ts cl zpZ RO zpMT yC_ISB := ymet_of2 H.1 H.2.1 zpDj H.2.2.1 yRb H.p7 (ymets_cons (yM_HST H) (ymets_cons (yM_SVD H) (ymets_cons (yM_NXT H) ymets_nil))) (zrc2 rfl) (plainFor_of_name zpy7) zpDk83 (fun as g K Y h hA hY => by
  obtain ⟨a, w, rfl, hp0, hp1, hp2, hK⟩ := h
  exact yv_ISB hY (yAr1 hA (by simp)) (yAr1 hA (by simp)) hp0 hp1 hp2 hK)
/-- counted as long as the k-th is not met -/
def yTh (P : Nat → Prop) (k : Int) : Nat → Int → Prop
  | 0, u => u = 0
  | n + 1, u => ∃ v : Int, yTh P k n v ∧ ((P n ∧ v ≠ k ∧ u = yw (v + 1)) ∨ (¬ P n ∧ u = v))
def yThr (P : Nat → Prop) (k : Int) (N : Nat) (r : Int) : Prop := (∃ i : Nat, i < N ∧ yTh P k i k ∧ P i ∧ r = i) ∨ (∃ u : Int, yTh P k N u ∧ r = -1)
theorem yTh_1 {P : Nat → Prop} {k u : Int} {n : Nat} (h : yTh P k n u) (hP : P n) (hk : u ≠ k) : yTh P k (n + 1) (yw (u + 1)) := ⟨u, h, Or.inl ⟨hP, hk, rfl⟩⟩
theorem yTh_0 {P : Nat → Prop} {k u : Int} {n : Nat} (h : yTh P k n u) (hP : ¬ P n) : yTh P k (n + 1) u := ⟨u, h, Or.inr ⟨hP, rfl⟩⟩
theorem yTh_u {P Q : Nat → Prop} {k : Int} : ∀ (n : Nat) (u v : Int), (∀ i : Nat, i < n → (P i ↔ Q i)) → yTh P k n u → yTh Q k n v → u = v
  | 0, u, v, _, h1, h2 => by
    have h1 : u = 0 := h1
    have h2 : v = 0 := h2
    rw [h1, h2]
  | n + 1, u, v, hP, h1, h2 => by
    obtain ⟨x, a1, a2⟩ := h1
    obtain ⟨y, b1, b2⟩ := h2
    have e := yTh_u n x y (fun i hi => hP i (by omega)) a1 b1
    rw [e] at a2
    have hp := hP n (by omega)
    rcases a2 with ⟨c1, c2, c3⟩ | ⟨c1, c2⟩
    · rcases b2 with ⟨d1, d2, d3⟩ | ⟨d1, d2⟩
      · rw [c3, d3]
      · exact absurd (hp.mp c1) d1
    · rcases b2 with ⟨d1, d2, d3⟩ | ⟨d1, d2⟩
      · exact absurd (hp.mpr d1) c1
      · rw [c2, d2]
theorem yTh_at {P : Nat → Prop} {k : Int} : ∀ (n : Nat) (u : Int), yTh P k n u → ∀ i : Nat, i < n → ∃ v : Int, yTh P k i v ∧ (P i → v ≠ k)
  | 0, _, _, i, hi => absurd hi (Nat.not_lt_zero i)
  | n + 1, u, h, i, hi => by
    obtain ⟨v, a1, a2⟩ := h
    by_cases e : i = n
    · subst e
      refine ⟨v, a1, fun hp => ?_⟩
      rcases a2 with ⟨-, c2, -⟩ | ⟨c1, -⟩
      · exact c2
      · exact absurd hp c1
    · exact yTh_at n v a1 i (by omega)
theorem yTh_iff {P Q : Nat → Prop} {k : Int} : ∀ (n : Nat) (u : Int), (∀ i : Nat, i < n → (P i ↔ Q i)) → yTh P k n u → yTh Q k n u
  | 0, _, _, h => h
  | n + 1, u, hP, h => by
    obtain ⟨v, a1, a2⟩ := h
    refine ⟨v, yTh_iff n v (fun i hi => hP i (by omega)) a1, ?_⟩
    have hp := hP n (by omega)
    rcases a2 with ⟨c1, c2, c3⟩ | ⟨c1, c2⟩
    · exact Or.inl ⟨hp.mp c1, c2, c3⟩
    · exact Or.inr ⟨fun z => c1 (hp.mpr z), c2⟩
theorem yTh_su {P : Nat → Prop} {k : Int} : ∀ (n : Nat) (u : Int), yTh P k n u → ySu P (fun _ => 1) 0 n u
  | 0, _, h => h
  | n + 1, u, h => by
    obtain ⟨v, a1, a2⟩ := h
    refine ⟨v, yTh_su n v a1, ?_⟩
    rcases a2 with ⟨c1, -, c3⟩ | ⟨c1, c2⟩
    · exact Or.inl ⟨c1, c3⟩
    · exact Or.inr ⟨c1, c2⟩
theorem yThr_u {P Q : Nat → Prop} {k : Int} {N : Nat} {r s : Int} (hP : ∀ i : Nat, i < N → (P i ↔ Q i)) (h1 : yThr P k N r) (h2 : yThr Q k N s) : r = s := by
  rcases h1 with ⟨i, i1, i2, i3, i4⟩ | ⟨u, u1, u2⟩
  · rcases h2 with ⟨j, j1, j2, j3, j4⟩ | ⟨v, v1, v2⟩
    · rcases Nat.lt_trichotomy i j with h | h | h
      · obtain ⟨x, x1, x2⟩ := yTh_at j k j2 i h
        have e := yTh_u i k x (fun n hn => hP n (by omega)) i2 x1
        exact absurd e.symm (x2 ((hP i i1).mp i3))
      · rw [i4, j4, h]
      · obtain ⟨x, x1, x2⟩ := yTh_at i k i2 j h
        have e := yTh_u j x k (fun n hn => hP n (by omega)) x1 j2
        exact absurd e (x2 ((hP j j1).mpr j3))
    · obtain ⟨x, x1, x2⟩ := yTh_at N v v1 i i1
      have e := yTh_u i k x (fun n hn => hP n (by omega)) i2 x1
      exact absurd e.symm (x2 ((hP i i1).mp i3))
  · rcases h2 with ⟨j, j1, j2, j3, j4⟩ | ⟨v, v1, v2⟩
    · obtain ⟨x, x1, x2⟩ := yTh_at N u u1 j j1
      have e := yTh_u j x k (fun n hn => hP n (by omega)) x1 j2
      exact absurd e (x2 ((hP j j1).mpr j3))
    · rw [u2, v2]
def yP_BKO : yPT := fun as g K => ∃ (a d : Int), as = [(3, 6), (1, a), (1, d)] ∧ (yTy zpZ g) ∧ (0 ≤ a ∧ a < 20) ∧ (∀ (r : Int) (g' : yM), (ySu (fun i => g (50 + i) 0 = d ∧ yBr g a i) (fun _ => 1) 0 (Int.toNat (g 1 1)) r) → (yTy zpZ g') → (yFq g g') → K [(1, r)] g')
def yC_BKO : yC := (80, (7, 189), yP_BKO)
set_option maxRecDepth 8000 in
theorem yl_BKO {K : List yV → yM → Prop} {Y : yNx} {g : yM} {a d : Int} (hY : yCl zpD80 (zpZ, zpRS, zpP7, zpMT, [yC_ISB], (7, 189), 1) K Y) (hG : yTy zpZ g) (ha : 0 ≤ a ∧ a < 20) (hK : ∀ (u : Int) (m : yM), ySu (fun i => g (50 + i) 0 = d ∧ yBr g a i) (fun _ => 1) 0 (Int.toNat (g 1 1)) u → yTy zpZ m → yFq g m → K [(1, u)] m) : ∀ (n : Nat) (i : Int), i + n = g 1 1 → 0 ≤ i → ∀ (u : Int) (m : yM), ySu (fun i => g (50 + i) 0 = d ∧ yBr g a i) (fun _ => 1) 0 (Int.toNat i) u → yTy zpZ m → yFq g m → Y 5 [(3, 6), (1, a), (1, d), (1, u), (1, i)] [] m := by
  intro n
  induction n with
  | zero =>
    intro i hd h0 u m hu hT f
    have hz := hG.sz
    have e11 : m 1 1 = g 1 1 := f 1 1 (by decide) (by decide) (by decide)
    refine yrun_ok (sp := fun pc => Nat.beq pc 5) hY 22 5 _ [] m ?_
    show (((m 1 1) ≤ i → (K [(1, u)] m)) ∧ (¬ ((m 1 1) ≤ i) → (((0 : Int) ≤ i ∧ i < ((40 : Nat) : Int)) ∧ (((m (50 + Int.toNat i) 0) ≠ d → (Y 5 [(3, 6), (1, a), (1, d), (1, u), (1, (yw (i + 1)))] [] m)) ∧ (¬ ((m (50 + Int.toNat i) 0) ≠ d) → (∃ (a3 w4 : Int), [(3, 6), (1, a), (1, i)] = [(3, 6), (1, a3), (1, w4)] ∧ (yTy zpZ m) ∧ (0 ≤ a3 ∧ a3 < 20) ∧ (0 ≤ w4 ∧ w4 < m 1 1) ∧ (∀ (r5 : Int) (g6 : yM), ((r5 = 1 ∧ yBr m a3 (Int.toNat w4)) ∨ (r5 = 0 ∧ ¬ yBr m a3 (Int.toNat w4))) → (yTy zpZ g6) → (yFq m g6) → ((r5 = 0 → (Y 5 [(3, 6), (1, a), (1, d), (1, u), (1, (yw (i + 1)))] [] g6)) ∧ (¬ (r5 = 0) → (Y 5 [(3, 6), (1, a), (1, d), (1, (yw (u + 1))), (1, (yw (i + 1)))] [] g6))))))))))
    refine ⟨fun h1 => ?_, fun h1 => ?_⟩
    · obtain rfl : i = g 1 1 := by omega
      exact hK u m hu hT f
    · refine ⟨(by omega), ?_⟩
      refine ⟨fun h2 => ?_, fun h2 => ?_⟩
      · omega
      · refine ⟨_, _, rfl, (by omega), (by omega), (by omega), ?_⟩
        intro r5 g6 p70 p71 p72
        refine ⟨fun h8 => ?_, fun h8 => ?_⟩
        · omega
        · omega
  | succ n ih =>
    intro i hd h0 u m hu hT f
    have hz := hG.sz
    have e11 : m 1 1 = g 1 1 := f 1 1 (by decide) (by decide) (by decide)
    have c0 := f.c (Int.toNat i) 0
    refine yrun_ok (sp := fun pc => Nat.beq pc 5) hY 22 5 _ [] m ?_
    show (((m 1 1) ≤ i → (K [(1, u)] m)) ∧ (¬ ((m 1 1) ≤ i) → (((0 : Int) ≤ i ∧ i < ((40 : Nat) : Int)) ∧ (((m (50 + Int.toNat i) 0) ≠ d → (Y 5 [(3, 6), (1, a), (1, d), (1, u), (1, (yw (i + 1)))] [] m)) ∧ (¬ ((m (50 + Int.toNat i) 0) ≠ d) → (∃ (a3 w4 : Int), [(3, 6), (1, a), (1, i)] = [(3, 6), (1, a3), (1, w4)] ∧ (yTy zpZ m) ∧ (0 ≤ a3 ∧ a3 < 20) ∧ (0 ≤ w4 ∧ w4 < m 1 1) ∧ (∀ (r5 : Int) (g6 : yM), ((r5 = 1 ∧ yBr m a3 (Int.toNat w4)) ∨ (r5 = 0 ∧ ¬ yBr m a3 (Int.toNat w4))) → (yTy zpZ g6) → (yFq m g6) → ((r5 = 0 → (Y 5 [(3, 6), (1, a), (1, d), (1, u), (1, (yw (i + 1)))] [] g6)) ∧ (¬ (r5 = 0) → (Y 5 [(3, 6), (1, a), (1, d), (1, (yw (u + 1))), (1, (yw (i + 1)))] [] g6))))))))))
    refine ⟨fun h1 => ?_, fun h1 => ?_⟩
    · omega
    · refine ⟨(by omega), ?_⟩
      refine ⟨fun h2 => ?_, fun h2 => ?_⟩
      · have yi : yw (i + 1) = i + 1 := yw_s (i + 1) (by omega) (by omega)
        rw [yi]
        refine ih (i + 1) (by omega) (by omega) u m ?_ hT f
        rw [show Int.toNat (i + 1) = Int.toNat i + 1 by omega]
        exact ySu_0 hu (fun z => by have z1 := z.1; omega)
      · refine ⟨_, _, rfl, (hT), (by omega), (by omega), ?_⟩
        intro r5 g6 p70 p71 p72
        refine ⟨fun h8 => ?_, fun h8 => ?_⟩
        · have yi : yw (i + 1) = i + 1 := yw_s (i + 1) (by omega) (by omega)
          have al := yBr_fr hG f a (Int.toNat i)
          rcases p70 with ⟨q1, q2⟩ | ⟨q1, q2⟩
          · omega
          · rw [yi]
            refine ih (i + 1) (by omega) (by omega) _ g6 ?_ p71 (f.tr p72)
            rw [show Int.toNat (i + 1) = Int.toNat i + 1 by omega]
            exact ySu_0 hu (fun z => q2 (al.mpr z.2))
        · have yi : yw (i + 1) = i + 1 := yw_s (i + 1) (by omega) (by omega)
          have al := yBr_fr hG f a (Int.toNat i)
          rcases p70 with ⟨q1, q2⟩ | ⟨q1, q2⟩
          · rw [yi]
            refine ih (i + 1) (by omega) (by omega) _ g6 ?_ p71 (f.tr p72)
            rw [show Int.toNat (i + 1) = Int.toNat i + 1 by omega]
            exact ySu_1 hu (⟨by omega, al.mp q2⟩) rfl
          · omega
set_option maxRecDepth 8000 in
theorem yv_BKO {K : List yV → yM → Prop} {Y : yNx} {g : yM} {a d : Int} (hY : yCl zpD80 (zpZ, zpRS, zpP7, zpMT, [yC_ISB], (7, 189), 1) K Y) (hr_a : -2147483648 ≤ a ∧ a ≤ 2147483647) (hr_d : -2147483648 ≤ d ∧ d ≤ 2147483647) (hp0 : yTy zpZ g) (hp1 : 0 ≤ a ∧ a < 20) (hK : ∀ (r : Int) (g' : yM), (ySu (fun i => g (50 + i) 0 = d ∧ yBr g a i) (fun _ => 1) 0 (Int.toNat (g 1 1)) r) → (yTy zpZ g') → (yFq g g') → K [(1, r)] g') : Y 0 [(3, 6), (1, a), (1, d), (0, 0), (0, 0)] [] g := by
  refine yrun_ok (sp := fun pc => Nat.beq pc 5) hY 5 0 _ [] g ?_
  show (Y 5 [(3, 6), (1, a), (1, d), (1, 0), (1, 0)] [] g)
  exact yl_BKO hY hp0 hp1 (fun u m h1 h2 h3 => hK u m h1 h2 h3) (Int.toNat (g 1 1)) 0 (by have := hp0.sz; omega) (by decide) 0 g rfl hp0 yFq.rf
theorem yM_BKO {l : Launch} {Ts : List Cond} {cl : List vw_C} {RO : zRO} (H : zHyp Ts cl RO) : yMet l Ts cl zpZ RO zpMT yC_BKO := ymet_of2 H.1 H.2.1 zpDj H.2.2.1 yRb H.p7 (ymets_cons (yM_ISB H) ymets_nil) (zrc1 rfl) (plainFor_of_name zpy7) zpDk80 (fun as g K Y h hA hY => by
  obtain ⟨a, d, rfl, hp0, hp1, hK⟩ := h
  exact yv_BKO hY (yAr1 hA (by simp)) (yAr1 hA (by simp)) hp0 hp1 hK)
def yP_BKN : yPT := fun as g K => ∃ (a d k : Int), as = [(3, 6), (1, a), (1, d), (1, k)] ∧ (yTy zpZ g) ∧ (0 ≤ a ∧ a < 20) ∧ (∀ (r : Int) (g' : yM), (yThr (fun i => g (50 + i) 0 = d ∧ yBr g a i) k (Int.toNat (g 1 1)) r) → (yTy zpZ g') → (yFq g g') → K [(1, r)] g')
def yC_BKN : yC := (79, (7, 189), yP_BKN)
set_option maxRecDepth 8000 in
theorem yl_BKN {K : List yV → yM → Prop} {Y : yNx} {g : yM} {a d k : Int} (hY : yCl zpD79 (zpZ, zpRS, zpP7, zpMT, [yC_ISB], (7, 189), 1) K Y) (hG : yTy zpZ g) (ha : 0 ≤ a ∧ a < 20) (hK : ∀ (r : Int) (m : yM), yThr (fun i => g (50 + i) 0 = d ∧ yBr g a i) k (Int.toNat (g 1 1)) r → yTy zpZ m → yFq g m → K [(1, r)] m) : ∀ (n : Nat) (i : Int), i + n = g 1 1 → 0 ≤ i → ∀ (u : Int) (m : yM), yTh (fun i => g (50 + i) 0 = d ∧ yBr g a i) k (Int.toNat i) u → yTy zpZ m → yFq g m → Y 6 [(3, 6), (1, a), (1, d), (1, k), (1, u), (1, i)] [] m := by
  intro n
  induction n with
  | zero =>
    intro i hd h0 u m hu hT f
    have hz := hG.sz
    have e11 : m 1 1 = g 1 1 := f 1 1 (by decide) (by decide) (by decide)
    refine yrun_ok (sp := fun pc => Nat.beq pc 6) hY 25 6 _ [] m ?_
    show (((m 1 1) ≤ i → (K [(1, (-1))] m)) ∧ (¬ ((m 1 1) ≤ i) → (((0 : Int) ≤ i ∧ i < ((40 : Nat) : Int)) ∧ (((m (50 + Int.toNat i) 0) ≠ d → (Y 6 [(3, 6), (1, a), (1, d), (1, k), (1, u), (1, (yw (i + 1)))] [] m)) ∧ (¬ ((m (50 + Int.toNat i) 0) ≠ d) → (∃ (a3 w4 : Int), [(3, 6), (1, a), (1, i)] = [(3, 6), (1, a3), (1, w4)] ∧ (yTy zpZ m) ∧ (0 ≤ a3 ∧ a3 < 20) ∧ (0 ≤ w4 ∧ w4 < m 1 1) ∧ (∀ (r5 : Int) (g6 : yM), ((r5 = 1 ∧ yBr m a3 (Int.toNat w4)) ∨ (r5 = 0 ∧ ¬ yBr m a3 (Int.toNat w4))) → (yTy zpZ g6) → (yFq m g6) → ((r5 = 0 → (Y 6 [(3, 6), (1, a), (1, d), (1, k), (1, u), (1, (yw (i + 1)))] [] g6)) ∧ (¬ (r5 = 0) → ((u ≠ k → (Y 6 [(3, 6), (1, a), (1, d), (1, k), (1, (yw (u + 1))), (1, (yw (i + 1)))] [] g6)) ∧ (¬ (u ≠ k) → (K [(1, i)] g6))))))))))))
    refine ⟨fun h1 => ?_, fun h1 => ?_⟩
    · obtain rfl : i = g 1 1 := by omega
      exact hK _ m (Or.inr ⟨u, hu, rfl⟩) hT f
    · refine ⟨(by omega), ?_⟩
      refine ⟨fun h2 => ?_, fun h2 => ?_⟩
      · omega
      · refine ⟨_, _, rfl, (by omega), (by omega), (by omega), ?_⟩
        intro r5 g6 p70 p71 p72
        refine ⟨fun h8 => ?_, fun h8 => ?_⟩
        · omega
        · refine ⟨fun h9 => ?_, fun h9 => ?_⟩
          · omega
          · omega
  | succ n ih =>
    intro i hd h0 u m hu hT f
    have hz := hG.sz
    have e11 : m 1 1 = g 1 1 := f 1 1 (by decide) (by decide) (by decide)
    have c0 := f.c (Int.toNat i) 0
    refine yrun_ok (sp := fun pc => Nat.beq pc 6) hY 25 6 _ [] m ?_
    show (((m 1 1) ≤ i → (K [(1, (-1))] m)) ∧ (¬ ((m 1 1) ≤ i) → (((0 : Int) ≤ i ∧ i < ((40 : Nat) : Int)) ∧ (((m (50 + Int.toNat i) 0) ≠ d → (Y 6 [(3, 6), (1, a), (1, d), (1, k), (1, u), (1, (yw (i + 1)))] [] m)) ∧ (¬ ((m (50 + Int.toNat i) 0) ≠ d) → (∃ (a3 w4 : Int), [(3, 6), (1, a), (1, i)] = [(3, 6), (1, a3), (1, w4)] ∧ (yTy zpZ m) ∧ (0 ≤ a3 ∧ a3 < 20) ∧ (0 ≤ w4 ∧ w4 < m 1 1) ∧ (∀ (r5 : Int) (g6 : yM), ((r5 = 1 ∧ yBr m a3 (Int.toNat w4)) ∨ (r5 = 0 ∧ ¬ yBr m a3 (Int.toNat w4))) → (yTy zpZ g6) → (yFq m g6) → ((r5 = 0 → (Y 6 [(3, 6), (1, a), (1, d), (1, k), (1, u), (1, (yw (i + 1)))] [] g6)) ∧ (¬ (r5 = 0) → ((u ≠ k → (Y 6 [(3, 6), (1, a), (1, d), (1, k), (1, (yw (u + 1))), (1, (yw (i + 1)))] [] g6)) ∧ (¬ (u ≠ k) → (K [(1, i)] g6))))))))))))
    refine ⟨fun h1 => ?_, fun h1 => ?_⟩
    · omega
    · refine ⟨(by omega), ?_⟩
      refine ⟨fun h2 => ?_, fun h2 => ?_⟩
      · have yi : yw (i + 1) = i + 1 := yw_s (i + 1) (by omega) (by omega)
        rw [yi]
        refine ih (i + 1) (by omega) (by omega) u m ?_ hT f
        rw [show Int.toNat (i + 1) = Int.toNat i + 1 by omega]
        exact yTh_0 hu (fun z => by have z1 := z.1; omega)
      · refine ⟨_, _, rfl, (hT), (by omega), (by omega), ?_⟩
        intro r5 g6 p70 p71 p72
        refine ⟨fun h8 => ?_, fun h8 => ?_⟩
        · have yi : yw (i + 1) = i + 1 := yw_s (i + 1) (by omega) (by omega)
          have al := yBr_fr hG f a (Int.toNat i)
          rcases p70 with ⟨q1, q2⟩ | ⟨q1, q2⟩
          · omega
          · rw [yi]
            refine ih (i + 1) (by omega) (by omega) _ g6 ?_ p71 (f.tr p72)
            rw [show Int.toNat (i + 1) = Int.toNat i + 1 by omega]
            exact yTh_0 hu (fun z => q2 (al.mpr z.2))
        · refine ⟨fun h9 => ?_, fun h9 => ?_⟩
          · have yi : yw (i + 1) = i + 1 := yw_s (i + 1) (by omega) (by omega)
            have al := yBr_fr hG f a (Int.toNat i)
            rcases p70 with ⟨q1, q2⟩ | ⟨q1, q2⟩
            · rw [yi]
              refine ih (i + 1) (by omega) (by omega) _ g6 ?_ p71 (f.tr p72)
              rw [show Int.toNat (i + 1) = Int.toNat i + 1 by omega]
              exact yTh_1 hu ⟨by omega, al.mp q2⟩ (by omega)
            · omega
          · have al := yBr_fr hG f a (Int.toNat i)
            rcases p70 with ⟨q1, q2⟩ | ⟨q1, q2⟩
            · refine hK i g6 (Or.inl ⟨Int.toNat i, by omega, ?_, ⟨by omega, al.mp q2⟩, by omega⟩) p71 (f.tr p72)
              have ek : u = k := by omega
              rw [ek] at hu
              exact hu
            · omega
set_option maxRecDepth 8000 in
theorem yv_BKN {K : List yV → yM → Prop} {Y : yNx} {g : yM} {a d k : Int} (hY : yCl zpD79 (zpZ, zpRS, zpP7, zpMT, [yC_ISB], (7, 189), 1) K Y) (hr_a : -2147483648 ≤ a ∧ a ≤ 2147483647) (hr_d : -2147483648 ≤ d ∧ d ≤ 2147483647) (hr_k : -2147483648 ≤ k ∧ k ≤ 2147483647) (hp0 : yTy zpZ g) (hp1 : 0 ≤ a ∧ a < 20) (hK : ∀ (r : Int) (g' : yM), (yThr (fun i => g (50 + i) 0 = d ∧ yBr g a i) k (Int.toNat (g 1 1)) r) → (yTy zpZ g') → (yFq g g') → K [(1, r)] g') : Y 0 [(3, 6), (1, a), (1, d), (1, k), (0, 0), (0, 0)] [] g := by
  refine yrun_ok (sp := fun pc => Nat.beq pc 6) hY 5 0 _ [] g ?_
  show (Y 6 [(3, 6), (1, a), (1, d), (1, k), (1, 0), (1, 0)] [] g)
  exact yl_BKN hY hp0 hp1 (fun r m h1 h2 h3 => hK r m h1 h2 h3) (Int.toNat (g 1 1)) 0 (by have := hp0.sz; omega) (by decide) 0 g rfl hp0 yFq.rf
theorem yM_BKN {l : Launch} {Ts : List Cond} {cl : List vw_C} {RO : zRO} (H : zHyp Ts cl RO) : yMet l Ts cl zpZ RO zpMT yC_BKN := ymet_of2 H.1 H.2.1 zpDj H.2.2.1 yRb H.p7 (ymets_cons (yM_ISB H) ymets_nil) (zrc1 rfl) (plainFor_of_name zpy7) zpDk79 (fun as g K Y h hA hY => by
  obtain ⟨a, d, k, rfl, hp0, hp1, hK⟩ := h
  exact yv_BKN hY (yAr1 hA (by simp)) (yAr1 hA (by simp)) (yAr1 hA (by simp)) hp0 hp1 hK)
def yP_CSO : yPT := fun as g K => ∃ (a : Int), as = [(3, 6), (1, a)] ∧ (yTy zpZ g) ∧ (0 ≤ a ∧ a < 20) ∧ (∀ (r : Int) (g' : yM), (∃ u : Int, ySu (yBr g a) (fun _ => 1) 0 (Int.toNat (g 1 1)) u ∧ r = yw (yw (10 * u) + g 29 (Int.toNat a))) → (yTy zpZ g') → (yFq g g') → K [(1, r)] g')
def yC_CSO : yC := (81, (7, 189), yP_CSO)
set_option maxRecDepth 8000 in
theorem yl_CSO {K : List yV → yM → Prop} {Y : yNx} {g : yM} {a : Int} (hY : yCl zpD81 (zpZ, zpRS, zpP7, zpMT, [yC_ISB], (7, 189), 1) K Y) (hG : yTy zpZ g) (ha : 0 ≤ a ∧ a < 20) (hK : ∀ (r : Int) (m : yM), (∃ u : Int, ySu (yBr g a) (fun _ => 1) 0 (Int.toNat (g 1 1)) u ∧ r = yw (yw (10 * u) + g 29 (Int.toNat a))) → yTy zpZ m → yFq g m → K [(1, r)] m) : ∀ (n : Nat) (i : Int), i + n = g 1 1 → 0 ≤ i → ∀ (u : Int) (m : yM), ySu (yBr g a) (fun _ => 1) 0 (Int.toNat i) u → yTy zpZ m → yFq g m → Y 4 [(3, 6), (1, a), (1, u), (1, i)] [] m := by
  intro n
  induction n with
  | zero =>
    intro i hd h0 u m hu hT f
    have hz := hG.sz
    have e11 : m 1 1 = g 1 1 := f 1 1 (by decide) (by decide) (by decide)
    refine yrun_ok (sp := fun pc => Nat.beq pc 4) hY 14 4 _ [] m ?_
    show (((m 1 1) ≤ i → (((0 : Int) ≤ a ∧ a < ((20 : Nat) : Int)) ∧ (K [(1, (yw ((yw (10 * u)) + (m 29 (Int.toNat a)))))] m))) ∧ (¬ ((m 1 1) ≤ i) → (∃ (a2 w3 : Int), [(3, 6), (1, a), (1, i)] = [(3, 6), (1, a2), (1, w3)] ∧ (yTy zpZ m) ∧ (0 ≤ a2 ∧ a2 < 20) ∧ (0 ≤ w3 ∧ w3 < m 1 1) ∧ (∀ (r4 : Int) (g5 : yM), ((r4 = 1 ∧ yBr m a2 (Int.toNat w3)) ∨ (r4 = 0 ∧ ¬ yBr m a2 (Int.toNat w3))) → (yTy zpZ g5) → (yFq m g5) → ((r4 = 0 → (Y 4 [(3, 6), (1, a), (1, u), (1, (yw (i + 1)))] [] g5)) ∧ (¬ (r4 = 0) → (Y 4 [(3, 6), (1, a), (1, (yw (u + 1))), (1, (yw (i + 1)))] [] g5)))))))
    refine ⟨fun h1 => ?_, fun h1 => ?_⟩
    · refine ⟨(by omega), ?_⟩
      obtain rfl : i = g 1 1 := by omega
      refine hK _ m ⟨u, hu, ?_⟩ hT f
      rw [f 29 _ (by decide) (by decide) (by decide)]
    · refine ⟨_, _, rfl, (by omega), (by omega), (by omega), ?_⟩
      intro r4 g5 p60 p61 p62
      refine ⟨fun h7 => ?_, fun h7 => ?_⟩
      · omega
      · omega
  | succ n ih =>
    intro i hd h0 u m hu hT f
    have hz := hG.sz
    have e11 : m 1 1 = g 1 1 := f 1 1 (by decide) (by decide) (by decide)
    have c0 := f.c (Int.toNat i) 0
    refine yrun_ok (sp := fun pc => Nat.beq pc 4) hY 14 4 _ [] m ?_
    show (((m 1 1) ≤ i → (((0 : Int) ≤ a ∧ a < ((20 : Nat) : Int)) ∧ (K [(1, (yw ((yw (10 * u)) + (m 29 (Int.toNat a)))))] m))) ∧ (¬ ((m 1 1) ≤ i) → (∃ (a2 w3 : Int), [(3, 6), (1, a), (1, i)] = [(3, 6), (1, a2), (1, w3)] ∧ (yTy zpZ m) ∧ (0 ≤ a2 ∧ a2 < 20) ∧ (0 ≤ w3 ∧ w3 < m 1 1) ∧ (∀ (r4 : Int) (g5 : yM), ((r4 = 1 ∧ yBr m a2 (Int.toNat w3)) ∨ (r4 = 0 ∧ ¬ yBr m a2 (Int.toNat w3))) → (yTy zpZ g5) → (yFq m g5) → ((r4 = 0 → (Y 4 [(3, 6), (1, a), (1, u), (1, (yw (i + 1)))] [] g5)) ∧ (¬ (r4 = 0) → (Y 4 [(3, 6), (1, a), (1, (yw (u + 1))), (1, (yw (i + 1)))] [] g5)))))))
    refine ⟨fun h1 => ?_, fun h1 => ?_⟩
    · refine ⟨(by omega), ?_⟩
      omega
    · refine ⟨_, _, rfl, (hT), (by omega), (by omega), ?_⟩
      intro r4 g5 p60 p61 p62
      refine ⟨fun h7 => ?_, fun h7 => ?_⟩
      · have yi : yw (i + 1) = i + 1 := yw_s (i + 1) (by omega) (by omega)
        have al := yBr_fr hG f a (Int.toNat i)
        rcases p60 with ⟨q1, q2⟩ | ⟨q1, q2⟩
        · omega
        · rw [yi]
          refine ih (i + 1) (by omega) (by omega) _ g5 ?_ p61 (f.tr p62)
          rw [show Int.toNat (i + 1) = Int.toNat i + 1 by omega]
          exact ySu_0 hu (fun z => q2 (al.mpr z))
      · have yi : yw (i + 1) = i + 1 := yw_s (i + 1) (by omega) (by omega)
        have al := yBr_fr hG f a (Int.toNat i)
        rcases p60 with ⟨q1, q2⟩ | ⟨q1, q2⟩
        · rw [yi]
          refine ih (i + 1) (by omega) (by omega) _ g5 ?_ p61 (f.tr p62)
          rw [show Int.toNat (i + 1) = Int.toNat i + 1 by omega]
          exact ySu_1 hu (al.mp q2) rfl
        · omega
set_option maxRecDepth 8000 in
theorem yv_CSO {K : List yV → yM → Prop} {Y : yNx} {g : yM} {a : Int} (hY : yCl zpD81 (zpZ, zpRS, zpP7, zpMT, [yC_ISB], (7, 189), 1) K Y) (hr_a : -2147483648 ≤ a ∧ a ≤ 2147483647) (hp0 : yTy zpZ g) (hp1 : 0 ≤ a ∧ a < 20) (hK : ∀ (r : Int) (g' : yM), (∃ u : Int, ySu (yBr g a) (fun _ => 1) 0 (Int.toNat (g 1 1)) u ∧ r = yw (yw (10 * u) + g 29 (Int.toNat a))) → (yTy zpZ g') → (yFq g g') → K [(1, r)] g') : Y 0 [(3, 6), (1, a), (0, 0), (0, 0)] [] g := by
  refine yrun_ok (sp := fun pc => Nat.beq pc 4) hY 5 0 _ [] g ?_
  show (Y 4 [(3, 6), (1, a), (1, 0), (1, 0)] [] g)
  exact yl_CSO hY hp0 hp1 (fun r m h1 h2 h3 => hK r m h1 h2 h3) (Int.toNat (g 1 1)) 0 (by have := hp0.sz; omega) (by decide) 0 g rfl hp0 yFq.rf
theorem yM_CSO {l : Launch} {Ts : List Cond} {cl : List vw_C} {RO : zRO} (H : zHyp Ts cl RO) : yMet l Ts cl zpZ RO zpMT yC_CSO := ymet_of2 H.1 H.2.1 zpDj H.2.2.1 yRb H.p7 (ymets_cons (yM_ISB H) ymets_nil) (zrc1 rfl) (plainFor_of_name zpy7) zpDk81 (fun as g K Y h hA hY => by
  obtain ⟨a, rfl, hp0, hp1, hK⟩ := h
  exact yv_CSO hY (yAr1 hA (by simp)) hp0 hp1 hK)
