/-! RULES ASKED: THE REFERENCE -/
/-- what asking by rules changes, the reference -/
def yGq (g m : yM) : Prop := ∀ a b : Nat, a ≠ 100 → ¬ (a = 90 ∧ 16 ≤ b ∧ b ≤ 20) → m a b = g a b
theorem yGq.rf {g : yM} : yGq g g := fun _ _ _ _ => rfl
theorem yGq.tr {g m k : yM} (h1 : yGq g m) (h2 : yGq m k) : yGq g k := fun a b c1 c2 => (h2 a b c1 c2).trans (h1 a b c1 c2)
theorem yGq.w {g m : yM} {j : Nat} {v : Int} (h : yGq g m) : yGq g (yset m 100 j v) := fun a b c1 c2 => (yset_nc c1).trans (h a b c1 c2)
theorem yGq.a {g m : yM} (h : yGq g m) (a b : Nat) (ha : 91 ≤ a ∧ a ≤ 99 ∨ 101 ≤ a) : m a b = g a b := h a b (by omega) (by omega)
theorem yXw.gq {g m : yM} (h : yXw g m) : yGq g m := fun a b _ c2 => h a b c2
/-- the text told, by its signs; what it is worth -/
def yTn (g : yM) (p : Int) : Int := if 0 ≤ p ∧ p < g 90 15 then g 99 (Int.toNat p) else 0
def yTrv (g : yM) (N : Nat → Int) : Int := if g 90 15 < 0 then 0 else yTv (yTn g) N 60 0
def yTxm (g : yM) : Prop := g 90 15 < 0 ∨ (g 90 15 ≤ 60 ∧ yTxF (yTn g) (g 90 15) = -1)
theorem yTn_of {g m : yM} (h1 : m 90 15 = g 90 15) (h2 : ∀ j : Nat, m 99 j = g 99 j) : yTn m = yTn g := funext fun p => by
  unfold yTn
  rw [h1, h2]
theorem yTn_eq {g m : yM} (f : yGq g m) : yTq (yWo m 0 (m 90 15)) = yTn g := funext fun p => by
  have e15 : m 90 15 = g 90 15 := f 90 15 (by decide) (by omega)
  have e18 : (yWo m 0 (m 90 15)) 90 18 = m 90 15 := by unfold yWo; rw [yset_nj (by decide), yset_nj (by decide), yset_eq]
  have e16 : (yWo m 0 (m 90 15)) 90 16 = 0 := by unfold yWo; rw [yset_nj (by decide), yset_nj (by decide), yset_nj (by decide), yset_nj (by decide), yset_eq]
  have e99 : ∀ j : Nat, (yWo m 0 (m 90 15)) 99 j = m 99 j := fun j => by unfold yWo; rw [yset_nc (by decide), yset_nc (by decide), yset_nc (by decide), yset_nc (by decide), yset_nc (by decide)]
  unfold yTq yTn
  rw [e18, e16, e99, if_neg (show ¬ (0 : Int) < 0 by decide), e15, f 99 _ (by decide) (by omega)]
theorem yTxm_of {g m : yM} (h : yTxm g) (h1 : m 90 15 = g 90 15) (h2 : ∀ j : Nat, m 99 j = g 99 j) : yTxm m := by
  unfold yTxm
  rw [yTn_of h1 h2, h1]
  exact h
def yCmr (g : yM) : Prop := ∀ n : Nat, (n : Int) < g 90 22 → (0 ≤ g 104 n ∧ g 104 n ≤ 5) ∧ -1 ≤ g 106 n
theorem yCmr_of {g m : yM} (h : yCmr g) (h1 : m 90 22 = g 90 22) (h2 : ∀ n : Nat, m 104 n = g 104 n ∧ m 106 n = g 106 n) : yCmr m := fun n hn => by
  rw [h1] at hn
  rw [(h2 n).1, (h2 n).2]
  exact h n hn
theorem yGq.cmr {g m : yM} (f : yGq g m) (h : yCmr g) : yCmr m := yCmr_of h (f 90 22 (by decide) (by omega)) (fun n => ⟨f 104 n (by decide) (by omega), f 106 n (by decide) (by omega)⟩)
theorem yGq.txm {g m : yM} (f : yGq g m) (h : yTxm g) : yTxm m := yTxm_of h (f 90 15 (by decide) (by omega)) (fun j => f 99 j (by decide) (by omega))
theorem yFd.cmr {g m : yM} (f : yFd g m) (h : yCmr g) : yCmr m := yCmr_of h (f.2.1 90 22 (by decide) (by decide)) (fun n => ⟨f.2.1 104 n (by decide) (by decide), f.2.1 106 n (by decide) (by decide)⟩)
theorem yFd.txm {g m : yM} (f : yFd g m) (h : yTxm g) : yTxm m := yTxm_of h (f.2.1 90 15 (by decide) (by decide)) (fun j => f.2.1 99 j (by decide) (by decide))
def yNm2 (g : yM) (a : Int) (c : Nat) (e t : Int) : Nat → Int := yNf (yw (t - g 91 c)) (g 105 c) (g 104 c) (g 91 (Int.toNat (40 + g 104 c))) (if g 106 c < 0 then 0 else g 106 c) (if g 107 c = e then 1 else 0) (g 115 (Int.toNat a)) (g 116 (Int.toNat a))
def ySmm (g : yM) (a e t : Int) (c : Nat) : Int := ySco (g 114 (Int.toNat a)) (g 105 c) (g 115 (Int.toNat a)) (g 106 c) (g 91 (Int.toNat (40 + g 104 c))) (g 91 c) t (g 116 (Int.toNat a)) (yTrv g (yNm2 g a c e t))
theorem yNm2_fr {g m : yM} (f : yGq g m) (a : Int) (c : Nat) (e t : Int) : yNm2 m a c e t = yNm2 g a c e t := by
  unfold yNm2
  rw [f.a 91 c (by omega), f.a 105 c (by omega), f.a 104 c (by omega), f.a 106 c (by omega), f.a 107 c (by omega), f.a 91 _ (by omega), f.a 115 _ (by omega), f.a 116 _ (by omega)]
theorem yTrv_fr {g m : yM} (f : yGq g m) (N : Nat → Int) : yTrv m N = yTrv g N := by
  unfold yTrv
  rw [f 90 15 (by decide) (by omega), yTn_of (f 90 15 (by decide) (by omega)) (fun j => f 99 j (by decide) (by omega))]
theorem ySmm_fr {g m : yM} (f : yGq g m) (a e t : Int) (c : Nat) : ySmm m a e t c = ySmm g a e t c := by
  unfold ySmm
  rw [yNm2_fr f, yTrv_fr f, f.a 91 c (by omega), f.a 105 c (by omega), f.a 104 c (by omega), f.a 106 c (by omega), f.a 91 _ (by omega), f.a 114 _ (by omega), f.a 115 _ (by omega), f.a 116 _ (by omega)]
def yEm (g : yM) (d e t : Int) (c : Nat) : Prop := g 101 c = d ∧ (g 90 11 = 1 → g 107 c = e) ∧ g 91 c ≤ t ∧ t ≤ g 111 c
theorem yEm_fr {g m : yM} (f : yGq g m) (d e t : Int) : yEm m d e t = yEm g d e t := funext fun c => by
  unfold yEm
  rw [f.a 101 c (by omega), f 90 11 (by decide) (by omega), f.a 107 c (by omega), f.a 91 c (by omega), f.a 111 c (by omega)]
def yNy1 (g : yM) (a d e t : Int) (n : Nat) (b s : Int) : Prop := yNp (yEm g d e t) (ySmm g a e t) (fun c => g 91 c) n b s
theorem yNy1_fr {g m : yM} (f : yGq g m) {a d e t : Int} {n : Nat} {b s : Int} : yNy1 m a d e t n b s ↔ yNy1 g a d e t n b s := by
  unfold yNy1
  rw [yEm_fr f, show ySmm m a e t = ySmm g a e t from funext fun c => ySmm_fr f a e t c, show (fun c : Nat => m 91 c) = (fun c => g 91 c) from funext fun c => f.a 91 c (by omega)]
def yBm (g : yM) (a : Int) (c : Nat) : Prop := 0 ≤ g 110 c ∧ ∀ b s : Int, yNy1 g a (g 101 c) (g 103 c) (g 111 c) (Int.toNat (g 90 22)) b s → b ≠ c
theorem yBm_fr {g m : yM} (f : yGq g m) (a : Int) (c : Nat) : yBm m a c ↔ yBm g a c := by
  unfold yBm
  rw [f.a 110 c (by omega), f.a 101 c (by omega), f.a 103 c (by omega), f.a 111 c (by omega), f 90 22 (by decide) (by omega)]
  exact ⟨fun z => ⟨z.1, fun b s h => z.2 b s ((yNy1_fr f).mpr h)⟩, fun z => ⟨z.1, fun b s h => z.2 b s ((yNy1_fr f).mp h)⟩⟩
theorem yBm_of {g : yM} {a : Int} {c : Nat} {b s : Int} (h : yNy1 g a (g 101 c) (g 103 c) (g 111 c) (Int.toNat (g 90 22)) b s) (h1 : 0 ≤ g 110 c) : yBm g a c ↔ b ≠ c := by
  refine ⟨fun z => z.2 b s h, fun z => ⟨h1, fun b' s' h' => ?_⟩⟩
  have e := yNp_u _ _ _ _ _ (fun _ _ => Iff.rfl) (fun _ _ _ => rfl) (fun _ _ => rfl) h h'
  rw [← e.1]
  exact z
def yP_TSC : yPT := fun as g K => ∃ (a c e t : Int), as = [(3, 90), (1, a), (1, c), (1, e), (1, t)] ∧ (yTy zpZ g) ∧ (0 ≤ a ∧ a < 20) ∧ (0 ≤ c ∧ c < g 90 22) ∧ (0 ≤ g 90 22 ∧ g 90 22 ≤ 40) ∧ (yCmr g) ∧ (yTxm g) ∧ (∀ (r : Int) (g' : yM), (r = yTrv g (yNm2 g a (Int.toNat c) e t)) → (yTy zpZ g') → (yGq g g') → K [(1, r)] g')
def yC_TSC : yC := (205, (69, 2284), yP_TSC)
set_option maxRecDepth 8000 in
theorem yp140_TSC {K : List yV → yM → Prop} {Y : yNx} {g m : yM} {a c e t : Int} (hY : yCl zpD205 (zpZ, zpRS, zpP12, zpMT, [yC_WOf], (69, 2284), 1) K Y) (hG : yTy zpZ g) (hT : yTy zpZ m) (f : yGq g m) (ha : 0 ≤ a ∧ a < 20) (hc : 0 ≤ c ∧ c < g 90 22) (hz : 0 ≤ g 90 22 ∧ g 90 22 ≤ 40) (hm : yCmr g) (hx : yTxm g) (h15 : 0 ≤ g 90 15) (hK : ∀ (r : Int) (g' : yM), (r = yTrv g (yNm2 g a (Int.toNat c) e t)) → (yTy zpZ g') → (yGq g g') → K [(1, r)] g') (n0 : m 100 0 = yw (t - g 91 (Int.toNat c))) (n1 : m 100 1 = g 105 (Int.toNat c)) (n2 : m 100 2 = g 104 (Int.toNat c)) (n3 : m 100 3 = g 91 (Int.toNat (40 + g 104 (Int.toNat c)))) (n4 : m 100 4 = if g 106 (Int.toNat c) < 0 then 0 else g 106 (Int.toNat c)) (n5 : m 100 5 = if g 107 (Int.toNat c) = e then 1 else 0) (n6 : m 100 6 = g 115 (Int.toNat a)) (n7 : m 100 7 = g 116 (Int.toNat a)) : Y 140 [(3, 90), (1, a), (1, c), (1, e), (1, t)] [] m := by
  have hmc := hm (Int.toNat c) (by omega)
  have f104 := f.a 104 (Int.toNat c) (by omega)
  refine yrun_ok (sp := fun pc => false) hY 6 140 _ [] m ?_
  show (∃ (b1 n2 : Int), [(3, 90), (1, 0), (1, (m 90 15))] = [(3, 90), (1, b1), (1, n2)] ∧ (yTy zpZ m) ∧ (b1 = -1 ∨ b1 = 0) ∧ (0 ≤ n2 ∧ n2 ≤ 60) ∧ (∀ (r3 : Int) (g4 : yM), (yTy zpZ g4) → (yXw m g4) → (g4 90 19 = yTxF (yTq (yWo m b1 n2)) n2) → (g4 90 19 = -1 → r3 = yTv (yTq (yWo m b1 n2)) (yN8 (m 100)) 60 0) → (K [(1, r3)] g4)))
  refine ⟨_, _, rfl, (hT), (by have e15 := f 90 15 (by decide) (by omega); unfold yTxm at hx; omega), (by have e15 := f 90 15 (by decide) (by omega); unfold yTxm at hx; omega), ?_⟩
  intro r3 g4 p50 p51 p52 p53
  have e15 : m 90 15 = g 90 15 := f 90 15 (by decide) (by omega)
  have r2 := p52
  have r3 := p53
  rw [yTn_eq f, e15] at r2
  rw [yTn_eq f] at r3
  have hx2 := hx.resolve_left (by omega)
  refine hK _ _ ?_ p50 (f.tr p51.gq)
  rw [r3 (r2.trans hx2.2), yN8_8 n0 n1 n2 n3 n4 n5 n6 n7]
  have eT : yTrv g (yNm2 g a (Int.toNat c) e t) = yTv (yTn g) (yNm2 g a (Int.toNat c) e t) 60 0 := if_neg (by omega)
  rw [eT]
  rfl
set_option maxRecDepth 8000 in
theorem yp127_TSC {K : List yV → yM → Prop} {Y : yNx} {g m : yM} {a c e t : Int} (hY : yCl zpD205 (zpZ, zpRS, zpP12, zpMT, [yC_WOf], (69, 2284), 1) K Y) (hG : yTy zpZ g) (hT : yTy zpZ m) (f : yGq g m) (ha : 0 ≤ a ∧ a < 20) (hc : 0 ≤ c ∧ c < g 90 22) (hz : 0 ≤ g 90 22 ∧ g 90 22 ≤ 40) (hm : yCmr g) (hx : yTxm g) (h15 : 0 ≤ g 90 15) (hK : ∀ (r : Int) (g' : yM), (r = yTrv g (yNm2 g a (Int.toNat c) e t)) → (yTy zpZ g') → (yGq g g') → K [(1, r)] g') (n0 : m 100 0 = yw (t - g 91 (Int.toNat c))) (n1 : m 100 1 = g 105 (Int.toNat c)) (n2 : m 100 2 = g 104 (Int.toNat c)) (n3 : m 100 3 = g 91 (Int.toNat (40 + g 104 (Int.toNat c)))) (n4 : m 100 4 = if g 106 (Int.toNat c) < 0 then 0 else g 106 (Int.toNat c)) (n5 : m 100 5 = if g 107 (Int.toNat c) = e then 1 else 0) (n6 : m 100 6 = g 115 (Int.toNat a)) : Y 127 [(3, 90), (1, a), (1, c), (1, e), (1, t)] [] m := by
  have hmc := hm (Int.toNat c) (by omega)
  have f104 := f.a 104 (Int.toNat c) (by omega)
  refine yrun_ok (sp := fun pc => Nat.beq pc 140) hY 9 127 _ [] m ?_
  show (((0 : Int) ≤ a ∧ a < ((20 : Nat) : Int)) ∧ (((0 : Int) ≤ 7 ∧ 7 < ((8 : Nat) : Int)) ∧ (Y 140 [(3, 90), (1, a), (1, c), (1, e), (1, t)] [] (yset m 100 7 (m 116 (Int.toNat a))))))
  refine ⟨(by have := yw_s (40 + m 104 (Int.toNat c)); omega), ?_⟩
  refine ⟨(by have := yw_s (40 + m 104 (Int.toNat c)); omega), ?_⟩
  have ev : (m 116 (Int.toNat a)) = g 116 (Int.toNat a) := by
    exact f.a 116 _ (by omega)
  rw [ev]
  exact yp140_TSC hY hG (hT.sA (List.mem_of_getElem? (i := 52) rfl) (by decide +kernel) (hG.fA (List.mem_of_getElem? (i := 68) rfl) (by omega))) f.w ha hc hz hm hx h15 hK ((yset_nj (by decide)).trans n0) ((yset_nj (by decide)).trans n1) ((yset_nj (by decide)).trans n2) ((yset_nj (by decide)).trans n3) ((yset_nj (by decide)).trans n4) ((yset_nj (by decide)).trans n5) ((yset_nj (by decide)).trans n6) (yset_eq)
set_option maxRecDepth 8000 in
theorem yp114_TSC {K : List yV → yM → Prop} {Y : yNx} {g m : yM} {a c e t : Int} (hY : yCl zpD205 (zpZ, zpRS, zpP12, zpMT, [yC_WOf], (69, 2284), 1) K Y) (hG : yTy zpZ g) (hT : yTy zpZ m) (f : yGq g m) (ha : 0 ≤ a ∧ a < 20) (hc : 0 ≤ c ∧ c < g 90 22) (hz : 0 ≤ g 90 22 ∧ g 90 22 ≤ 40) (hm : yCmr g) (hx : yTxm g) (h15 : 0 ≤ g 90 15) (hK : ∀ (r : Int) (g' : yM), (r = yTrv g (yNm2 g a (Int.toNat c) e t)) → (yTy zpZ g') → (yGq g g') → K [(1, r)] g') (n0 : m 100 0 = yw (t - g 91 (Int.toNat c))) (n1 : m 100 1 = g 105 (Int.toNat c)) (n2 : m 100 2 = g 104 (Int.toNat c)) (n3 : m 100 3 = g 91 (Int.toNat (40 + g 104 (Int.toNat c)))) (n4 : m 100 4 = if g 106 (Int.toNat c) < 0 then 0 else g 106 (Int.toNat c)) (n5 : m 100 5 = if g 107 (Int.toNat c) = e then 1 else 0) : Y 114 [(3, 90), (1, a), (1, c), (1, e), (1, t)] [] m := by
  have hmc := hm (Int.toNat c) (by omega)
  have f104 := f.a 104 (Int.toNat c) (by omega)
  refine yrun_ok (sp := fun pc => Nat.beq pc 127) hY 9 114 _ [] m ?_
  show (((0 : Int) ≤ a ∧ a < ((20 : Nat) : Int)) ∧ (((0 : Int) ≤ 6 ∧ 6 < ((8 : Nat) : Int)) ∧ (Y 127 [(3, 90), (1, a), (1, c), (1, e), (1, t)] [] (yset m 100 6 (m 115 (Int.toNat a))))))
  refine ⟨(by have := yw_s (40 + m 104 (Int.toNat c)); omega), ?_⟩
  refine ⟨(by have := yw_s (40 + m 104 (Int.toNat c)); omega), ?_⟩
  have ev : (m 115 (Int.toNat a)) = g 115 (Int.toNat a) := by
    exact f.a 115 _ (by omega)
  rw [ev]
  exact yp127_TSC hY hG (hT.sA (List.mem_of_getElem? (i := 52) rfl) (by decide +kernel) (hG.fA (List.mem_of_getElem? (i := 67) rfl) (by omega))) f.w ha hc hz hm hx h15 hK ((yset_nj (by decide)).trans n0) ((yset_nj (by decide)).trans n1) ((yset_nj (by decide)).trans n2) ((yset_nj (by decide)).trans n3) ((yset_nj (by decide)).trans n4) ((yset_nj (by decide)).trans n5) (yset_eq)
set_option maxRecDepth 8000 in
theorem yp93_TSC {K : List yV → yM → Prop} {Y : yNx} {g m : yM} {a c e t : Int} (hY : yCl zpD205 (zpZ, zpRS, zpP12, zpMT, [yC_WOf], (69, 2284), 1) K Y) (hG : yTy zpZ g) (hT : yTy zpZ m) (f : yGq g m) (ha : 0 ≤ a ∧ a < 20) (hc : 0 ≤ c ∧ c < g 90 22) (hz : 0 ≤ g 90 22 ∧ g 90 22 ≤ 40) (hm : yCmr g) (hx : yTxm g) (h15 : 0 ≤ g 90 15) (hK : ∀ (r : Int) (g' : yM), (r = yTrv g (yNm2 g a (Int.toNat c) e t)) → (yTy zpZ g') → (yGq g g') → K [(1, r)] g') (n0 : m 100 0 = yw (t - g 91 (Int.toNat c))) (n1 : m 100 1 = g 105 (Int.toNat c)) (n2 : m 100 2 = g 104 (Int.toNat c)) (n3 : m 100 3 = g 91 (Int.toNat (40 + g 104 (Int.toNat c)))) (n4 : m 100 4 = if g 106 (Int.toNat c) < 0 then 0 else g 106 (Int.toNat c)) : Y 93 [(3, 90), (1, a), (1, c), (1, e), (1, t)] [] m := by
  have hmc := hm (Int.toNat c) (by omega)
  have f104 := f.a 104 (Int.toNat c) (by omega)
  refine yrun_ok (sp := fun pc => Nat.beq pc 114) hY 13 93 _ [] m ?_
  show (((0 : Int) ≤ c ∧ c < ((40 : Nat) : Int)) ∧ (((m 107 (Int.toNat c)) ≠ e → (((0 : Int) ≤ 5 ∧ 5 < ((8 : Nat) : Int)) ∧ (Y 114 [(3, 90), (1, a), (1, c), (1, e), (1, t)] [] (yset m 100 5 0)))) ∧ (¬ ((m 107 (Int.toNat c)) ≠ e) → (((0 : Int) ≤ 5 ∧ 5 < ((8 : Nat) : Int)) ∧ (Y 114 [(3, 90), (1, a), (1, c), (1, e), (1, t)] [] (yset m 100 5 1))))))
  refine ⟨(by have := yw_s (40 + m 104 (Int.toNat c)); omega), ?_⟩
  refine ⟨fun h1 => ?_, fun h1 => ?_⟩
  · refine ⟨(by have := yw_s (40 + m 104 (Int.toNat c)); omega), ?_⟩
    have z7 := f.a 107 (Int.toNat c) (by omega)
    have ev : (0 : Int) = (if g 107 (Int.toNat c) = e then 1 else 0) := (if_neg (by omega)).symm
    exact yp114_TSC hY hG (hT.sA (List.mem_of_getElem? (i := 52) rfl) (by decide +kernel) ⟨by decide, by decide⟩) f.w ha hc hz hm hx h15 hK ((yset_nj (by decide)).trans n0) ((yset_nj (by decide)).trans n1) ((yset_nj (by decide)).trans n2) ((yset_nj (by decide)).trans n3) ((yset_nj (by decide)).trans n4) (yset_eq.trans ev)
  · refine ⟨(by have := yw_s (40 + m 104 (Int.toNat c)); omega), ?_⟩
    have z7 := f.a 107 (Int.toNat c) (by omega)
    have ev : (1 : Int) = (if g 107 (Int.toNat c) = e then 1 else 0) := (if_pos (by omega)).symm
    exact yp114_TSC hY hG (hT.sA (List.mem_of_getElem? (i := 52) rfl) (by decide +kernel) ⟨by decide, by decide⟩) f.w ha hc hz hm hx h15 hK ((yset_nj (by decide)).trans n0) ((yset_nj (by decide)).trans n1) ((yset_nj (by decide)).trans n2) ((yset_nj (by decide)).trans n3) ((yset_nj (by decide)).trans n4) (yset_eq.trans ev)
set_option maxRecDepth 8000 in
theorem yp68_TSC {K : List yV → yM → Prop} {Y : yNx} {g m : yM} {a c e t : Int} (hY : yCl zpD205 (zpZ, zpRS, zpP12, zpMT, [yC_WOf], (69, 2284), 1) K Y) (hG : yTy zpZ g) (hT : yTy zpZ m) (f : yGq g m) (ha : 0 ≤ a ∧ a < 20) (hc : 0 ≤ c ∧ c < g 90 22) (hz : 0 ≤ g 90 22 ∧ g 90 22 ≤ 40) (hm : yCmr g) (hx : yTxm g) (h15 : 0 ≤ g 90 15) (hK : ∀ (r : Int) (g' : yM), (r = yTrv g (yNm2 g a (Int.toNat c) e t)) → (yTy zpZ g') → (yGq g g') → K [(1, r)] g') (n0 : m 100 0 = yw (t - g 91 (Int.toNat c))) (n1 : m 100 1 = g 105 (Int.toNat c)) (n2 : m 100 2 = g 104 (Int.toNat c)) (n3 : m 100 3 = g 91 (Int.toNat (40 + g 104 (Int.toNat c)))) : Y 68 [(3, 90), (1, a), (1, c), (1, e), (1, t)] [] m := by
  have hmc := hm (Int.toNat c) (by omega)
  have f104 := f.a 104 (Int.toNat c) (by omega)
  refine yrun_ok (sp := fun pc => Nat.beq pc 93) hY 14 68 _ [] m ?_
  show (((0 : Int) ≤ c ∧ c < ((40 : Nat) : Int)) ∧ ((0 ≤ (m 106 (Int.toNat c)) → (((0 : Int) ≤ c ∧ c < ((40 : Nat) : Int)) ∧ (((0 : Int) ≤ 4 ∧ 4 < ((8 : Nat) : Int)) ∧ (Y 93 [(3, 90), (1, a), (1, c), (1, e), (1, t)] [] (yset m 100 4 (m 106 (Int.toNat c))))))) ∧ (¬ (0 ≤ (m 106 (Int.toNat c))) → (((0 : Int) ≤ 4 ∧ 4 < ((8 : Nat) : Int)) ∧ (Y 93 [(3, 90), (1, a), (1, c), (1, e), (1, t)] [] (yset m 100 4 0))))))
  refine ⟨(by have := yw_s (40 + m 104 (Int.toNat c)); omega), ?_⟩
  refine ⟨fun h1 => ?_, fun h1 => ?_⟩
  · refine ⟨(by have := yw_s (40 + m 104 (Int.toNat c)); omega), ?_⟩
    refine ⟨(by have := yw_s (40 + m 104 (Int.toNat c)); omega), ?_⟩
    have z6 := f.a 106 (Int.toNat c) (by omega)
    have r6 := hG.fA (j := Int.toNat c) (List.mem_of_getElem? (i := 58) rfl) (by omega)
    have ev : ((m 106 (Int.toNat c)) : Int) = (if g 106 (Int.toNat c) < 0 then 0 else g 106 (Int.toNat c)) := by
      rw [if_neg (by omega)]
      exact z6
    exact yp93_TSC hY hG (hT.sA (List.mem_of_getElem? (i := 52) rfl) (by decide +kernel) ⟨by omega, by omega⟩) f.w ha hc hz hm hx h15 hK ((yset_nj (by decide)).trans n0) ((yset_nj (by decide)).trans n1) ((yset_nj (by decide)).trans n2) ((yset_nj (by decide)).trans n3) (yset_eq.trans ev)
  · refine ⟨(by have := yw_s (40 + m 104 (Int.toNat c)); omega), ?_⟩
    have z6 := f.a 106 (Int.toNat c) (by omega)
    have r6 := hG.fA (j := Int.toNat c) (List.mem_of_getElem? (i := 58) rfl) (by omega)
    have ev : (0 : Int) = (if g 106 (Int.toNat c) < 0 then 0 else g 106 (Int.toNat c)) := by
      rw [if_pos (by omega)]
    exact yp93_TSC hY hG (hT.sA (List.mem_of_getElem? (i := 52) rfl) (by decide +kernel) ⟨by omega, by omega⟩) f.w ha hc hz hm hx h15 hK ((yset_nj (by decide)).trans n0) ((yset_nj (by decide)).trans n1) ((yset_nj (by decide)).trans n2) ((yset_nj (by decide)).trans n3) (yset_eq.trans ev)
set_option maxRecDepth 8000 in
theorem yp48_TSC {K : List yV → yM → Prop} {Y : yNx} {g m : yM} {a c e t : Int} (hY : yCl zpD205 (zpZ, zpRS, zpP12, zpMT, [yC_WOf], (69, 2284), 1) K Y) (hG : yTy zpZ g) (hT : yTy zpZ m) (f : yGq g m) (ha : 0 ≤ a ∧ a < 20) (hc : 0 ≤ c ∧ c < g 90 22) (hz : 0 ≤ g 90 22 ∧ g 90 22 ≤ 40) (hm : yCmr g) (hx : yTxm g) (h15 : 0 ≤ g 90 15) (hK : ∀ (r : Int) (g' : yM), (r = yTrv g (yNm2 g a (Int.toNat c) e t)) → (yTy zpZ g') → (yGq g g') → K [(1, r)] g') (n0 : m 100 0 = yw (t - g 91 (Int.toNat c))) (n1 : m 100 1 = g 105 (Int.toNat c)) (n2 : m 100 2 = g 104 (Int.toNat c)) : Y 48 [(3, 90), (1, a), (1, c), (1, e), (1, t)] [] m := by
  have hmc := hm (Int.toNat c) (by omega)
  have f104 := f.a 104 (Int.toNat c) (by omega)
  refine yrun_ok (sp := fun pc => Nat.beq pc 68) hY 14 48 _ [] m ?_
  show (((0 : Int) ≤ c ∧ c < ((40 : Nat) : Int)) ∧ (((0 : Int) ≤ (yw (40 + (m 104 (Int.toNat c)))) ∧ (yw (40 + (m 104 (Int.toNat c)))) < ((53 : Nat) : Int)) ∧ (((0 : Int) ≤ 3 ∧ 3 < ((8 : Nat) : Int)) ∧ (Y 68 [(3, 90), (1, a), (1, c), (1, e), (1, t)] [] (yset m 100 3 (m 91 (Int.toNat (yw (40 + (m 104 (Int.toNat c)))))))))))
  refine ⟨(by have := yw_s (40 + m 104 (Int.toNat c)); omega), ?_⟩
  refine ⟨(by have := yw_s (40 + m 104 (Int.toNat c)); omega), ?_⟩
  refine ⟨(by have := yw_s (40 + m 104 (Int.toNat c)); omega), ?_⟩
  have ev : (m 91 (Int.toNat (yw (40 + (m 104 (Int.toNat c)))))) = g 91 (Int.toNat (40 + g 104 (Int.toNat c))) := by
    rw [f104, show yw (40 + g 104 (Int.toNat c)) = 40 + g 104 (Int.toNat c) from yw_s _ (by omega) (by omega)]
    exact f.a 91 _ (by omega)
  rw [ev]
  exact yp68_TSC hY hG (hT.sA (List.mem_of_getElem? (i := 52) rfl) (by decide +kernel) (hG.fA (List.mem_of_getElem? (i := 43) rfl) (by omega))) f.w ha hc hz hm hx h15 hK ((yset_nj (by decide)).trans n0) ((yset_nj (by decide)).trans n1) ((yset_nj (by decide)).trans n2) (yset_eq)
set_option maxRecDepth 8000 in
theorem yp36_TSC {K : List yV → yM → Prop} {Y : yNx} {g m : yM} {a c e t : Int} (hY : yCl zpD205 (zpZ, zpRS, zpP12, zpMT, [yC_WOf], (69, 2284), 1) K Y) (hG : yTy zpZ g) (hT : yTy zpZ m) (f : yGq g m) (ha : 0 ≤ a ∧ a < 20) (hc : 0 ≤ c ∧ c < g 90 22) (hz : 0 ≤ g 90 22 ∧ g 90 22 ≤ 40) (hm : yCmr g) (hx : yTxm g) (h15 : 0 ≤ g 90 15) (hK : ∀ (r : Int) (g' : yM), (r = yTrv g (yNm2 g a (Int.toNat c) e t)) → (yTy zpZ g') → (yGq g g') → K [(1, r)] g') (n0 : m 100 0 = yw (t - g 91 (Int.toNat c))) (n1 : m 100 1 = g 105 (Int.toNat c)) : Y 36 [(3, 90), (1, a), (1, c), (1, e), (1, t)] [] m := by
  have hmc := hm (Int.toNat c) (by omega)
  have f104 := f.a 104 (Int.toNat c) (by omega)
  refine yrun_ok (sp := fun pc => Nat.beq pc 48) hY 9 36 _ [] m ?_
  show (((0 : Int) ≤ c ∧ c < ((40 : Nat) : Int)) ∧ (((0 : Int) ≤ 2 ∧ 2 < ((8 : Nat) : Int)) ∧ (Y 48 [(3, 90), (1, a), (1, c), (1, e), (1, t)] [] (yset m 100 2 (m 104 (Int.toNat c))))))
  refine ⟨(by have := yw_s (40 + m 104 (Int.toNat c)); omega), ?_⟩
  refine ⟨(by have := yw_s (40 + m 104 (Int.toNat c)); omega), ?_⟩
  have ev : (m 104 (Int.toNat c)) = g 104 (Int.toNat c) := by
    exact f104
  rw [ev]
  exact yp48_TSC hY hG (hT.sA (List.mem_of_getElem? (i := 52) rfl) (by decide +kernel) (by omega)) f.w ha hc hz hm hx h15 hK ((yset_nj (by decide)).trans n0) ((yset_nj (by decide)).trans n1) (yset_eq)
set_option maxRecDepth 8000 in
theorem yp24_TSC {K : List yV → yM → Prop} {Y : yNx} {g m : yM} {a c e t : Int} (hY : yCl zpD205 (zpZ, zpRS, zpP12, zpMT, [yC_WOf], (69, 2284), 1) K Y) (hG : yTy zpZ g) (hT : yTy zpZ m) (f : yGq g m) (ha : 0 ≤ a ∧ a < 20) (hc : 0 ≤ c ∧ c < g 90 22) (hz : 0 ≤ g 90 22 ∧ g 90 22 ≤ 40) (hm : yCmr g) (hx : yTxm g) (h15 : 0 ≤ g 90 15) (hK : ∀ (r : Int) (g' : yM), (r = yTrv g (yNm2 g a (Int.toNat c) e t)) → (yTy zpZ g') → (yGq g g') → K [(1, r)] g') (n0 : m 100 0 = yw (t - g 91 (Int.toNat c))) : Y 24 [(3, 90), (1, a), (1, c), (1, e), (1, t)] [] m := by
  have hmc := hm (Int.toNat c) (by omega)
  have f104 := f.a 104 (Int.toNat c) (by omega)
  refine yrun_ok (sp := fun pc => Nat.beq pc 36) hY 9 24 _ [] m ?_
  show (((0 : Int) ≤ c ∧ c < ((40 : Nat) : Int)) ∧ (((0 : Int) ≤ 1 ∧ 1 < ((8 : Nat) : Int)) ∧ (Y 36 [(3, 90), (1, a), (1, c), (1, e), (1, t)] [] (yset m 100 1 (m 105 (Int.toNat c))))))
  refine ⟨(by have := yw_s (40 + m 104 (Int.toNat c)); omega), ?_⟩
  refine ⟨(by have := yw_s (40 + m 104 (Int.toNat c)); omega), ?_⟩
  have ev : (m 105 (Int.toNat c)) = g 105 (Int.toNat c) := by
    exact f.a 105 _ (by omega)
  rw [ev]
  exact yp36_TSC hY hG (hT.sA (List.mem_of_getElem? (i := 52) rfl) (by decide +kernel) (hG.fA (List.mem_of_getElem? (i := 57) rfl) (by omega))) f.w ha hc hz hm hx h15 hK ((yset_nj (by decide)).trans n0) (yset_eq)
set_option maxRecDepth 8000 in
theorem yp9_TSC {K : List yV → yM → Prop} {Y : yNx} {g m : yM} {a c e t : Int} (hY : yCl zpD205 (zpZ, zpRS, zpP12, zpMT, [yC_WOf], (69, 2284), 1) K Y) (hG : yTy zpZ g) (hT : yTy zpZ m) (f : yGq g m) (ha : 0 ≤ a ∧ a < 20) (hc : 0 ≤ c ∧ c < g 90 22) (hz : 0 ≤ g 90 22 ∧ g 90 22 ≤ 40) (hm : yCmr g) (hx : yTxm g) (h15 : 0 ≤ g 90 15) (hK : ∀ (r : Int) (g' : yM), (r = yTrv g (yNm2 g a (Int.toNat c) e t)) → (yTy zpZ g') → (yGq g g') → K [(1, r)] g')  : Y 9 [(3, 90), (1, a), (1, c), (1, e), (1, t)] [] m := by
  have hmc := hm (Int.toNat c) (by omega)
  have f104 := f.a 104 (Int.toNat c) (by omega)
  refine yrun_ok (sp := fun pc => Nat.beq pc 24) hY 11 9 _ [] m ?_
  show (((0 : Int) ≤ c ∧ c < ((53 : Nat) : Int)) ∧ (((0 : Int) ≤ 0 ∧ 0 < ((8 : Nat) : Int)) ∧ (Y 24 [(3, 90), (1, a), (1, c), (1, e), (1, t)] [] (yset m 100 0 (yw (t - (m 91 (Int.toNat c))))))))
  refine ⟨(by have := yw_s (40 + m 104 (Int.toNat c)); omega), ?_⟩
  refine ⟨(by have := yw_s (40 + m 104 (Int.toNat c)); omega), ?_⟩
  have ev : (yw (t - (m 91 (Int.toNat c)))) = yw (t - g 91 (Int.toNat c)) := by
    rw [f.a 91 _ (by omega)]
  rw [ev]
  exact yp24_TSC hY hG (hT.sA (List.mem_of_getElem? (i := 52) rfl) (by decide +kernel) (yw_rg _)) f.w ha hc hz hm hx h15 hK  (yset_eq)
set_option maxRecDepth 8000 in
theorem yv_TSC {K : List yV → yM → Prop} {Y : yNx} {g : yM} {a c e t : Int} (hY : yCl zpD205 (zpZ, zpRS, zpP12, zpMT, [yC_WOf], (69, 2284), 1) K Y) (hr_a : -2147483648 ≤ a ∧ a ≤ 2147483647) (hr_c : -2147483648 ≤ c ∧ c ≤ 2147483647) (hr_e : -2147483648 ≤ e ∧ e ≤ 2147483647) (hr_t : -2147483648 ≤ t ∧ t ≤ 2147483647) (hp0 : yTy zpZ g) (hp1 : 0 ≤ a ∧ a < 20) (hp2 : 0 ≤ c ∧ c < g 90 22) (hp3 : 0 ≤ g 90 22 ∧ g 90 22 ≤ 40) (hp4 : yCmr g) (hp5 : yTxm g) (hK : ∀ (r : Int) (g' : yM), (r = yTrv g (yNm2 g a (Int.toNat c) e t)) → (yTy zpZ g') → (yGq g g') → K [(1, r)] g') : Y 0 [(3, 90), (1, a), (1, c), (1, e), (1, t)] [] g := by
  refine yrun_ok (sp := fun pc => Nat.beq pc 9) hY 5 0 _ [] g ?_
  show ((0 ≤ (g 90 15) → (Y 9 [(3, 90), (1, a), (1, c), (1, e), (1, t)] [] g)) ∧ (¬ (0 ≤ (g 90 15)) → (K [(1, 0)] g)))
  refine ⟨fun h1 => ?_, fun h1 => ?_⟩
  · exact yp9_TSC hY hp0 hp0 yGq.rf hp1 hp2 hp3 hp4 hp5 (by omega) hK
  · refine hK _ _ ?_ hp0 yGq.rf
    unfold yTrv
    rw [if_pos (by omega)]
theorem yM_TSC {l : Launch} {Ts : List Cond} {cl : List vw_C} {RO : zRO} (H : zHyp Ts cl RO) : yMet l Ts cl zpZ RO zpMT yC_TSC := ymet_of2 H.1 H.2.1 zpDj H.2.2.1 yRb H.p12 (ymets_cons (yM_WOf H) ymets_nil) (zrc1 rfl) (plainFor_of_name zpy12) zpDk205 (fun as g K Y h hA hY => by
  obtain ⟨a, c, e, t, rfl, hp0, hp1, hp2, hp3, hp4, hp5, hK⟩ := h
  exact yv_TSC hY (yAr1 hA (by simp)) (yAr1 hA (by simp)) (yAr1 hA (by simp)) (yAr1 hA (by simp)) hp0 hp1 hp2 hp3 hp4 hp5 hK)
def yP_SCM : yPT := fun as g K => ∃ (a c e t : Int), as = [(3, 90), (1, a), (1, c), (1, e), (1, t)] ∧ (yTy zpZ g) ∧ (0 ≤ a ∧ a < 20) ∧ (0 ≤ c ∧ c < g 90 22) ∧ (0 ≤ g 90 22 ∧ g 90 22 ≤ 40) ∧ (yCmr g) ∧ (yTxm g) ∧ (∀ (r : Int) (g' : yM), (r = ySmm g a e t (Int.toNat c)) → (yTy zpZ g') → (yGq g g') → K [(1, r)] g')
def yC_SCM : yC := (195, (70, 2308), yP_SCM)
set_option maxRecDepth 8000 in
theorem yv_SCM {K : List yV → yM → Prop} {Y : yNx} {g : yM} {a c e t : Int} (hY : yCl zpD195 (zpZ, zpRS, zpP12, zpMT, [yC_TSC], (70, 2308), 1) K Y) (hr_a : -2147483648 ≤ a ∧ a ≤ 2147483647) (hr_c : -2147483648 ≤ c ∧ c ≤ 2147483647) (hr_e : -2147483648 ≤ e ∧ e ≤ 2147483647) (hr_t : -2147483648 ≤ t ∧ t ≤ 2147483647) (hp0 : yTy zpZ g) (hp1 : 0 ≤ a ∧ a < 20) (hp2 : 0 ≤ c ∧ c < g 90 22) (hp3 : 0 ≤ g 90 22 ∧ g 90 22 ≤ 40) (hp4 : yCmr g) (hp5 : yTxm g) (hK : ∀ (r : Int) (g' : yM), (r = ySmm g a e t (Int.toNat c)) → (yTy zpZ g') → (yGq g g') → K [(1, r)] g') : Y 0 [(3, 90), (1, a), (1, c), (1, e), (1, t), (0, 0)] [] g := by
  refine yrun_ok (sp := fun pc => false) hY 31 0 _ [] g ?_
  show (((0 : Int) ≤ c ∧ c < ((40 : Nat) : Int)) ∧ (((0 : Int) ≤ a ∧ a < ((20 : Nat) : Int)) ∧ (((g 105 (Int.toNat c)) ≠ (g 115 (Int.toNat a)) → (((0 : Int) ≤ a ∧ a < ((20 : Nat) : Int)) ∧ (((6 : Nat) : Int) = (7 : Int) - 2 + 1 ∧ ((g 114 (Int.toNat a)) < 2 ∨ 7 < (g 114 (Int.toNat a)) → (K [(1, 0)] g)) ∧ ((g 114 (Int.toNat a)) = 2 → (((0 : Int) ≤ c ∧ c < ((40 : Nat) : Int)) ∧ ((0 ≤ (g 106 (Int.toNat c)) → (((0 : Int) ≤ c ∧ c < ((40 : Nat) : Int)) ∧ (K [(1, (yw (99 - (g 106 (Int.toNat c)))))] g))) ∧ (¬ (0 ≤ (g 106 (Int.toNat c))) → (K [(1, 0)] g))))) ∧ ((g 114 (Int.toNat a)) = 2 + 1 → (K [(1, 0)] g)) ∧ ((g 114 (Int.toNat a)) = 2 + 1 + 1 → (((0 : Int) ≤ c ∧ c < ((40 : Nat) : Int)) ∧ (((0 : Int) ≤ (yw (40 + (g 104 (Int.toNat c)))) ∧ (yw (40 + (g 104 (Int.toNat c)))) < ((53 : Nat) : Int)) ∧ (K [(1, (yw (99 - (g 91 (Int.toNat (yw (40 + (g 104 (Int.toNat c)))))))))] g)))) ∧ ((g 114 (Int.toNat a)) = 2 + 1 + 1 + 1 → (((0 : Int) ≤ c ∧ c < ((53 : Nat) : Int)) ∧ (K [(1, (g 91 (Int.toNat c)))] g))) ∧ ((g 114 (Int.toNat a)) = 2 + 1 + 1 + 1 + 1 → (((0 : Int) ≤ c ∧ c < ((53 : Nat) : Int)) ∧ (((0 : Int) ≤ a ∧ a < ((20 : Nat) : Int)) ∧ (((yw (t - (g 91 (Int.toNat c)))) < (g 116 (Int.toNat a)) → (K [(1, 0)] g)) ∧ (¬ ((yw (t - (g 91 (Int.toNat c)))) < (g 116 (Int.toNat a))) → (K [(1, 2)] g)))))) ∧ ((g 114 (Int.toNat a)) = 2 + 1 + 1 + 1 + 1 + 1 → (∃ (a5 c6 e7 t8 : Int), [(3, 90), (1, a), (1, c), (1, e), (1, t)] = [(3, 90), (1, a5), (1, c6), (1, e7), (1, t8)] ∧ (yTy zpZ g) ∧ (0 ≤ a5 ∧ a5 < 20) ∧ (0 ≤ c6 ∧ c6 < g 90 22) ∧ (0 ≤ g 90 22 ∧ g 90 22 ≤ 40) ∧ (yCmr g) ∧ (yTxm g) ∧ (∀ (r9 : Int) (g10 : yM), (r9 = yTrv g (yNm2 g a5 (Int.toNat c6) e7 t8)) → (yTy zpZ g10) → (yGq g g10) → (K [(1, r9)] g10)))) ∧ True))) ∧ (¬ ((g 105 (Int.toNat c)) ≠ (g 115 (Int.toNat a))) → (((0 : Int) ≤ a ∧ a < ((20 : Nat) : Int)) ∧ (((6 : Nat) : Int) = (7 : Int) - 2 + 1 ∧ ((g 114 (Int.toNat a)) < 2 ∨ 7 < (g 114 (Int.toNat a)) → (K [(1, 0)] g)) ∧ ((g 114 (Int.toNat a)) = 2 → (((0 : Int) ≤ c ∧ c < ((40 : Nat) : Int)) ∧ ((0 ≤ (g 106 (Int.toNat c)) → (((0 : Int) ≤ c ∧ c < ((40 : Nat) : Int)) ∧ (K [(1, (yw (99 - (g 106 (Int.toNat c)))))] g))) ∧ (¬ (0 ≤ (g 106 (Int.toNat c))) → (K [(1, 0)] g))))) ∧ ((g 114 (Int.toNat a)) = 2 + 1 → (K [(1, 1)] g)) ∧ ((g 114 (Int.toNat a)) = 2 + 1 + 1 → (((0 : Int) ≤ c ∧ c < ((40 : Nat) : Int)) ∧ (((0 : Int) ≤ (yw (40 + (g 104 (Int.toNat c)))) ∧ (yw (40 + (g 104 (Int.toNat c)))) < ((53 : Nat) : Int)) ∧ (K [(1, (yw (99 - (g 91 (Int.toNat (yw (40 + (g 104 (Int.toNat c)))))))))] g)))) ∧ ((g 114 (Int.toNat a)) = 2 + 1 + 1 + 1 → (((0 : Int) ≤ c ∧ c < ((53 : Nat) : Int)) ∧ (K [(1, (g 91 (Int.toNat c)))] g))) ∧ ((g 114 (Int.toNat a)) = 2 + 1 + 1 + 1 + 1 → (((0 : Int) ≤ c ∧ c < ((53 : Nat) : Int)) ∧ (((0 : Int) ≤ a ∧ a < ((20 : Nat) : Int)) ∧ (((yw (t - (g 91 (Int.toNat c)))) < (g 116 (Int.toNat a)) → (K [(1, 1)] g)) ∧ (¬ ((yw (t - (g 91 (Int.toNat c)))) < (g 116 (Int.toNat a))) → (K [(1, 2)] g)))))) ∧ ((g 114 (Int.toNat a)) = 2 + 1 + 1 + 1 + 1 + 1 → (∃ (a15 c16 e17 t18 : Int), [(3, 90), (1, a), (1, c), (1, e), (1, t)] = [(3, 90), (1, a15), (1, c16), (1, e17), (1, t18)] ∧ (yTy zpZ g) ∧ (0 ≤ a15 ∧ a15 < 20) ∧ (0 ≤ c16 ∧ c16 < g 90 22) ∧ (0 ≤ g 90 22 ∧ g 90 22 ≤ 40) ∧ (yCmr g) ∧ (yTxm g) ∧ (∀ (r19 : Int) (g20 : yM), (r19 = yTrv g (yNm2 g a15 (Int.toNat c16) e17 t18)) → (yTy zpZ g20) → (yGq g g20) → (K [(1, r19)] g20)))) ∧ True))))))
  refine ⟨(by have hmc := hp4 (Int.toNat c) (by omega); have := yw_s (40 + g 104 (Int.toNat c)); omega), ?_⟩
  refine ⟨(by have hmc := hp4 (Int.toNat c) (by omega); have := yw_s (40 + g 104 (Int.toNat c)); omega), ?_⟩
  refine ⟨fun h1 => ?_, fun h1 => ?_⟩
  · refine ⟨(by have hmc := hp4 (Int.toNat c) (by omega); have := yw_s (40 + g 104 (Int.toNat c)); omega), ?_⟩
    refine ⟨by decide, fun h2 => ?_, fun h2 => ?_, fun h2 => ?_, fun h2 => ?_, fun h2 => ?_, fun h2 => ?_, fun h2 => ?_, trivial⟩
    · have hmc := hp4 (Int.toNat c) (by omega)
      refine hK _ _ ?_ hp0 yGq.rf
      unfold ySmm ySco
      repeat rw [if_neg (by omega)]
    · refine ⟨(by have hmc := hp4 (Int.toNat c) (by omega); have := yw_s (40 + g 104 (Int.toNat c)); omega), ?_⟩
      refine ⟨fun h3 => ?_, fun h3 => ?_⟩
      · refine ⟨(by have hmc := hp4 (Int.toNat c) (by omega); have := yw_s (40 + g 104 (Int.toNat c)); omega), ?_⟩
        have hmc := hp4 (Int.toNat c) (by omega)
        refine hK _ _ ?_ hp0 yGq.rf
        have hk : g 114 (Int.toNat a) = 2 := by omega
        unfold ySmm ySco
        rw [hk]
        rw [if_pos rfl]
        repeat' split
        all_goals first
          | omega
          | rfl
      · have hmc := hp4 (Int.toNat c) (by omega)
        refine hK _ _ ?_ hp0 yGq.rf
        have hk : g 114 (Int.toNat a) = 2 := by omega
        unfold ySmm ySco
        rw [hk]
        rw [if_pos rfl]
        repeat' split
        all_goals first
          | omega
          | rfl
    · have hmc := hp4 (Int.toNat c) (by omega)
      refine hK _ _ ?_ hp0 yGq.rf
      have hk : g 114 (Int.toNat a) = 3 := by omega
      unfold ySmm ySco
      rw [hk]
      rw [if_neg (by decide)]
      rw [if_pos rfl]
      repeat' split
      all_goals first
        | omega
        | rfl
    · refine ⟨(by have hmc := hp4 (Int.toNat c) (by omega); have := yw_s (40 + g 104 (Int.toNat c)); omega), ?_⟩
      refine ⟨(by have hmc := hp4 (Int.toNat c) (by omega); have := yw_s (40 + g 104 (Int.toNat c)); omega), ?_⟩
      have hmc := hp4 (Int.toNat c) (by omega)
      rw [show yw (40 + g 104 (Int.toNat c)) = 40 + g 104 (Int.toNat c) from yw_s _ (by omega) (by omega)]
      refine hK _ _ ?_ hp0 yGq.rf
      have hk : g 114 (Int.toNat a) = 4 := by omega
      unfold ySmm ySco
      rw [hk]
      rw [if_neg (by decide)]
      rw [if_neg (by decide)]
      rw [if_pos rfl]
    · refine ⟨(by have hmc := hp4 (Int.toNat c) (by omega); have := yw_s (40 + g 104 (Int.toNat c)); omega), ?_⟩
      have hmc := hp4 (Int.toNat c) (by omega)
      refine hK _ _ ?_ hp0 yGq.rf
      have hk : g 114 (Int.toNat a) = 5 := by omega
      unfold ySmm ySco
      rw [hk]
      rw [if_neg (by decide)]
      rw [if_neg (by decide)]
      rw [if_neg (by decide)]
      rw [if_pos rfl]
    · refine ⟨(by have hmc := hp4 (Int.toNat c) (by omega); have := yw_s (40 + g 104 (Int.toNat c)); omega), ?_⟩
      refine ⟨(by have hmc := hp4 (Int.toNat c) (by omega); have := yw_s (40 + g 104 (Int.toNat c)); omega), ?_⟩
      refine ⟨fun h4 => ?_, fun h4 => ?_⟩
      · have hmc := hp4 (Int.toNat c) (by omega)
        refine hK _ _ ?_ hp0 yGq.rf
        have hk : g 114 (Int.toNat a) = 6 := by omega
        unfold ySmm ySco
        rw [hk]
        rw [if_neg (by decide)]
        rw [if_neg (by decide)]
        rw [if_neg (by decide)]
        rw [if_neg (by decide)]
        rw [if_pos rfl]
        repeat' split
        all_goals first
          | omega
          | rfl
      · have hmc := hp4 (Int.toNat c) (by omega)
        refine hK _ _ ?_ hp0 yGq.rf
        have hk : g 114 (Int.toNat a) = 6 := by omega
        unfold ySmm ySco
        rw [hk]
        rw [if_neg (by decide)]
        rw [if_neg (by decide)]
        rw [if_neg (by decide)]
        rw [if_neg (by decide)]
        rw [if_pos rfl]
        repeat' split
        all_goals first
          | omega
          | rfl
    · refine ⟨_, _, _, _, rfl, (hp0), (by have hmc := hp4 (Int.toNat c) (by omega); have := yw_s (40 + g 104 (Int.toNat c)); omega), (by have hmc := hp4 (Int.toNat c) (by omega); have := yw_s (40 + g 104 (Int.toNat c)); omega), (by have hmc := hp4 (Int.toNat c) (by omega); have := yw_s (40 + g 104 (Int.toNat c)); omega), (hp4), (hp5), ?_⟩
      intro r9 g10 p110 p111 p112
      have hmc := hp4 (Int.toNat c) (by omega)
      refine hK _ _ ?_ p111 p112
      have hk : g 114 (Int.toNat a) = 7 := by omega
      unfold ySmm ySco
      rw [hk]
      rw [if_neg (by decide)]
      rw [if_neg (by decide)]
      rw [if_neg (by decide)]
      rw [if_neg (by decide)]
      rw [if_neg (by decide)]
      rw [if_pos rfl]
      exact p110
  · refine ⟨(by have hmc := hp4 (Int.toNat c) (by omega); have := yw_s (40 + g 104 (Int.toNat c)); omega), ?_⟩
    refine ⟨by decide, fun h12 => ?_, fun h12 => ?_, fun h12 => ?_, fun h12 => ?_, fun h12 => ?_, fun h12 => ?_, fun h12 => ?_, trivial⟩
    · have hmc := hp4 (Int.toNat c) (by omega)
      refine hK _ _ ?_ hp0 yGq.rf
      unfold ySmm ySco
      repeat rw [if_neg (by omega)]
    · refine ⟨(by have hmc := hp4 (Int.toNat c) (by omega); have := yw_s (40 + g 104 (Int.toNat c)); omega), ?_⟩
      refine ⟨fun h13 => ?_, fun h13 => ?_⟩
      · refine ⟨(by have hmc := hp4 (Int.toNat c) (by omega); have := yw_s (40 + g 104 (Int.toNat c)); omega), ?_⟩
        have hmc := hp4 (Int.toNat c) (by omega)
        refine hK _ _ ?_ hp0 yGq.rf
        have hk : g 114 (Int.toNat a) = 2 := by omega
        unfold ySmm ySco
        rw [hk]
        rw [if_pos rfl]
        repeat' split
        all_goals first
          | omega
          | rfl
      · have hmc := hp4 (Int.toNat c) (by omega)
        refine hK _ _ ?_ hp0 yGq.rf
        have hk : g 114 (Int.toNat a) = 2 := by omega
        unfold ySmm ySco
        rw [hk]
        rw [if_pos rfl]
        repeat' split
        all_goals first
          | omega
          | rfl
    · have hmc := hp4 (Int.toNat c) (by omega)
      refine hK _ _ ?_ hp0 yGq.rf
      have hk : g 114 (Int.toNat a) = 3 := by omega
      unfold ySmm ySco
      rw [hk]
      rw [if_neg (by decide)]
      rw [if_pos rfl]
      repeat' split
      all_goals first
        | omega
        | rfl
    · refine ⟨(by have hmc := hp4 (Int.toNat c) (by omega); have := yw_s (40 + g 104 (Int.toNat c)); omega), ?_⟩
      refine ⟨(by have hmc := hp4 (Int.toNat c) (by omega); have := yw_s (40 + g 104 (Int.toNat c)); omega), ?_⟩
      have hmc := hp4 (Int.toNat c) (by omega)
      rw [show yw (40 + g 104 (Int.toNat c)) = 40 + g 104 (Int.toNat c) from yw_s _ (by omega) (by omega)]
      refine hK _ _ ?_ hp0 yGq.rf
      have hk : g 114 (Int.toNat a) = 4 := by omega
      unfold ySmm ySco
      rw [hk]
      rw [if_neg (by decide)]
      rw [if_neg (by decide)]
      rw [if_pos rfl]
    · refine ⟨(by have hmc := hp4 (Int.toNat c) (by omega); have := yw_s (40 + g 104 (Int.toNat c)); omega), ?_⟩
      have hmc := hp4 (Int.toNat c) (by omega)
      refine hK _ _ ?_ hp0 yGq.rf
      have hk : g 114 (Int.toNat a) = 5 := by omega
      unfold ySmm ySco
      rw [hk]
      rw [if_neg (by decide)]
      rw [if_neg (by decide)]
      rw [if_neg (by decide)]
      rw [if_pos rfl]
    · refine ⟨(by have hmc := hp4 (Int.toNat c) (by omega); have := yw_s (40 + g 104 (Int.toNat c)); omega), ?_⟩
      refine ⟨(by have hmc := hp4 (Int.toNat c) (by omega); have := yw_s (40 + g 104 (Int.toNat c)); omega), ?_⟩
      refine ⟨fun h14 => ?_, fun h14 => ?_⟩
      · have hmc := hp4 (Int.toNat c) (by omega)
        refine hK _ _ ?_ hp0 yGq.rf
        have hk : g 114 (Int.toNat a) = 6 := by omega
        unfold ySmm ySco
        rw [hk]
        rw [if_neg (by decide)]
        rw [if_neg (by decide)]
        rw [if_neg (by decide)]
        rw [if_neg (by decide)]
        rw [if_pos rfl]
        repeat' split
        all_goals first
          | omega
          | rfl
      · have hmc := hp4 (Int.toNat c) (by omega)
        refine hK _ _ ?_ hp0 yGq.rf
        have hk : g 114 (Int.toNat a) = 6 := by omega
        unfold ySmm ySco
        rw [hk]
        rw [if_neg (by decide)]
        rw [if_neg (by decide)]
        rw [if_neg (by decide)]
        rw [if_neg (by decide)]
        rw [if_pos rfl]
        repeat' split
        all_goals first
          | omega
          | rfl
    · refine ⟨_, _, _, _, rfl, (hp0), (by have hmc := hp4 (Int.toNat c) (by omega); have := yw_s (40 + g 104 (Int.toNat c)); omega), (by have hmc := hp4 (Int.toNat c) (by omega); have := yw_s (40 + g 104 (Int.toNat c)); omega), (by have hmc := hp4 (Int.toNat c) (by omega); have := yw_s (40 + g 104 (Int.toNat c)); omega), (hp4), (hp5), ?_⟩
      intro r19 g20 p210 p211 p212
      have hmc := hp4 (Int.toNat c) (by omega)
      refine hK _ _ ?_ p211 p212
      have hk : g 114 (Int.toNat a) = 7 := by omega
      unfold ySmm ySco
      rw [hk]
      rw [if_neg (by decide)]
      rw [if_neg (by decide)]
      rw [if_neg (by decide)]
      rw [if_neg (by decide)]
      rw [if_neg (by decide)]
      rw [if_pos rfl]
      exact p210
theorem yM_SCM {l : Launch} {Ts : List Cond} {cl : List vw_C} {RO : zRO} (H : zHyp Ts cl RO) : yMet l Ts cl zpZ RO zpMT yC_SCM := ymet_of2 H.1 H.2.1 zpDj H.2.2.1 yRb H.p12 (ymets_cons (yM_TSC H) ymets_nil) (zrc1 rfl) (plainFor_of_name zpy12) zpDk195 (fun as g K Y h hA hY => by
  obtain ⟨a, c, e, t, rfl, hp0, hp1, hp2, hp3, hp4, hp5, hK⟩ := h
  exact yv_SCM hY (yAr1 hA (by simp)) (yAr1 hA (by simp)) (yAr1 hA (by simp)) (yAr1 hA (by simp)) hp0 hp1 hp2 hp3 hp4 hp5 hK)
def yP_NXM : yPT := fun as g K => ∃ (a d e t : Int), as = [(3, 90), (1, a), (1, d), (1, e), (1, t)] ∧ (yTy zpZ g) ∧ (0 ≤ a ∧ a < 20) ∧ (0 ≤ g 90 22 ∧ g 90 22 ≤ 40) ∧ (yCmr g) ∧ (yTxm g) ∧ (∀ (r : Int) (g' : yM), (∃ s : Int, yNy1 g a d e t (Int.toNat (g 90 22)) r s) → (yTy zpZ g') → (yGq g g') → K [(1, r)] g')
def yC_NXM : yC := (180, (71, 2333), yP_NXM)
set_option maxRecDepth 8000 in
theorem yl_NXM {K : List yV → yM → Prop} {Y : yNx} {g : yM} {a d e t : Int} (hY : yCl zpD180 (zpZ, zpRS, zpP12, zpMT, [yC_SCM], (71, 2333), 1) K Y) (hG : yTy zpZ g) (ha : 0 ≤ a ∧ a < 20) (hz : 0 ≤ g 90 22 ∧ g 90 22 ≤ 40) (hm : yCmr g) (hx : yTxm g) (hK : ∀ (b s : Int) (m : yM), yNy1 g a d e t (Int.toNat (g 90 22)) b s → yTy zpZ m → yGq g m → K [(1, b)] m) : ∀ (n : Nat) (i : Int), i + n = g 90 22 → 0 ≤ i → ∀ (b s : Int) (m : yM) (w8 : yV), yNy1 g a d e t (Int.toNat i) b s → yTy zpZ m → yGq g m → Y 10 [(3, 90), (1, a), (1, d), (1, e), (1, t), (1, b), (1, s), (1, i), w8] [] m := by
  intro n
  induction n with
  | zero =>
    intro i hd h0 b s m w8 hu hT f
    have e22 : m 90 22 = g 90 22 := f 90 22 (by decide) (by omega)
    have hb := yNp_b _ b s hu
    refine yrun_ok (sp := fun pc => Nat.beq pc 10) hY 63 10 _ [] m ?_
    show (((m 90 22) ≤ i → (K [(1, b)] m)) ∧ (¬ ((m 90 22) ≤ i) → (((0 : Int) ≤ i ∧ i < ((40 : Nat) : Int)) ∧ (((m 101 (Int.toNat i)) ≠ d → (Y 10 [(3, 90), (1, a), (1, d), (1, e), (1, t), (1, b), (1, s), (1, (yw (i + 1))), w8] [] m)) ∧ (¬ ((m 101 (Int.toNat i)) ≠ d) → (((m 90 11) ≠ 1 → (((0 : Int) ≤ i ∧ i < ((53 : Nat) : Int)) ∧ ((t < (m 91 (Int.toNat i)) → (Y 10 [(3, 90), (1, a), (1, d), (1, e), (1, t), (1, b), (1, s), (1, (yw (i + 1))), w8] [] m)) ∧ (¬ (t < (m 91 (Int.toNat i))) → (((0 : Int) ≤ i ∧ i < ((40 : Nat) : Int)) ∧ ((t ≤ (m 111 (Int.toNat i)) → (∃ (a6 c7 e8 t9 : Int), [(3, 90), (1, a), (1, i), (1, e), (1, t)] = [(3, 90), (1, a6), (1, c7), (1, e8), (1, t9)] ∧ (yTy zpZ m) ∧ (0 ≤ a6 ∧ a6 < 20) ∧ (0 ≤ c7 ∧ c7 < m 90 22) ∧ (0 ≤ m 90 22 ∧ m 90 22 ≤ 40) ∧ (yCmr m) ∧ (yTxm m) ∧ (∀ (r10 : Int) (g11 : yM), (r10 = ySmm m a6 e8 t9 (Int.toNat c7)) → (yTy zpZ g11) → (yGq m g11) → ((b < 0 → (Y 10 [(3, 90), (1, a), (1, d), (1, e), (1, t), (1, i), (1, r10), (1, (yw (i + 1))), (1, r10)] [] g11)) ∧ (¬ (b < 0) → ((s < r10 → (Y 10 [(3, 90), (1, a), (1, d), (1, e), (1, t), (1, i), (1, r10), (1, (yw (i + 1))), (1, r10)] [] g11)) ∧ (¬ (s < r10) → ((r10 ≠ s → (Y 10 [(3, 90), (1, a), (1, d), (1, e), (1, t), (1, b), (1, s), (1, (yw (i + 1))), (1, r10)] [] g11)) ∧ (¬ (r10 ≠ s) → (((0 : Int) ≤ i ∧ i < ((53 : Nat) : Int)) ∧ (((0 : Int) ≤ b ∧ b < ((53 : Nat) : Int)) ∧ (((g11 91 (Int.toNat b)) ≤ (g11 91 (Int.toNat i)) → (Y 10 [(3, 90), (1, a), (1, d), (1, e), (1, t), (1, b), (1, s), (1, (yw (i + 1))), (1, r10)] [] g11)) ∧ (¬ ((g11 91 (Int.toNat b)) ≤ (g11 91 (Int.toNat i))) → (Y 10 [(3, 90), (1, a), (1, d), (1, e), (1, t), (1, i), (1, r10), (1, (yw (i + 1))), (1, r10)] [] g11)))))))))))))) ∧ (¬ (t ≤ (m 111 (Int.toNat i))) → (Y 10 [(3, 90), (1, a), (1, d), (1, e), (1, t), (1, b), (1, s), (1, (yw (i + 1))), w8] [] m)))))))) ∧ (¬ ((m 90 11) ≠ 1) → (((0 : Int) ≤ i ∧ i < ((40 : Nat) : Int)) ∧ (((m 107 (Int.toNat i)) ≠ e → (Y 10 [(3, 90), (1, a), (1, d), (1, e), (1, t), (1, b), (1, s), (1, (yw (i + 1))), w8] [] m)) ∧ (¬ ((m 107 (Int.toNat i)) ≠ e) → (((0 : Int) ≤ i ∧ i < ((53 : Nat) : Int)) ∧ ((t < (m 91 (Int.toNat i)) → (Y 10 [(3, 90), (1, a), (1, d), (1, e), (1, t), (1, b), (1, s), (1, (yw (i + 1))), w8] [] m)) ∧ (¬ (t < (m 91 (Int.toNat i))) → (((0 : Int) ≤ i ∧ i < ((40 : Nat) : Int)) ∧ ((t ≤ (m 111 (Int.toNat i)) → (∃ (a20 c21 e22 t23 : Int), [(3, 90), (1, a), (1, i), (1, e), (1, t)] = [(3, 90), (1, a20), (1, c21), (1, e22), (1, t23)] ∧ (yTy zpZ m) ∧ (0 ≤ a20 ∧ a20 < 20) ∧ (0 ≤ c21 ∧ c21 < m 90 22) ∧ (0 ≤ m 90 22 ∧ m 90 22 ≤ 40) ∧ (yCmr m) ∧ (yTxm m) ∧ (∀ (r24 : Int) (g25 : yM), (r24 = ySmm m a20 e22 t23 (Int.toNat c21)) → (yTy zpZ g25) → (yGq m g25) → ((b < 0 → (Y 10 [(3, 90), (1, a), (1, d), (1, e), (1, t), (1, i), (1, r24), (1, (yw (i + 1))), (1, r24)] [] g25)) ∧ (¬ (b < 0) → ((s < r24 → (Y 10 [(3, 90), (1, a), (1, d), (1, e), (1, t), (1, i), (1, r24), (1, (yw (i + 1))), (1, r24)] [] g25)) ∧ (¬ (s < r24) → ((r24 ≠ s → (Y 10 [(3, 90), (1, a), (1, d), (1, e), (1, t), (1, b), (1, s), (1, (yw (i + 1))), (1, r24)] [] g25)) ∧ (¬ (r24 ≠ s) → (((0 : Int) ≤ i ∧ i < ((53 : Nat) : Int)) ∧ (((0 : Int) ≤ b ∧ b < ((53 : Nat) : Int)) ∧ (((g25 91 (Int.toNat b)) ≤ (g25 91 (Int.toNat i)) → (Y 10 [(3, 90), (1, a), (1, d), (1, e), (1, t), (1, b), (1, s), (1, (yw (i + 1))), (1, r24)] [] g25)) ∧ (¬ ((g25 91 (Int.toNat b)) ≤ (g25 91 (Int.toNat i))) → (Y 10 [(3, 90), (1, a), (1, d), (1, e), (1, t), (1, i), (1, r24), (1, (yw (i + 1))), (1, r24)] [] g25)))))))))))))) ∧ (¬ (t ≤ (m 111 (Int.toNat i))) → (Y 10 [(3, 90), (1, a), (1, d), (1, e), (1, t), (1, b), (1, s), (1, (yw (i + 1))), w8] [] m)))))))))))))))))
    refine ⟨fun h1 => ?_, fun h1 => ?_⟩
    · obtain rfl : i = g 90 22 := by omega
      exact hK b s m hu hT f
    · refine ⟨(by omega), ?_⟩
      refine ⟨fun h2 => ?_, fun h2 => ?_⟩
      · omega
      · refine ⟨fun h3 => ?_, fun h3 => ?_⟩
        · refine ⟨(by omega), ?_⟩
          refine ⟨fun h4 => ?_, fun h4 => ?_⟩
          · omega
          · refine ⟨(by omega), ?_⟩
            refine ⟨fun h5 => ?_, fun h5 => ?_⟩
            · refine ⟨_, _, _, _, rfl, (by omega), (by omega), (by omega), (by omega), (by omega), (by omega), ?_⟩
              intro r10 g11 p120 p121 p122
              refine ⟨fun h13 => ?_, fun h13 => ?_⟩
              · omega
              · refine ⟨fun h14 => ?_, fun h14 => ?_⟩
                · omega
                · refine ⟨fun h15 => ?_, fun h15 => ?_⟩
                  · omega
                  · refine ⟨(by omega), ?_⟩
                    refine ⟨(by omega), ?_⟩
                    refine ⟨fun h16 => ?_, fun h16 => ?_⟩
                    · omega
                    · omega
            · omega
        · refine ⟨(by omega), ?_⟩
          refine ⟨fun h17 => ?_, fun h17 => ?_⟩
          · omega
          · refine ⟨(by omega), ?_⟩
            refine ⟨fun h18 => ?_, fun h18 => ?_⟩
            · omega
            · refine ⟨(by omega), ?_⟩
              refine ⟨fun h19 => ?_, fun h19 => ?_⟩
              · refine ⟨_, _, _, _, rfl, (by omega), (by omega), (by omega), (by omega), (by omega), (by omega), ?_⟩
                intro r24 g25 p260 p261 p262
                refine ⟨fun h27 => ?_, fun h27 => ?_⟩
                · omega
                · refine ⟨fun h28 => ?_, fun h28 => ?_⟩
                  · omega
                  · refine ⟨fun h29 => ?_, fun h29 => ?_⟩
                    · omega
                    · refine ⟨(by omega), ?_⟩
                      refine ⟨(by omega), ?_⟩
                      refine ⟨fun h30 => ?_, fun h30 => ?_⟩
                      · omega
                      · omega
              · omega
  | succ n ih =>
    intro i hd h0 b s m w8 hu hT f
    have e22 : m 90 22 = g 90 22 := f 90 22 (by decide) (by omega)
    have hb := yNp_b _ b s hu
    have c0 := f.a 101 (Int.toNat i) (by omega)
    have c1 := f.a 91 (Int.toNat i) (by omega)
    have c7 := f.a 107 (Int.toNat i) (by omega)
    have c11 := f.a 111 (Int.toNat i) (by omega)
    have cb := f.a 91 (Int.toNat b) (by omega)
    have e11 : m 90 11 = g 90 11 := f 90 11 (by decide) (by omega)
    refine yrun_ok (sp := fun pc => Nat.beq pc 10) hY 63 10 _ [] m ?_
    show (((m 90 22) ≤ i → (K [(1, b)] m)) ∧ (¬ ((m 90 22) ≤ i) → (((0 : Int) ≤ i ∧ i < ((40 : Nat) : Int)) ∧ (((m 101 (Int.toNat i)) ≠ d → (Y 10 [(3, 90), (1, a), (1, d), (1, e), (1, t), (1, b), (1, s), (1, (yw (i + 1))), w8] [] m)) ∧ (¬ ((m 101 (Int.toNat i)) ≠ d) → (((m 90 11) ≠ 1 → (((0 : Int) ≤ i ∧ i < ((53 : Nat) : Int)) ∧ ((t < (m 91 (Int.toNat i)) → (Y 10 [(3, 90), (1, a), (1, d), (1, e), (1, t), (1, b), (1, s), (1, (yw (i + 1))), w8] [] m)) ∧ (¬ (t < (m 91 (Int.toNat i))) → (((0 : Int) ≤ i ∧ i < ((40 : Nat) : Int)) ∧ ((t ≤ (m 111 (Int.toNat i)) → (∃ (a6 c7 e8 t9 : Int), [(3, 90), (1, a), (1, i), (1, e), (1, t)] = [(3, 90), (1, a6), (1, c7), (1, e8), (1, t9)] ∧ (yTy zpZ m) ∧ (0 ≤ a6 ∧ a6 < 20) ∧ (0 ≤ c7 ∧ c7 < m 90 22) ∧ (0 ≤ m 90 22 ∧ m 90 22 ≤ 40) ∧ (yCmr m) ∧ (yTxm m) ∧ (∀ (r10 : Int) (g11 : yM), (r10 = ySmm m a6 e8 t9 (Int.toNat c7)) → (yTy zpZ g11) → (yGq m g11) → ((b < 0 → (Y 10 [(3, 90), (1, a), (1, d), (1, e), (1, t), (1, i), (1, r10), (1, (yw (i + 1))), (1, r10)] [] g11)) ∧ (¬ (b < 0) → ((s < r10 → (Y 10 [(3, 90), (1, a), (1, d), (1, e), (1, t), (1, i), (1, r10), (1, (yw (i + 1))), (1, r10)] [] g11)) ∧ (¬ (s < r10) → ((r10 ≠ s → (Y 10 [(3, 90), (1, a), (1, d), (1, e), (1, t), (1, b), (1, s), (1, (yw (i + 1))), (1, r10)] [] g11)) ∧ (¬ (r10 ≠ s) → (((0 : Int) ≤ i ∧ i < ((53 : Nat) : Int)) ∧ (((0 : Int) ≤ b ∧ b < ((53 : Nat) : Int)) ∧ (((g11 91 (Int.toNat b)) ≤ (g11 91 (Int.toNat i)) → (Y 10 [(3, 90), (1, a), (1, d), (1, e), (1, t), (1, b), (1, s), (1, (yw (i + 1))), (1, r10)] [] g11)) ∧ (¬ ((g11 91 (Int.toNat b)) ≤ (g11 91 (Int.toNat i))) → (Y 10 [(3, 90), (1, a), (1, d), (1, e), (1, t), (1, i), (1, r10), (1, (yw (i + 1))), (1, r10)] [] g11)))))))))))))) ∧ (¬ (t ≤ (m 111 (Int.toNat i))) → (Y 10 [(3, 90), (1, a), (1, d), (1, e), (1, t), (1, b), (1, s), (1, (yw (i + 1))), w8] [] m)))))))) ∧ (¬ ((m 90 11) ≠ 1) → (((0 : Int) ≤ i ∧ i < ((40 : Nat) : Int)) ∧ (((m 107 (Int.toNat i)) ≠ e → (Y 10 [(3, 90), (1, a), (1, d), (1, e), (1, t), (1, b), (1, s), (1, (yw (i + 1))), w8] [] m)) ∧ (¬ ((m 107 (Int.toNat i)) ≠ e) → (((0 : Int) ≤ i ∧ i < ((53 : Nat) : Int)) ∧ ((t < (m 91 (Int.toNat i)) → (Y 10 [(3, 90), (1, a), (1, d), (1, e), (1, t), (1, b), (1, s), (1, (yw (i + 1))), w8] [] m)) ∧ (¬ (t < (m 91 (Int.toNat i))) → (((0 : Int) ≤ i ∧ i < ((40 : Nat) : Int)) ∧ ((t ≤ (m 111 (Int.toNat i)) → (∃ (a20 c21 e22 t23 : Int), [(3, 90), (1, a), (1, i), (1, e), (1, t)] = [(3, 90), (1, a20), (1, c21), (1, e22), (1, t23)] ∧ (yTy zpZ m) ∧ (0 ≤ a20 ∧ a20 < 20) ∧ (0 ≤ c21 ∧ c21 < m 90 22) ∧ (0 ≤ m 90 22 ∧ m 90 22 ≤ 40) ∧ (yCmr m) ∧ (yTxm m) ∧ (∀ (r24 : Int) (g25 : yM), (r24 = ySmm m a20 e22 t23 (Int.toNat c21)) → (yTy zpZ g25) → (yGq m g25) → ((b < 0 → (Y 10 [(3, 90), (1, a), (1, d), (1, e), (1, t), (1, i), (1, r24), (1, (yw (i + 1))), (1, r24)] [] g25)) ∧ (¬ (b < 0) → ((s < r24 → (Y 10 [(3, 90), (1, a), (1, d), (1, e), (1, t), (1, i), (1, r24), (1, (yw (i + 1))), (1, r24)] [] g25)) ∧ (¬ (s < r24) → ((r24 ≠ s → (Y 10 [(3, 90), (1, a), (1, d), (1, e), (1, t), (1, b), (1, s), (1, (yw (i + 1))), (1, r24)] [] g25)) ∧ (¬ (r24 ≠ s) → (((0 : Int) ≤ i ∧ i < ((53 : Nat) : Int)) ∧ (((0 : Int) ≤ b ∧ b < ((53 : Nat) : Int)) ∧ (((g25 91 (Int.toNat b)) ≤ (g25 91 (Int.toNat i)) → (Y 10 [(3, 90), (1, a), (1, d), (1, e), (1, t), (1, b), (1, s), (1, (yw (i + 1))), (1, r24)] [] g25)) ∧ (¬ ((g25 91 (Int.toNat b)) ≤ (g25 91 (Int.toNat i))) → (Y 10 [(3, 90), (1, a), (1, d), (1, e), (1, t), (1, i), (1, r24), (1, (yw (i + 1))), (1, r24)] [] g25)))))))))))))) ∧ (¬ (t ≤ (m 111 (Int.toNat i))) → (Y 10 [(3, 90), (1, a), (1, d), (1, e), (1, t), (1, b), (1, s), (1, (yw (i + 1))), w8] [] m)))))))))))))))))
    refine ⟨fun h1 => ?_, fun h1 => ?_⟩
    · omega
    · refine ⟨(by omega), ?_⟩
      refine ⟨fun h2 => ?_, fun h2 => ?_⟩
      · have yi : yw (i + 1) = i + 1 := yw_s (i + 1) (by omega) (by omega)
        rw [yi]
        refine ih (i + 1) (by omega) (by omega) b s m _ ?_ hT f
        rw [show Int.toNat (i + 1) = Int.toNat i + 1 by omega]
        exact yNp_0 hu (fun z => by obtain ⟨⟨z1, z2, z3, z4⟩, -⟩ := z; omega)
      · refine ⟨fun h3 => ?_, fun h3 => ?_⟩
        · refine ⟨(by omega), ?_⟩
          refine ⟨fun h4 => ?_, fun h4 => ?_⟩
          · have yi : yw (i + 1) = i + 1 := yw_s (i + 1) (by omega) (by omega)
            rw [yi]
            refine ih (i + 1) (by omega) (by omega) b s m _ ?_ hT f
            rw [show Int.toNat (i + 1) = Int.toNat i + 1 by omega]
            exact yNp_0 hu (fun z => by obtain ⟨⟨z1, z2, z3, z4⟩, -⟩ := z; omega)
          · refine ⟨(by omega), ?_⟩
            refine ⟨fun h5 => ?_, fun h5 => ?_⟩
            · refine ⟨_, _, _, _, rfl, (hT), (by omega), (by omega), (by omega), (f.cmr hm), (f.txm hx), ?_⟩
              intro r10 g11 p120 p121 p122
              refine ⟨fun h13 => ?_, fun h13 => ?_⟩
              · have ff := f.tr p122
                have d1 := ff.a 91 (Int.toNat i) (by omega)
                have db := ff.a 91 (Int.toNat b) (by omega)
                rw [ySmm_fr f] at p120
                have el : yEm g d e t (Int.toNat i) := ⟨by omega, by omega, by omega, by omega⟩
                have yi : yw (i + 1) = i + 1 := yw_s (i + 1) (by omega) (by omega)
                rw [yi]
                refine ih (i + 1) (by omega) (by omega) i r10 g11 _ ?_ p121 ff
                rw [show Int.toNat (i + 1) = Int.toNat i + 1 by omega]
                exact yNp_1 hu el p120.symm (by omega) (by omega)
              · refine ⟨fun h14 => ?_, fun h14 => ?_⟩
                · have ff := f.tr p122
                  have d1 := ff.a 91 (Int.toNat i) (by omega)
                  have db := ff.a 91 (Int.toNat b) (by omega)
                  rw [ySmm_fr f] at p120
                  have el : yEm g d e t (Int.toNat i) := ⟨by omega, by omega, by omega, by omega⟩
                  have yi : yw (i + 1) = i + 1 := yw_s (i + 1) (by omega) (by omega)
                  rw [yi]
                  refine ih (i + 1) (by omega) (by omega) i r10 g11 _ ?_ p121 ff
                  rw [show Int.toNat (i + 1) = Int.toNat i + 1 by omega]
                  exact yNp_1 hu el p120.symm (by omega) (by omega)
                · refine ⟨fun h15 => ?_, fun h15 => ?_⟩
                  · have ff := f.tr p122
                    have d1 := ff.a 91 (Int.toNat i) (by omega)
                    have db := ff.a 91 (Int.toNat b) (by omega)
                    rw [ySmm_fr f] at p120
                    have el : yEm g d e t (Int.toNat i) := ⟨by omega, by omega, by omega, by omega⟩
                    have yi : yw (i + 1) = i + 1 := yw_s (i + 1) (by omega) (by omega)
                    rw [yi]
                    refine ih (i + 1) (by omega) (by omega) b s g11 _ ?_ p121 ff
                    rw [show Int.toNat (i + 1) = Int.toNat i + 1 by omega]
                    refine yNp_0 hu (fun z => ?_)
                    have z2 := z.2
                    rw [← p120] at z2
                    have z2 : b < 0 ∨ s < r10 ∨ (r10 = s ∧ g 91 (Int.toNat i) < g 91 (Int.toNat b)) := z2
                    omega
                  · refine ⟨(by
      have ff := f.tr p122
      have d1 := ff.a 91 (Int.toNat i) (by omega)
      have db := ff.a 91 (Int.toNat b) (by omega)
      omega), ?_⟩
                    refine ⟨(by
      have ff := f.tr p122
      have d1 := ff.a 91 (Int.toNat i) (by omega)
      have db := ff.a 91 (Int.toNat b) (by omega)
      omega), ?_⟩
                    refine ⟨fun h16 => ?_, fun h16 => ?_⟩
                    · have ff := f.tr p122
                      have d1 := ff.a 91 (Int.toNat i) (by omega)
                      have db := ff.a 91 (Int.toNat b) (by omega)
                      rw [ySmm_fr f] at p120
                      have el : yEm g d e t (Int.toNat i) := ⟨by omega, by omega, by omega, by omega⟩
                      have yi : yw (i + 1) = i + 1 := yw_s (i + 1) (by omega) (by omega)
                      rw [yi]
                      refine ih (i + 1) (by omega) (by omega) b s g11 _ ?_ p121 ff
                      rw [show Int.toNat (i + 1) = Int.toNat i + 1 by omega]
                      refine yNp_0 hu (fun z => ?_)
                      have z2 := z.2
                      rw [← p120] at z2
                      have z2 : b < 0 ∨ s < r10 ∨ (r10 = s ∧ g 91 (Int.toNat i) < g 91 (Int.toNat b)) := z2
                      omega
                    · have ff := f.tr p122
                      have d1 := ff.a 91 (Int.toNat i) (by omega)
                      have db := ff.a 91 (Int.toNat b) (by omega)
                      rw [ySmm_fr f] at p120
                      have el : yEm g d e t (Int.toNat i) := ⟨by omega, by omega, by omega, by omega⟩
                      have yi : yw (i + 1) = i + 1 := yw_s (i + 1) (by omega) (by omega)
                      rw [yi]
                      refine ih (i + 1) (by omega) (by omega) i r10 g11 _ ?_ p121 ff
                      rw [show Int.toNat (i + 1) = Int.toNat i + 1 by omega]
                      exact yNp_1 hu el p120.symm (by omega) (by omega)
            · have yi : yw (i + 1) = i + 1 := yw_s (i + 1) (by omega) (by omega)
              rw [yi]
              refine ih (i + 1) (by omega) (by omega) b s m _ ?_ hT f
              rw [show Int.toNat (i + 1) = Int.toNat i + 1 by omega]
              exact yNp_0 hu (fun z => by obtain ⟨⟨z1, z2, z3, z4⟩, -⟩ := z; omega)
        · refine ⟨(by omega), ?_⟩
          refine ⟨fun h17 => ?_, fun h17 => ?_⟩
          · have yi : yw (i + 1) = i + 1 := yw_s (i + 1) (by omega) (by omega)
            rw [yi]
            refine ih (i + 1) (by omega) (by omega) b s m _ ?_ hT f
            rw [show Int.toNat (i + 1) = Int.toNat i + 1 by omega]
            exact yNp_0 hu (fun z => by obtain ⟨⟨z1, z2, z3, z4⟩, -⟩ := z; omega)
          · refine ⟨(by omega), ?_⟩
            refine ⟨fun h18 => ?_, fun h18 => ?_⟩
            · have yi : yw (i + 1) = i + 1 := yw_s (i + 1) (by omega) (by omega)
              rw [yi]
              refine ih (i + 1) (by omega) (by omega) b s m _ ?_ hT f
              rw [show Int.toNat (i + 1) = Int.toNat i + 1 by omega]
              exact yNp_0 hu (fun z => by obtain ⟨⟨z1, z2, z3, z4⟩, -⟩ := z; omega)
            · refine ⟨(by omega), ?_⟩
              refine ⟨fun h19 => ?_, fun h19 => ?_⟩
              · refine ⟨_, _, _, _, rfl, (hT), (by omega), (by omega), (by omega), (f.cmr hm), (f.txm hx), ?_⟩
                intro r24 g25 p260 p261 p262
                refine ⟨fun h27 => ?_, fun h27 => ?_⟩
                · have ff := f.tr p262
                  have d1 := ff.a 91 (Int.toNat i) (by omega)
                  have db := ff.a 91 (Int.toNat b) (by omega)
                  rw [ySmm_fr f] at p260
                  have el : yEm g d e t (Int.toNat i) := ⟨by omega, by omega, by omega, by omega⟩
                  have yi : yw (i + 1) = i + 1 := yw_s (i + 1) (by omega) (by omega)
                  rw [yi]
                  refine ih (i + 1) (by omega) (by omega) i r24 g25 _ ?_ p261 ff
                  rw [show Int.toNat (i + 1) = Int.toNat i + 1 by omega]
                  exact yNp_1 hu el p260.symm (by omega) (by omega)
                · refine ⟨fun h28 => ?_, fun h28 => ?_⟩
                  · have ff := f.tr p262
                    have d1 := ff.a 91 (Int.toNat i) (by omega)
                    have db := ff.a 91 (Int.toNat b) (by omega)
                    rw [ySmm_fr f] at p260
                    have el : yEm g d e t (Int.toNat i) := ⟨by omega, by omega, by omega, by omega⟩
                    have yi : yw (i + 1) = i + 1 := yw_s (i + 1) (by omega) (by omega)
                    rw [yi]
                    refine ih (i + 1) (by omega) (by omega) i r24 g25 _ ?_ p261 ff
                    rw [show Int.toNat (i + 1) = Int.toNat i + 1 by omega]
                    exact yNp_1 hu el p260.symm (by omega) (by omega)
                  · refine ⟨fun h29 => ?_, fun h29 => ?_⟩
                    · have ff := f.tr p262
                      have d1 := ff.a 91 (Int.toNat i) (by omega)
                      have db := ff.a 91 (Int.toNat b) (by omega)
                      rw [ySmm_fr f] at p260
                      have el : yEm g d e t (Int.toNat i) := ⟨by omega, by omega, by omega, by omega⟩
                      have yi : yw (i + 1) = i + 1 := yw_s (i + 1) (by omega) (by omega)
                      rw [yi]
                      refine ih (i + 1) (by omega) (by omega) b s g25 _ ?_ p261 ff
                      rw [show Int.toNat (i + 1) = Int.toNat i + 1 by omega]
                      refine yNp_0 hu (fun z => ?_)
                      have z2 := z.2
                      rw [← p260] at z2
                      have z2 : b < 0 ∨ s < r24 ∨ (r24 = s ∧ g 91 (Int.toNat i) < g 91 (Int.toNat b)) := z2
                      omega
                    · refine ⟨(by
      have ff := f.tr p262
      have d1 := ff.a 91 (Int.toNat i) (by omega)
      have db := ff.a 91 (Int.toNat b) (by omega)
      omega), ?_⟩
                      refine ⟨(by
      have ff := f.tr p262
      have d1 := ff.a 91 (Int.toNat i) (by omega)
      have db := ff.a 91 (Int.toNat b) (by omega)
      omega), ?_⟩
                      refine ⟨fun h30 => ?_, fun h30 => ?_⟩
                      · have ff := f.tr p262
                        have d1 := ff.a 91 (Int.toNat i) (by omega)
                        have db := ff.a 91 (Int.toNat b) (by omega)
                        rw [ySmm_fr f] at p260
                        have el : yEm g d e t (Int.toNat i) := ⟨by omega, by omega, by omega, by omega⟩
                        have yi : yw (i + 1) = i + 1 := yw_s (i + 1) (by omega) (by omega)
                        rw [yi]
                        refine ih (i + 1) (by omega) (by omega) b s g25 _ ?_ p261 ff
                        rw [show Int.toNat (i + 1) = Int.toNat i + 1 by omega]
                        refine yNp_0 hu (fun z => ?_)
                        have z2 := z.2
                        rw [← p260] at z2
                        have z2 : b < 0 ∨ s < r24 ∨ (r24 = s ∧ g 91 (Int.toNat i) < g 91 (Int.toNat b)) := z2
                        omega
                      · have ff := f.tr p262
                        have d1 := ff.a 91 (Int.toNat i) (by omega)
                        have db := ff.a 91 (Int.toNat b) (by omega)
                        rw [ySmm_fr f] at p260
                        have el : yEm g d e t (Int.toNat i) := ⟨by omega, by omega, by omega, by omega⟩
                        have yi : yw (i + 1) = i + 1 := yw_s (i + 1) (by omega) (by omega)
                        rw [yi]
                        refine ih (i + 1) (by omega) (by omega) i r24 g25 _ ?_ p261 ff
                        rw [show Int.toNat (i + 1) = Int.toNat i + 1 by omega]
                        exact yNp_1 hu el p260.symm (by omega) (by omega)
              · have yi : yw (i + 1) = i + 1 := yw_s (i + 1) (by omega) (by omega)
                rw [yi]
                refine ih (i + 1) (by omega) (by omega) b s m _ ?_ hT f
                rw [show Int.toNat (i + 1) = Int.toNat i + 1 by omega]
                exact yNp_0 hu (fun z => by obtain ⟨⟨z1, z2, z3, z4⟩, -⟩ := z; omega)
set_option maxRecDepth 8000 in
theorem yv_NXM {K : List yV → yM → Prop} {Y : yNx} {g : yM} {a d e t : Int} (hY : yCl zpD180 (zpZ, zpRS, zpP12, zpMT, [yC_SCM], (71, 2333), 1) K Y) (hr_a : -2147483648 ≤ a ∧ a ≤ 2147483647) (hr_d : -2147483648 ≤ d ∧ d ≤ 2147483647) (hr_e : -2147483648 ≤ e ∧ e ≤ 2147483647) (hr_t : -2147483648 ≤ t ∧ t ≤ 2147483647) (hp0 : yTy zpZ g) (hp1 : 0 ≤ a ∧ a < 20) (hp2 : 0 ≤ g 90 22 ∧ g 90 22 ≤ 40) (hp3 : yCmr g) (hp4 : yTxm g) (hK : ∀ (r : Int) (g' : yM), (∃ s : Int, yNy1 g a d e t (Int.toNat (g 90 22)) r s) → (yTy zpZ g') → (yGq g g') → K [(1, r)] g') : Y 0 [(3, 90), (1, a), (1, d), (1, e), (1, t), (0, 0), (0, 0), (0, 0), (0, 0)] [] g := by
  refine yrun_ok (sp := fun pc => Nat.beq pc 10) hY 7 0 _ [] g ?_
  show (Y 10 [(3, 90), (1, a), (1, d), (1, e), (1, t), (1, (-2)), (1, 0), (1, 0), (0, 0)] [] g)
  exact yl_NXM hY hp0 hp1 hp2 hp3 hp4 (fun b s m h1 h2 h3 => hK b m ⟨s, h1⟩ h2 h3) (Int.toNat (g 90 22)) 0 (by omega) (by decide) (-2) 0 g _ ⟨rfl, rfl⟩ hp0 yGq.rf
theorem yM_NXM {l : Launch} {Ts : List Cond} {cl : List vw_C} {RO : zRO} (H : zHyp Ts cl RO) : yMet l Ts cl zpZ RO zpMT yC_NXM := ymet_of2 H.1 H.2.1 zpDj H.2.2.1 yRb H.p12 (ymets_cons (yM_SCM H) ymets_nil) (zrc1 rfl) (plainFor_of_name zpy12) zpDk180 (fun as g K Y h hA hY => by
  obtain ⟨a, d, e, t, rfl, hp0, hp1, hp2, hp3, hp4, hK⟩ := h
  exact yv_NXM hY (yAr1 hA (by simp)) (yAr1 hA (by simp)) (yAr1 hA (by simp)) (yAr1 hA (by simp)) hp0 hp1 hp2 hp3 hp4 hK)
def yP_DBR : yPT := fun as g K => ∃ (a c : Int), as = [(3, 90), (1, a), (1, c)] ∧ (yTy zpZ g) ∧ (0 ≤ a ∧ a < 20) ∧ (0 ≤ c ∧ c < g 90 22) ∧ (0 ≤ g 90 22 ∧ g 90 22 ≤ 40) ∧ (yCmr g) ∧ (yTxm g) ∧ (∀ (r : Int) (g' : yM), ((r = 1 ∧ yBm g a (Int.toNat c)) ∨ (r = 0 ∧ ¬ yBm g a (Int.toNat c))) → (yTy zpZ g') → (yGq g g') → K [(1, r)] g')
def yC_DBR : yC := (152, (72, 2361), yP_DBR)
set_option maxRecDepth 8000 in
theorem yv_DBR {K : List yV → yM → Prop} {Y : yNx} {g : yM} {a c : Int} (hY : yCl zpD152 (zpZ, zpRS, zpP12, zpMT, [yC_NXM], (72, 2361), 2) K Y) (hr_a : -2147483648 ≤ a ∧ a ≤ 2147483647) (hr_c : -2147483648 ≤ c ∧ c ≤ 2147483647) (hp0 : yTy zpZ g) (hp1 : 0 ≤ a ∧ a < 20) (hp2 : 0 ≤ c ∧ c < g 90 22) (hp3 : 0 ≤ g 90 22 ∧ g 90 22 ≤ 40) (hp4 : yCmr g) (hp5 : yTxm g) (hK : ∀ (r : Int) (g' : yM), ((r = 1 ∧ yBm g a (Int.toNat c)) ∨ (r = 0 ∧ ¬ yBm g a (Int.toNat c))) → (yTy zpZ g') → (yGq g g') → K [(1, r)] g') : Y 0 [(3, 90), (1, a), (1, c)] [] g := by
  refine yrun_ok (sp := fun pc => false) hY 25 0 _ [] g ?_
  show (((0 : Int) ≤ c ∧ c < ((40 : Nat) : Int)) ∧ (((g 110 (Int.toNat c)) < 0 → (((0 : Int) ≤ 0 ∧ 0 ≤ (1 : Int)) ∧ (K [(1, 0)] g))) ∧ (¬ ((g 110 (Int.toNat c)) < 0) → (((0 : Int) ≤ c ∧ c < ((40 : Nat) : Int)) ∧ (((0 : Int) ≤ c ∧ c < ((40 : Nat) : Int)) ∧ (((0 : Int) ≤ c ∧ c < ((40 : Nat) : Int)) ∧ (∃ (a2 d3 e4 t5 : Int), [(3, 90), (1, a), (1, (g 101 (Int.toNat c))), (1, (g 103 (Int.toNat c))), (1, (g 111 (Int.toNat c)))] = [(3, 90), (1, a2), (1, d3), (1, e4), (1, t5)] ∧ (yTy zpZ g) ∧ (0 ≤ a2 ∧ a2 < 20) ∧ (0 ≤ g 90 22 ∧ g 90 22 ≤ 40) ∧ (yCmr g) ∧ (yTxm g) ∧ (∀ (r6 : Int) (g7 : yM), (∃ s : Int, yNy1 g a2 d3 e4 t5 (Int.toNat (g 90 22)) r6 s) → (yTy zpZ g7) → (yGq g g7) → ((r6 = c → (((0 : Int) ≤ 0 ∧ 0 ≤ (1 : Int)) ∧ (K [(1, 0)] g7))) ∧ (¬ (r6 = c) → (((0 : Int) ≤ 1 ∧ 1 ≤ (1 : Int)) ∧ (K [(1, 1)] g7))))))))))))
  refine ⟨(by omega), ?_⟩
  refine ⟨fun h1 => ?_, fun h1 => ?_⟩
  · refine ⟨(by omega), ?_⟩
    refine hK _ _ (Or.inr ⟨rfl, fun z => ?_⟩) hp0 yGq.rf
    have z1 := z.1
    omega
  · refine ⟨(by omega), ?_⟩
    refine ⟨(by omega), ?_⟩
    refine ⟨(by omega), ?_⟩
    refine ⟨_, _, _, _, rfl, (hp0), (by omega), (by omega), (hp4), (hp5), ?_⟩
    intro r6 g7 p80 p81 p82
    refine ⟨fun h9 => ?_, fun h9 => ?_⟩
    · refine ⟨(by omega), ?_⟩
      obtain ⟨s_, q0⟩ := p80
      have q1 := yBm_of q0 (by omega)
      refine hK _ _ (Or.inr ⟨rfl, fun z => q1.mp z (by omega)⟩) p81 p82
    · refine ⟨(by omega), ?_⟩
      obtain ⟨s_, q0⟩ := p80
      have q1 := yBm_of q0 (by omega)
      refine hK _ _ (Or.inl ⟨rfl, q1.mpr (by omega)⟩) p81 p82
theorem yM_DBR {l : Launch} {Ts : List Cond} {cl : List vw_C} {RO : zRO} (H : zHyp Ts cl RO) : yMet l Ts cl zpZ RO zpMT yC_DBR := ymet_of2 H.1 H.2.1 zpDj H.2.2.1 yRb H.p12 (ymets_cons (yM_NXM H) ymets_nil) (zrc2 rfl) (plainFor_of_name zpy12) zpDk152 (fun as g K Y h hA hY => by
  obtain ⟨a, c, rfl, hp0, hp1, hp2, hp3, hp4, hp5, hK⟩ := h
  exact yv_DBR hY (yAr1 hA (by simp)) (yAr1 hA (by simp)) hp0 hp1 hp2 hp3 hp4 hp5 hK)
def yP_MNX : yPT := fun as g K => ∃ (a v t : Int), as = [(3, 90), (1, a), (1, v), (1, t)] ∧ (yTy zpZ g) ∧ (0 ≤ g 90 22 ∧ g 90 22 ≤ 40) ∧ (0 ≤ g 90 6 ∧ g 90 6 ≤ 12) ∧ (∀ n : Nat, (n : Int) < g 90 22 → (0 ≤ g 104 n ∧ g 104 n ≤ 5) ∧ g 102 n ≤ 719) ∧ (yCmr g) ∧ (yTxm g) ∧ (0 ≤ g 90 38 ∧ g 90 38 ≤ 20) ∧ (∀ (r : Int) (g' : yM), (¬ (0 ≤ a ∧ a < g 90 38 ∧ 0 ≤ (yb (fun x y => x / y) v 10) ∧ (yb (fun x y => x / y) v 10) < 4 ∧ 0 ≤ (yb (fun x y => x - x / y * y) v 10) ∧ (yb (fun x y => x - x / y * y) v 10) < 4 ∧ 0 ≤ t ∧ t < 720) → r = -1 ∧ g' = g) → ((0 ≤ a ∧ a < g 90 38 ∧ 0 ≤ (yb (fun x y => x / y) v 10) ∧ (yb (fun x y => x / y) v 10) < 4 ∧ 0 ≤ (yb (fun x y => x - x / y * y) v 10) ∧ (yb (fun x y => x - x / y * y) v 10) < 4 ∧ 0 ≤ t ∧ t < 720) → yTy zpZ g' ∧ ∃ (m : yM) (s : Int), yFd g m ∧ yGq m g' ∧ yNy1 m a (yb (fun x y => x / y) v 10) (yb (fun x y => x - x / y * y) v 10) t (Int.toNat (m 90 22)) r s) → K [(1, r)] g')
def yC_MNX : yC := (179, (72, 2361), yP_MNX)
set_option maxRecDepth 8000 in
theorem yv_MNX {K : List yV → yM → Prop} {Y : yNx} {g : yM} {a v t : Int} (hY : yCl zpD179 (zpZ, zpRS, zpP12, zpMT, [yC_IR, yC_IDY, yC_IDO, yC_IMI, yC_FS, yC_NXM], (72, 2361), 1) K Y) (hr_a : -2147483648 ≤ a ∧ a ≤ 2147483647) (hr_v : -2147483648 ≤ v ∧ v ≤ 2147483647) (hr_t : -2147483648 ≤ t ∧ t ≤ 2147483647) (hp0 : yTy zpZ g) (hp1 : 0 ≤ g 90 22 ∧ g 90 22 ≤ 40) (hp2 : 0 ≤ g 90 6 ∧ g 90 6 ≤ 12) (hp3 : ∀ n : Nat, (n : Int) < g 90 22 → (0 ≤ g 104 n ∧ g 104 n ≤ 5) ∧ g 102 n ≤ 719) (hp4 : yCmr g) (hp5 : yTxm g) (hp6 : 0 ≤ g 90 38 ∧ g 90 38 ≤ 20) (hK : ∀ (r : Int) (g' : yM), (¬ (0 ≤ a ∧ a < g 90 38 ∧ 0 ≤ (yb (fun x y => x / y) v 10) ∧ (yb (fun x y => x / y) v 10) < 4 ∧ 0 ≤ (yb (fun x y => x - x / y * y) v 10) ∧ (yb (fun x y => x - x / y * y) v 10) < 4 ∧ 0 ≤ t ∧ t < 720) → r = -1 ∧ g' = g) → ((0 ≤ a ∧ a < g 90 38 ∧ 0 ≤ (yb (fun x y => x / y) v 10) ∧ (yb (fun x y => x / y) v 10) < 4 ∧ 0 ≤ (yb (fun x y => x - x / y * y) v 10) ∧ (yb (fun x y => x - x / y * y) v 10) < 4 ∧ 0 ≤ t ∧ t < 720) → yTy zpZ g' ∧ ∃ (m : yM) (s : Int), yFd g m ∧ yGq m g' ∧ yNy1 m a (yb (fun x y => x / y) v 10) (yb (fun x y => x - x / y * y) v 10) t (Int.toNat (m 90 22)) r s) → K [(1, r)] g') : Y 0 [(3, 90), (1, a), (1, v), (1, t)] [] g := by
  refine yrun_ok (sp := fun pc => false) hY 32 0 _ [] g ?_
  show (∃ (w1 : Int), [(3, 90), (1, a)] = [(3, 90), (1, w1)] ∧ (0 ≤ g 90 38 ∧ g 90 38 ≤ 20) ∧ (∀ (r2 : Int), ((r2 = 1 ∧ 0 ≤ w1 ∧ w1 < g 90 38) ∨ (r2 = 0 ∧ (w1 < 0 ∨ g 90 38 ≤ w1))) → ((r2 = 0 → (K [(1, (-1))] g)) ∧ (¬ (r2 = 0) → ((v < 0 → (K [(1, (-1))] g)) ∧ (¬ (v < 0) → ((10 : Int) ≠ 0 ∧ (∃ (d6 : Int), [(1, (yb (fun x y => x / y) v 10))] = [(1, d6)] ∧ (∀ (r7 : Int), ((r7 = 1 ∧ 0 ≤ d6 ∧ d6 ≤ 3) ∨ (r7 = 0 ∧ (d6 < 0 ∨ 3 < d6))) → ((r7 = 0 → (K [(1, (-1))] g)) ∧ (¬ (r7 = 0) → ((10 : Int) ≠ 0 ∧ (∃ (d10 : Int), [(1, (yb (fun x y => x - x / y * y) v 10))] = [(1, d10)] ∧ (∀ (r11 : Int), ((r11 = 1 ∧ 0 ≤ d10 ∧ d10 < 4) ∨ (r11 = 0 ∧ (d10 < 0 ∨ 4 ≤ d10))) → ((r11 = 0 → (K [(1, (-1))] g)) ∧ (¬ (r11 = 0) → (∃ (d14 : Int), [(1, t)] = [(1, d14)] ∧ (∀ (r15 : Int), ((r15 = 1 ∧ 0 ≤ d14 ∧ d14 < 720) ∨ (r15 = 0 ∧ (d14 < 0 ∨ 720 ≤ d14))) → ((r15 ≠ 0 → ([(3, 90)] = [(3, 90)] ∧ (yTy zpZ g) ∧ (0 ≤ g 90 22 ∧ g 90 22 ≤ 40) ∧ (0 ≤ g 90 6 ∧ g 90 6 ≤ 12) ∧ (∀ n : Nat, (n : Int) < g 90 22 → (0 ≤ g 104 n ∧ g 104 n ≤ 5) ∧ g 102 n ≤ 719) ∧ (∀ (g18 : yM), (yFd g g18) → ((10 : Int) ≠ 0 ∧ ((10 : Int) ≠ 0 ∧ (∃ (a20 d21 e22 t23 : Int), [(3, 90), (1, a), (1, (yb (fun x y => x / y) v 10)), (1, (yb (fun x y => x - x / y * y) v 10)), (1, t)] = [(3, 90), (1, a20), (1, d21), (1, e22), (1, t23)] ∧ (yTy zpZ g18) ∧ (0 ≤ a20 ∧ a20 < 20) ∧ (0 ≤ g18 90 22 ∧ g18 90 22 ≤ 40) ∧ (yCmr g18) ∧ (yTxm g18) ∧ (∀ (r24 : Int) (g25 : yM), (∃ s : Int, yNy1 g18 a20 d21 e22 t23 (Int.toNat (g18 90 22)) r24 s) → (yTy zpZ g25) → (yGq g18 g25) → (K [(1, r24)] g25)))))))) ∧ (¬ (r15 ≠ 0) → (K [(1, (-1))] g)))))))))))))))))))))
  refine ⟨_, rfl, (by have q1 := yb_rng (fun x y => x / y) v 10; have q2 := yb_rng (fun x y => x - x / y * y) v 10; have q3 := yq10 hr_v; omega), ?_⟩
  intro r2 p30
  refine ⟨fun h4 => ?_, fun h4 => ?_⟩
  · have q1 := yb_rng (fun x y => x / y) v 10
    have q2 := yb_rng (fun x y => x - x / y * y) v 10
    have q3 := yq10 hr_v
    exact hK _ _ (fun _ => ⟨rfl, rfl⟩) (fun h => absurd h (by omega))
  · refine ⟨fun h5 => ?_, fun h5 => ?_⟩
    · have q1 := yb_rng (fun x y => x / y) v 10
      have q2 := yb_rng (fun x y => x - x / y * y) v 10
      have q3 := yq10 hr_v
      exact hK _ _ (fun _ => ⟨rfl, rfl⟩) (fun h => absurd h (by omega))
    · refine ⟨(by have q1 := yb_rng (fun x y => x / y) v 10; have q2 := yb_rng (fun x y => x - x / y * y) v 10; have q3 := yq10 hr_v; omega), ?_⟩
      refine ⟨_, rfl, ?_⟩
      intro r7 p80
      refine ⟨fun h9 => ?_, fun h9 => ?_⟩
      · have q1 := yb_rng (fun x y => x / y) v 10
        have q2 := yb_rng (fun x y => x - x / y * y) v 10
        have q3 := yq10 hr_v
        exact hK _ _ (fun _ => ⟨rfl, rfl⟩) (fun h => absurd h (by omega))
      · refine ⟨(by have q1 := yb_rng (fun x y => x / y) v 10; have q2 := yb_rng (fun x y => x - x / y * y) v 10; have q3 := yq10 hr_v; omega), ?_⟩
        refine ⟨_, rfl, ?_⟩
        intro r11 p120
        refine ⟨fun h13 => ?_, fun h13 => ?_⟩
        · have q1 := yb_rng (fun x y => x / y) v 10
          have q2 := yb_rng (fun x y => x - x / y * y) v 10
          have q3 := yq10 hr_v
          exact hK _ _ (fun _ => ⟨rfl, rfl⟩) (fun h => absurd h (by omega))
        · refine ⟨_, rfl, ?_⟩
          intro r15 p160
          refine ⟨fun h17 => ?_, fun h17 => ?_⟩
          · refine ⟨rfl, (hp0), (by have q1 := yb_rng (fun x y => x / y) v 10; have q2 := yb_rng (fun x y => x - x / y * y) v 10; have q3 := yq10 hr_v; omega), (by have q1 := yb_rng (fun x y => x / y) v 10; have q2 := yb_rng (fun x y => x - x / y * y) v 10; have q3 := yq10 hr_v; omega), (hp3), ?_⟩
            intro g18 p190
            refine ⟨(by have q1 := yb_rng (fun x y => x / y) v 10; have q2 := yb_rng (fun x y => x - x / y * y) v 10; have q3 := yq10 hr_v; have hc0 := p190.c hp1 hp3; omega), ?_⟩
            refine ⟨(by have q1 := yb_rng (fun x y => x / y) v 10; have q2 := yb_rng (fun x y => x - x / y * y) v 10; have q3 := yq10 hr_v; have hc0 := p190.c hp1 hp3; omega), ?_⟩
            refine ⟨_, _, _, _, rfl, (p190.1), (by have q1 := yb_rng (fun x y => x / y) v 10; have q2 := yb_rng (fun x y => x - x / y * y) v 10; have q3 := yq10 hr_v; have hc0 := p190.c hp1 hp3; omega), (by have q1 := yb_rng (fun x y => x / y) v 10; have q2 := yb_rng (fun x y => x - x / y * y) v 10; have q3 := yq10 hr_v; have hc0 := p190.c hp1 hp3; omega), (p190.cmr hp4), (p190.txm hp5), ?_⟩
            intro r24 g25 p260 p261 p262
            have q1 := yb_rng (fun x y => x / y) v 10
            have q2 := yb_rng (fun x y => x - x / y * y) v 10
            have q3 := yq10 hr_v
            obtain ⟨s_, q0⟩ := p260
            exact hK _ _ (fun h => absurd (by omega) h) (fun _ => ⟨p261, _, s_, p190, p262, q0⟩)
          · have q1 := yb_rng (fun x y => x / y) v 10
            have q2 := yb_rng (fun x y => x - x / y * y) v 10
            have q3 := yq10 hr_v
            exact hK _ _ (fun _ => ⟨rfl, rfl⟩) (fun h => absurd h (by omega))
theorem yM_MNX {l : Launch} {Ts : List Cond} {cl : List vw_C} {RO : zRO} (H : zHyp Ts cl RO) : yMet l Ts cl zpZ RO zpMT yC_MNX := ymet_of2 H.1 H.2.1 zpDj H.2.2.1 yRb H.p12 (ymets_cons (yM_IR H) (ymets_cons (yM_IDY H) (ymets_cons (yM_IDO H) (ymets_cons (yM_IMI H) (ymets_cons (yM_FS H) (ymets_cons (yM_NXM H) ymets_nil)))))) (zrc1 rfl) (plainFor_of_name zpy12) zpDk179 (fun as g K Y h hA hY => by
  obtain ⟨a, v, t, rfl, hp0, hp1, hp2, hp3, hp4, hp5, hp6, hK⟩ := h
  exact yv_MNX hY (yAr1 hA (by simp)) (yAr1 hA (by simp)) (yAr1 hA (by simp)) hp0 hp1 hp2 hp3 hp4 hp5 hp6 hK)
def yP_MBR : yPT := fun as g K => ∃ (a d k : Int), as = [(3, 90), (1, a), (1, d), (1, k)] ∧ (yTy zpZ g) ∧ (0 ≤ g 90 22 ∧ g 90 22 ≤ 40) ∧ (0 ≤ g 90 6 ∧ g 90 6 ≤ 12) ∧ (∀ n : Nat, (n : Int) < g 90 22 → (0 ≤ g 104 n ∧ g 104 n ≤ 5) ∧ g 102 n ≤ 719) ∧ (yCmr g) ∧ (yTxm g) ∧ (0 ≤ g 90 38 ∧ g 90 38 ≤ 20) ∧ (∀ (r : Int) (g' : yM), (¬ (0 ≤ a ∧ a < g 90 38 ∧ 0 ≤ d ∧ d < 4 ∧ -1 ≤ k) → r = -1 ∧ g' = g) → ((0 ≤ a ∧ a < g 90 38 ∧ 0 ≤ d ∧ d < 4 ∧ -1 ≤ k) → yTy zpZ g' ∧ ∃ m : yM, yFd g m ∧ yGq m g' ∧ (k = -1 → yTh (fun i => m 101 i = d ∧ yBm m a i) (-1) (Int.toNat (m 90 22)) r) ∧ (k ≠ -1 → yThr (fun i => m 101 i = d ∧ yBm m a i) k (Int.toNat (m 90 22)) r)) → K [(1, r)] g')
def yC_MBR : yC := (141, (73, 2383), yP_MBR)
set_option maxRecDepth 8000 in
theorem yl_MBR {K : List yV → yM → Prop} {Y : yNx} {g : yM} {a d k : Int} (hY : yCl zpD141 (zpZ, zpRS, zpP12, zpMT, [yC_IR, yC_IDY, yC_FS, yC_DBR], (73, 2383), 1) K Y) (hG : yTy zpZ g) (ha : 0 ≤ a ∧ a < 20) (hz : 0 ≤ g 90 22 ∧ g 90 22 ≤ 40) (hm : yCmr g) (hx : yTxm g) (hK : ∀ (r : Int) (m : yM), (k = -1 → yTh (fun i => g 101 i = d ∧ yBm g a i) (-1) (Int.toNat (g 90 22)) r) → (k ≠ -1 → yThr (fun i => g 101 i = d ∧ yBm g a i) k (Int.toNat (g 90 22)) r) → yTy zpZ m → yGq g m → K [(1, r)] m) : ∀ (n : Nat) (i : Int), i + n = g 90 22 → 0 ≤ i → ∀ (u : Int) (m : yM), yTh (fun i => g 101 i = d ∧ yBm g a i) k (Int.toNat i) u → yTy zpZ m → yGq g m → Y 32 [(3, 90), (1, a), (1, d), (1, k), (1, u), (1, i)] [] m := by
  intro n
  induction n with
  | zero =>
    intro i hd h0 u m hu hT f
    have e22 : m 90 22 = g 90 22 := f 90 22 (by decide) (by omega)
    refine yrun_ok (sp := fun pc => Nat.beq pc 32) hY 22 32 _ [] m ?_
    show (((m 90 22) ≤ i → ((k ≠ (-1) → (K [(1, (-1))] m)) ∧ (¬ (k ≠ (-1)) → (K [(1, u)] m)))) ∧ (¬ ((m 90 22) ≤ i) → (((0 : Int) ≤ i ∧ i < ((40 : Nat) : Int)) ∧ (((m 101 (Int.toNat i)) ≠ d → (Y 32 [(3, 90), (1, a), (1, d), (1, k), (1, u), (1, (yw (i + 1)))] [] m)) ∧ (¬ ((m 101 (Int.toNat i)) ≠ d) → (∃ (a4 c5 : Int), [(3, 90), (1, a), (1, i)] = [(3, 90), (1, a4), (1, c5)] ∧ (yTy zpZ m) ∧ (0 ≤ a4 ∧ a4 < 20) ∧ (0 ≤ c5 ∧ c5 < m 90 22) ∧ (0 ≤ m 90 22 ∧ m 90 22 ≤ 40) ∧ (yCmr m) ∧ (yTxm m) ∧ (∀ (r6 : Int) (g7 : yM), ((r6 = 1 ∧ yBm m a4 (Int.toNat c5)) ∨ (r6 = 0 ∧ ¬ yBm m a4 (Int.toNat c5))) → (yTy zpZ g7) → (yGq m g7) → ((r6 = 0 → (Y 32 [(3, 90), (1, a), (1, d), (1, k), (1, u), (1, (yw (i + 1)))] [] g7)) ∧ (¬ (r6 = 0) → ((u ≠ k → (Y 32 [(3, 90), (1, a), (1, d), (1, k), (1, (yw (u + 1))), (1, (yw (i + 1)))] [] g7)) ∧ (¬ (u ≠ k) → (K [(1, i)] g7))))))))))))
    refine ⟨fun h1 => ?_, fun h1 => ?_⟩
    · refine ⟨fun h2 => ?_, fun h2 => ?_⟩
      · obtain rfl : i = g 90 22 := by omega
        exact hK _ m (fun h => absurd h (by omega)) (fun _ => Or.inr ⟨u, hu, rfl⟩) hT f
      · obtain rfl : i = g 90 22 := by omega
        exact hK _ m (fun hk => by rw [hk] at hu; exact hu) (fun h => absurd (by omega) h) hT f
    · refine ⟨(by omega), ?_⟩
      refine ⟨fun h3 => ?_, fun h3 => ?_⟩
      · omega
      · refine ⟨_, _, rfl, (by omega), (by omega), (by omega), (by omega), (by omega), (by omega), ?_⟩
        intro r6 g7 p80 p81 p82
        refine ⟨fun h9 => ?_, fun h9 => ?_⟩
        · omega
        · refine ⟨fun h10 => ?_, fun h10 => ?_⟩
          · omega
          · omega
  | succ n ih =>
    intro i hd h0 u m hu hT f
    have e22 : m 90 22 = g 90 22 := f 90 22 (by decide) (by omega)
    have c0 := f.a 101 (Int.toNat i) (by omega)
    refine yrun_ok (sp := fun pc => Nat.beq pc 32) hY 22 32 _ [] m ?_
    show (((m 90 22) ≤ i → ((k ≠ (-1) → (K [(1, (-1))] m)) ∧ (¬ (k ≠ (-1)) → (K [(1, u)] m)))) ∧ (¬ ((m 90 22) ≤ i) → (((0 : Int) ≤ i ∧ i < ((40 : Nat) : Int)) ∧ (((m 101 (Int.toNat i)) ≠ d → (Y 32 [(3, 90), (1, a), (1, d), (1, k), (1, u), (1, (yw (i + 1)))] [] m)) ∧ (¬ ((m 101 (Int.toNat i)) ≠ d) → (∃ (a4 c5 : Int), [(3, 90), (1, a), (1, i)] = [(3, 90), (1, a4), (1, c5)] ∧ (yTy zpZ m) ∧ (0 ≤ a4 ∧ a4 < 20) ∧ (0 ≤ c5 ∧ c5 < m 90 22) ∧ (0 ≤ m 90 22 ∧ m 90 22 ≤ 40) ∧ (yCmr m) ∧ (yTxm m) ∧ (∀ (r6 : Int) (g7 : yM), ((r6 = 1 ∧ yBm m a4 (Int.toNat c5)) ∨ (r6 = 0 ∧ ¬ yBm m a4 (Int.toNat c5))) → (yTy zpZ g7) → (yGq m g7) → ((r6 = 0 → (Y 32 [(3, 90), (1, a), (1, d), (1, k), (1, u), (1, (yw (i + 1)))] [] g7)) ∧ (¬ (r6 = 0) → ((u ≠ k → (Y 32 [(3, 90), (1, a), (1, d), (1, k), (1, (yw (u + 1))), (1, (yw (i + 1)))] [] g7)) ∧ (¬ (u ≠ k) → (K [(1, i)] g7))))))))))))
    refine ⟨fun h1 => ?_, fun h1 => ?_⟩
    · refine ⟨fun h2 => ?_, fun h2 => ?_⟩
      · omega
      · omega
    · refine ⟨(by omega), ?_⟩
      refine ⟨fun h3 => ?_, fun h3 => ?_⟩
      · have yi : yw (i + 1) = i + 1 := yw_s (i + 1) (by omega) (by omega)
        rw [yi]
        refine ih (i + 1) (by omega) (by omega) u m ?_ hT f
        rw [show Int.toNat (i + 1) = Int.toNat i + 1 by omega]
        exact yTh_0 hu (fun z => by have z1 := z.1; omega)
      · refine ⟨_, _, rfl, (hT), (by omega), (by omega), (by omega), (f.cmr hm), (f.txm hx), ?_⟩
        intro r6 g7 p80 p81 p82
        refine ⟨fun h9 => ?_, fun h9 => ?_⟩
        · have yi : yw (i + 1) = i + 1 := yw_s (i + 1) (by omega) (by omega)
          have al := yBm_fr f a (Int.toNat i)
          rcases p80 with ⟨q1, q2⟩ | ⟨q1, q2⟩
          · omega
          · rw [yi]
            refine ih (i + 1) (by omega) (by omega) _ g7 ?_ p81 (f.tr p82)
            rw [show Int.toNat (i + 1) = Int.toNat i + 1 by omega]
            exact yTh_0 hu (fun z => q2 (al.mpr z.2))
        · refine ⟨fun h10 => ?_, fun h10 => ?_⟩
          · have yi : yw (i + 1) = i + 1 := yw_s (i + 1) (by omega) (by omega)
            have al := yBm_fr f a (Int.toNat i)
            rcases p80 with ⟨q1, q2⟩ | ⟨q1, q2⟩
            · rw [yi]
              refine ih (i + 1) (by omega) (by omega) _ g7 ?_ p81 (f.tr p82)
              rw [show Int.toNat (i + 1) = Int.toNat i + 1 by omega]
              exact yTh_1 hu ⟨by omega, al.mp q2⟩ (by omega)
            · omega
          · have al := yBm_fr f a (Int.toNat i)
            rcases p80 with ⟨q1, q2⟩ | ⟨q1, q2⟩
            · have ek : u = k := by omega
              have hu2 := (yTh_su _ _ hu)
              have nn := (ySu_cnt _ u (by omega) hu2).1
              rw [ek] at hu
              exact hK _ g7 (fun h => absurd h (by omega)) (fun _ => Or.inl ⟨Int.toNat i, by omega, hu, ⟨by omega, al.mp q2⟩, by omega⟩) p81 (f.tr p82)
            · omega
set_option maxRecDepth 8000 in
theorem yv_MBR {K : List yV → yM → Prop} {Y : yNx} {g : yM} {a d k : Int} (hY : yCl zpD141 (zpZ, zpRS, zpP12, zpMT, [yC_IR, yC_IDY, yC_FS, yC_DBR], (73, 2383), 1) K Y) (hr_a : -2147483648 ≤ a ∧ a ≤ 2147483647) (hr_d : -2147483648 ≤ d ∧ d ≤ 2147483647) (hr_k : -2147483648 ≤ k ∧ k ≤ 2147483647) (hp0 : yTy zpZ g) (hp1 : 0 ≤ g 90 22 ∧ g 90 22 ≤ 40) (hp2 : 0 ≤ g 90 6 ∧ g 90 6 ≤ 12) (hp3 : ∀ n : Nat, (n : Int) < g 90 22 → (0 ≤ g 104 n ∧ g 104 n ≤ 5) ∧ g 102 n ≤ 719) (hp4 : yCmr g) (hp5 : yTxm g) (hp6 : 0 ≤ g 90 38 ∧ g 90 38 ≤ 20) (hK : ∀ (r : Int) (g' : yM), (¬ (0 ≤ a ∧ a < g 90 38 ∧ 0 ≤ d ∧ d < 4 ∧ -1 ≤ k) → r = -1 ∧ g' = g) → ((0 ≤ a ∧ a < g 90 38 ∧ 0 ≤ d ∧ d < 4 ∧ -1 ≤ k) → yTy zpZ g' ∧ ∃ m : yM, yFd g m ∧ yGq m g' ∧ (k = -1 → yTh (fun i => m 101 i = d ∧ yBm m a i) (-1) (Int.toNat (m 90 22)) r) ∧ (k ≠ -1 → yThr (fun i => m 101 i = d ∧ yBm m a i) k (Int.toNat (m 90 22)) r)) → K [(1, r)] g') : Y 0 [(3, 90), (1, a), (1, d), (1, k), (0, 0), (0, 0)] [] g := by
  refine yrun_ok (sp := fun pc => Nat.beq pc 32) hY 17 0 _ [] g ?_
  show (∃ (w1 : Int), [(3, 90), (1, a)] = [(3, 90), (1, w1)] ∧ (0 ≤ g 90 38 ∧ g 90 38 ≤ 20) ∧ (∀ (r2 : Int), ((r2 = 1 ∧ 0 ≤ w1 ∧ w1 < g 90 38) ∨ (r2 = 0 ∧ (w1 < 0 ∨ g 90 38 ≤ w1))) → ((r2 = 0 → (K [(1, (-1))] g)) ∧ (¬ (r2 = 0) → (∃ (d5 : Int), [(1, d)] = [(1, d5)] ∧ (∀ (r6 : Int), ((r6 = 1 ∧ 0 ≤ d5 ∧ d5 ≤ 3) ∨ (r6 = 0 ∧ (d5 < 0 ∨ 3 < d5))) → ((r6 = 0 → (K [(1, (-1))] g)) ∧ (¬ (r6 = 0) → (((-1) ≤ k → ([(3, 90)] = [(3, 90)] ∧ (yTy zpZ g) ∧ (0 ≤ g 90 22 ∧ g 90 22 ≤ 40) ∧ (0 ≤ g 90 6 ∧ g 90 6 ≤ 12) ∧ (∀ n : Nat, (n : Int) < g 90 22 → (0 ≤ g 104 n ∧ g 104 n ≤ 5) ∧ g 102 n ≤ 719) ∧ (∀ (g10 : yM), (yFd g g10) → (Y 32 [(3, 90), (1, a), (1, d), (1, k), (1, 0), (1, 0)] [] g10)))) ∧ (¬ ((-1) ≤ k) → (K [(1, (-1))] g)))))))))))
  refine ⟨_, rfl, (by omega), ?_⟩
  intro r2 p30
  refine ⟨fun h4 => ?_, fun h4 => ?_⟩
  · exact hK _ _ (fun _ => ⟨rfl, rfl⟩) (fun h => absurd h (by omega))
  · refine ⟨_, rfl, ?_⟩
    intro r6 p70
    refine ⟨fun h8 => ?_, fun h8 => ?_⟩
    · exact hK _ _ (fun _ => ⟨rfl, rfl⟩) (fun h => absurd h (by omega))
    · refine ⟨fun h9 => ?_, fun h9 => ?_⟩
      · refine ⟨rfl, (hp0), (by omega), (by omega), (hp3), ?_⟩
        intro g10 p110
        have hc0 := p110.c hp1 hp3
        exact yl_MBR (g := g10) hY p110.1 (by omega) hc0.1 (p110.cmr hp4) (p110.txm hp5) (fun r m h1 h2 h3 h4 => hK r m (fun h => absurd (by omega) h) (fun _ => ⟨h3, _, p110, h4, h1, h2⟩)) (Int.toNat (g10 90 22)) 0 (by omega) (by decide) 0 g10 rfl p110.1 yGq.rf
      · exact hK _ _ (fun _ => ⟨rfl, rfl⟩) (fun h => absurd h (by omega))
theorem yM_MBR {l : Launch} {Ts : List Cond} {cl : List vw_C} {RO : zRO} (H : zHyp Ts cl RO) : yMet l Ts cl zpZ RO zpMT yC_MBR := ymet_of2 H.1 H.2.1 zpDj H.2.2.1 yRb H.p12 (ymets_cons (yM_IR H) (ymets_cons (yM_IDY H) (ymets_cons (yM_FS H) (ymets_cons (yM_DBR H) ymets_nil)))) (zrc1 rfl) (plainFor_of_name zpy12) zpDk141 (fun as g K Y h hA hY => by
  obtain ⟨a, d, k, rfl, hp0, hp1, hp2, hp3, hp4, hp5, hp6, hK⟩ := h
  exact yv_MBR hY (yAr1 hA (by simp)) (yAr1 hA (by simp)) (yAr1 hA (by simp)) hp0 hp1 hp2 hp3 hp4 hp5 hp6 hK)
/-- what a rule costs, the reference -/
def yCm (g : yM) (n : Nat) (v : Int) : Prop := ySu (yBm g (n : Int)) (fun _ => 10) (g 117 n) (Int.toNat (g 90 22)) v
def yP_MFI : yPT := fun as g K => ∃ (h : Int), as = [(3, 90), (1, h)] ∧ (yTy zpZ g) ∧ (0 ≤ g 90 22 ∧ g 90 22 ≤ 40) ∧ (0 ≤ g 90 6 ∧ g 90 6 ≤ 12) ∧ (∀ n : Nat, (n : Int) < g 90 22 → (0 ≤ g 104 n ∧ g 104 n ≤ 5) ∧ g 102 n ≤ 719) ∧ (yCmr g) ∧ (yTxm g) ∧ (0 ≤ g 90 38 ∧ g 90 38 ≤ 20) ∧ (∀ (r : Int) (g' : yM), (¬ (0 ≤ h ∧ h < 2) → r = -1 ∧ g' = g) → (0 ≤ h ∧ h < 2 → g 90 38 = 0 → r = -5 ∧ g' = g) → (0 ≤ h ∧ h < 2 → g 90 38 ≠ 0 → yTy zpZ g' ∧ ∃ m : yM, yFd g m ∧ yGq m g' ∧ ∃ b l : Int, yMn (yCm m) (Int.toNat (m 90 38)) b l ∧ (h = 0 → r = b) ∧ (h = 1 → r = l)) → K [(1, r)] g')
def yC_MFI : yC := (158, (73, 2383), yP_MFI)
set_option maxRecDepth 8000 in
theorem yl_MFIj {K : List yV → yM → Prop} {Y : yNx} {g : yM} {h b l j p : Int} (hY : yCl zpD158 (zpZ, zpRS, zpP12, zpMT, [yC_WM, yC_FS, yC_DBR], (73, 2383), 1) K Y) (hG : yTy zpZ g) (ha : 0 ≤ j ∧ j < 20) (hz : 0 ≤ g 90 22 ∧ g 90 22 ≤ 40) (hm : yCmr g) (hx : yTxm g) (hp : -2147483648 ≤ p ∧ p ≤ 2147483647) (hE : ∀ (s : Int) (m : yM), ySu (yBm g j) (fun _ => 10) p (Int.toNat (g 90 22)) s → yTy zpZ m → yGq g m → Y 91 [(3, 90), (1, h), (1, b), (1, l), (1, j), (1, s), (1, g 90 22)] [] m) : ∀ (n : Nat) (i : Int), i + n = g 90 22 → 0 ≤ i → ∀ (s : Int) (m : yM), ySu (yBm g j) (fun _ => 10) p (Int.toNat i) s → yTy zpZ m → yGq g m → Y 54 [(3, 90), (1, h), (1, b), (1, l), (1, j), (1, s), (1, i)] [] m := by
  intro n
  induction n with
  | zero =>
    intro i hd h0 s m hu hT f
    have e22 : m 90 22 = g 90 22 := f 90 22 (by decide) (by omega)
    refine yrun_ok (sp := fun pc => Nat.beq pc 54 || Nat.beq pc 91) hY 17 54 _ [] m ?_
    show (((m 90 22) ≤ i → (Y 91 [(3, 90), (1, h), (1, b), (1, l), (1, j), (1, s), (1, i)] [] m)) ∧ (¬ ((m 90 22) ≤ i) → (∃ (a2 c3 : Int), [(3, 90), (1, j), (1, i)] = [(3, 90), (1, a2), (1, c3)] ∧ (yTy zpZ m) ∧ (0 ≤ a2 ∧ a2 < 20) ∧ (0 ≤ c3 ∧ c3 < m 90 22) ∧ (0 ≤ m 90 22 ∧ m 90 22 ≤ 40) ∧ (yCmr m) ∧ (yTxm m) ∧ (∀ (r4 : Int) (g5 : yM), ((r4 = 1 ∧ yBm m a2 (Int.toNat c3)) ∨ (r4 = 0 ∧ ¬ yBm m a2 (Int.toNat c3))) → (yTy zpZ g5) → (yGq m g5) → ((r4 = 0 → (Y 54 [(3, 90), (1, h), (1, b), (1, l), (1, j), (1, (yw (s + 0))), (1, (yw (i + 1)))] [] g5)) ∧ (¬ (r4 = 0) → (Y 54 [(3, 90), (1, h), (1, b), (1, l), (1, j), (1, (yw (s + 10))), (1, (yw (i + 1)))] [] g5)))))))
    refine ⟨fun h1 => ?_, fun h1 => ?_⟩
    · obtain rfl : i = g 90 22 := by omega
      exact hE s m hu hT f
    · refine ⟨_, _, rfl, (by omega), (by omega), (by omega), (by omega), (by omega), (by omega), ?_⟩
      intro r4 g5 p60 p61 p62
      refine ⟨fun h7 => ?_, fun h7 => ?_⟩
      · omega
      · omega
  | succ n ih =>
    intro i hd h0 s m hu hT f
    have e22 : m 90 22 = g 90 22 := f 90 22 (by decide) (by omega)
    refine yrun_ok (sp := fun pc => Nat.beq pc 54 || Nat.beq pc 91) hY 17 54 _ [] m ?_
    show (((m 90 22) ≤ i → (Y 91 [(3, 90), (1, h), (1, b), (1, l), (1, j), (1, s), (1, i)] [] m)) ∧ (¬ ((m 90 22) ≤ i) → (∃ (a2 c3 : Int), [(3, 90), (1, j), (1, i)] = [(3, 90), (1, a2), (1, c3)] ∧ (yTy zpZ m) ∧ (0 ≤ a2 ∧ a2 < 20) ∧ (0 ≤ c3 ∧ c3 < m 90 22) ∧ (0 ≤ m 90 22 ∧ m 90 22 ≤ 40) ∧ (yCmr m) ∧ (yTxm m) ∧ (∀ (r4 : Int) (g5 : yM), ((r4 = 1 ∧ yBm m a2 (Int.toNat c3)) ∨ (r4 = 0 ∧ ¬ yBm m a2 (Int.toNat c3))) → (yTy zpZ g5) → (yGq m g5) → ((r4 = 0 → (Y 54 [(3, 90), (1, h), (1, b), (1, l), (1, j), (1, (yw (s + 0))), (1, (yw (i + 1)))] [] g5)) ∧ (¬ (r4 = 0) → (Y 54 [(3, 90), (1, h), (1, b), (1, l), (1, j), (1, (yw (s + 10))), (1, (yw (i + 1)))] [] g5)))))))
    refine ⟨fun h1 => ?_, fun h1 => ?_⟩
    · omega
    · refine ⟨_, _, rfl, (hT), (by omega), (by omega), (by omega), (f.cmr hm), (f.txm hx), ?_⟩
      intro r4 g5 p60 p61 p62
      refine ⟨fun h7 => ?_, fun h7 => ?_⟩
      · have yi : yw (i + 1) = i + 1 := yw_s (i + 1) (by omega) (by omega)
        have al := yBm_fr f j (Int.toNat i)
        rcases p60 with ⟨q1, q2⟩ | ⟨q1, q2⟩
        · omega
        · rw [yi]
          refine ih (i + 1) (by omega) (by omega) _ g5 ?_ p61 (f.tr p62)
          rw [show Int.toNat (i + 1) = Int.toNat i + 1 by omega]
          exact ySu_00 hp hu (fun z => q2 (al.mpr z))
      · have yi : yw (i + 1) = i + 1 := yw_s (i + 1) (by omega) (by omega)
        have al := yBm_fr f j (Int.toNat i)
        rcases p60 with ⟨q1, q2⟩ | ⟨q1, q2⟩
        · rw [yi]
          refine ih (i + 1) (by omega) (by omega) _ g5 ?_ p61 (f.tr p62)
          rw [show Int.toNat (i + 1) = Int.toNat i + 1 by omega]
          exact ySu_1 hu (al.mp q2) rfl
        · omega
set_option maxRecDepth 8000 in
theorem yt_MFI {K : List yV → yM → Prop} {Y : yNx} {m : yM} {h b l i s : Int} {w6 : yV} (hY : yCl zpD158 (zpZ, zpRS, zpP12, zpMT, [yC_WM, yC_FS, yC_DBR], (73, 2383), 1) K Y) (hi : 0 ≤ i ∧ i < 20) (hE : ∀ b2 l2 : Int, (((b < 0 ∨ s < l) ∧ b2 = (Int.toNat i : Nat) ∧ l2 = s) ∨ (¬ (b < 0 ∨ s < l) ∧ b2 = b ∧ l2 = l)) → Y 33 [(3, 90), (1, h), (1, b2), (1, l2), (1, i + 1), (1, s), w6] [] m) : Y 91 [(3, 90), (1, h), (1, b), (1, l), (1, i), (1, s), w6] [] m := by
  refine yrun_ok (sp := fun pc => Nat.beq pc 33) hY 12 91 _ [] m ?_
  show ((b < 0 → (Y 33 [(3, 90), (1, h), (1, i), (1, s), (1, (yw (i + 1))), (1, s), w6] [] m)) ∧ (¬ (b < 0) → ((l ≤ s → (Y 33 [(3, 90), (1, h), (1, b), (1, l), (1, (yw (i + 1))), (1, s), w6] [] m)) ∧ (¬ (l ≤ s) → (Y 33 [(3, 90), (1, h), (1, i), (1, s), (1, (yw (i + 1))), (1, s), w6] [] m)))))
  refine ⟨fun h1 => ?_, fun h1 => ?_⟩
  · have yi : yw (i + 1) = i + 1 := yw_s (i + 1) (by omega) (by omega)
    rw [yi]
    exact hE _ _ (Or.inl ⟨by omega, by omega, rfl⟩)
  · refine ⟨fun h2 => ?_, fun h2 => ?_⟩
    · have yi : yw (i + 1) = i + 1 := yw_s (i + 1) (by omega) (by omega)
      rw [yi]
      exact hE _ _ (Or.inr ⟨by omega, rfl, rfl⟩)
    · have yi : yw (i + 1) = i + 1 := yw_s (i + 1) (by omega) (by omega)
      rw [yi]
      exact hE _ _ (Or.inl ⟨by omega, by omega, rfl⟩)
set_option maxRecDepth 8000 in
theorem yl_MFI {K : List yV → yM → Prop} {Y : yNx} {g : yM} {h : Int} (hY : yCl zpD158 (zpZ, zpRS, zpP12, zpMT, [yC_WM, yC_FS, yC_DBR], (73, 2383), 1) K Y) (hG : yTy zpZ g) (hh : 0 ≤ h ∧ h < 2) (hz : 0 ≤ g 90 22 ∧ g 90 22 ≤ 40) (hm : yCmr g) (hx : yTxm g) (hs : 0 ≤ g 90 38 ∧ g 90 38 ≤ 20) (hK : ∀ (r b l : Int) (m : yM), yMn (yCm g) (Int.toNat (g 90 38)) b l → (h = 0 → r = b) → (h = 1 → r = l) → yTy zpZ m → yGq g m → K [(1, r)] m) : ∀ (n : Nat) (i : Int), i + n = g 90 38 → 0 ≤ i → ∀ (b l : Int) (m : yM) (w5 w6 : yV), yMn (yCm g) (Int.toNat i) b l → yTy zpZ m → yGq g m → Y 33 [(3, 90), (1, h), (1, b), (1, l), (1, i), w5, w6] [] m := by
  intro n
  induction n with
  | zero =>
    intro i hd h0 b l m w5 w6 hu hT f
    have e38 : m 90 38 = g 90 38 := f 90 38 (by decide) (by omega)
    have e22 : m 90 22 = g 90 22 := f 90 22 (by decide) (by omega)
    refine yrun_ok (sp := fun pc => Nat.beq pc 33 || Nat.beq pc 54) hY 12 33 _ [] m ?_
    show (((m 90 38) ≤ i → ((h ≠ 0 → (K [(1, l)] m)) ∧ (¬ (h ≠ 0) → (K [(1, b)] m)))) ∧ (¬ ((m 90 38) ≤ i) → (((0 : Int) ≤ i ∧ i < ((20 : Nat) : Int)) ∧ (Y 54 [(3, 90), (1, h), (1, b), (1, l), (1, i), (1, (m 117 (Int.toNat i))), (1, 0)] [] m))))
    refine ⟨fun h1 => ?_, fun h1 => ?_⟩
    · refine ⟨fun h2 => ?_, fun h2 => ?_⟩
      · obtain rfl : i = g 90 38 := by omega
        exact hK _ b l m hu (fun h => absurd h (by omega)) (fun _ => rfl) hT f
      · obtain rfl : i = g 90 38 := by omega
        exact hK _ b l m hu (fun _ => rfl) (fun h => absurd h (by omega)) hT f
    · refine ⟨(by omega), ?_⟩
      omega
  | succ n ih =>
    intro i hd h0 b l m w5 w6 hu hT f
    have e38 : m 90 38 = g 90 38 := f 90 38 (by decide) (by omega)
    have e22 : m 90 22 = g 90 22 := f 90 22 (by decide) (by omega)
    refine yrun_ok (sp := fun pc => Nat.beq pc 33 || Nat.beq pc 54) hY 12 33 _ [] m ?_
    show (((m 90 38) ≤ i → ((h ≠ 0 → (K [(1, l)] m)) ∧ (¬ (h ≠ 0) → (K [(1, b)] m)))) ∧ (¬ ((m 90 38) ≤ i) → (((0 : Int) ≤ i ∧ i < ((20 : Nat) : Int)) ∧ (Y 54 [(3, 90), (1, h), (1, b), (1, l), (1, i), (1, (m 117 (Int.toNat i))), (1, 0)] [] m))))
    refine ⟨fun h1 => ?_, fun h1 => ?_⟩
    · refine ⟨fun h2 => ?_, fun h2 => ?_⟩
      · omega
      · omega
    · refine ⟨(by omega), ?_⟩
      have e117 : m 117 (Int.toNat i) = g 117 (Int.toNat i) := f.a 117 _ (by omega)
      rw [e117]
      have al : ∀ (P : Nat → Prop) (s : Int), True := fun _ _ => trivial
      refine yl_MFIj (g := g) hY hG (by omega) hz hm hx (hG.fA (List.mem_of_getElem? (i := 69) rfl) (by omega)) (fun s m2 h1 h2 h3 => ?_) (Int.toNat (g 90 22)) 0 (by omega) (by decide) _ m rfl hT f
      exact yt_MFI hY (by omega) (fun b2 l2 hq => ih (i + 1) (by omega) (by omega) b2 l2 m2 _ _ (by
        rw [show Int.toNat (i + 1) = Int.toNat i + 1 by omega]
        refine ⟨b, l, s, hu, ?_, hq⟩
        unfold yCm
        rw [show ((Int.toNat i : Nat) : Int) = i by omega]
        exact h1) h2 h3)
set_option maxRecDepth 8000 in
theorem yv_MFI {K : List yV → yM → Prop} {Y : yNx} {g : yM} {h : Int} (hY : yCl zpD158 (zpZ, zpRS, zpP12, zpMT, [yC_WM, yC_FS, yC_DBR], (73, 2383), 1) K Y) (hr_h : -2147483648 ≤ h ∧ h ≤ 2147483647) (hp0 : yTy zpZ g) (hp1 : 0 ≤ g 90 22 ∧ g 90 22 ≤ 40) (hp2 : 0 ≤ g 90 6 ∧ g 90 6 ≤ 12) (hp3 : ∀ n : Nat, (n : Int) < g 90 22 → (0 ≤ g 104 n ∧ g 104 n ≤ 5) ∧ g 102 n ≤ 719) (hp4 : yCmr g) (hp5 : yTxm g) (hp6 : 0 ≤ g 90 38 ∧ g 90 38 ≤ 20) (hK : ∀ (r : Int) (g' : yM), (¬ (0 ≤ h ∧ h < 2) → r = -1 ∧ g' = g) → (0 ≤ h ∧ h < 2 → g 90 38 = 0 → r = -5 ∧ g' = g) → (0 ≤ h ∧ h < 2 → g 90 38 ≠ 0 → yTy zpZ g' ∧ ∃ m : yM, yFd g m ∧ yGq m g' ∧ ∃ b l : Int, yMn (yCm m) (Int.toNat (m 90 38)) b l ∧ (h = 0 → r = b) ∧ (h = 1 → r = l)) → K [(1, r)] g') : Y 0 [(3, 90), (1, h), (0, 0), (0, 0), (0, 0), (0, 0), (0, 0)] [] g := by
  refine yrun_ok (sp := fun pc => Nat.beq pc 33) hY 18 0 _ [] g ?_
  show (∃ (v1 a2 b3 : Int), [(2, h), (2, 0), (2, 1)] = [(2, v1), (2, a2), (2, b3)] ∧ (∀ (r4 : Int), ((r4 = 1 ∧ a2 ≤ v1 ∧ v1 ≤ b3) ∨ (r4 = 0 ∧ (v1 < a2 ∨ b3 < v1))) → ((r4 ≠ 0 → (((g 90 38) ≠ 0 → ([(3, 90)] = [(3, 90)] ∧ (yTy zpZ g) ∧ (0 ≤ g 90 22 ∧ g 90 22 ≤ 40) ∧ (0 ≤ g 90 6 ∧ g 90 6 ≤ 12) ∧ (∀ n : Nat, (n : Int) < g 90 22 → (0 ≤ g 104 n ∧ g 104 n ≤ 5) ∧ g 102 n ≤ 719) ∧ (∀ (g8 : yM), (yFd g g8) → (Y 33 [(3, 90), (1, h), (1, (-1)), (1, 0), (1, 0), (0, 0), (0, 0)] [] g8)))) ∧ (¬ ((g 90 38) ≠ 0) → (K [(1, (-5))] g)))) ∧ (¬ (r4 ≠ 0) → (K [(1, (-1))] g)))))
  refine ⟨_, _, _, rfl, ?_⟩
  intro r4 p50
  refine ⟨fun h6 => ?_, fun h6 => ?_⟩
  · refine ⟨fun h7 => ?_, fun h7 => ?_⟩
    · refine ⟨rfl, (hp0), (by omega), (by omega), (hp3), ?_⟩
      intro g8 p90
      have hc0 := p90.c hp1 hp3
      have e38 : g8 90 38 = g 90 38 := p90.2.1 90 38 (by decide) (by decide)
      exact yl_MFI (g := g8) hY p90.1 (by omega) hc0.1 (p90.cmr hp4) (p90.txm hp5) (by omega) (fun r b l m h1 h2 h3 h4 h5 => hK r m (fun h => absurd (by omega) h) (fun _ h => absurd h (by omega)) (fun _ _ => ⟨h4, _, p90, h5, b, l, h1, h2, h3⟩)) (Int.toNat (g8 90 38)) 0 (by omega) (by decide) (-1) 0 g8 _ _ ⟨rfl, rfl⟩ p90.1 yGq.rf
    · exact hK _ _ (fun h => absurd (by omega) h) (fun _ _ => ⟨rfl, rfl⟩) (fun _ h => absurd (by omega) h)
  · exact hK _ _ (fun _ => ⟨rfl, rfl⟩) (fun h => absurd h (by omega)) (fun h => absurd h (by omega))
theorem yM_MFI {l : Launch} {Ts : List Cond} {cl : List vw_C} {RO : zRO} (H : zHyp Ts cl RO) : yMet l Ts cl zpZ RO zpMT yC_MFI := ymet_of2 H.1 H.2.1 zpDj H.2.2.1 yRb H.p12 (ymets_cons (yM_WM H) (ymets_cons (yM_FS H) (ymets_cons (yM_DBR H) ymets_nil))) (zrc1 rfl) (plainFor_of_name zpy12) zpDk158 (fun as g K Y h hA hY => by
  obtain ⟨h, rfl, hp0, hp1, hp2, hp3, hp4, hp5, hp6, hK⟩ := h
  exact yv_MFI hY (yAr1 hA (by simp)) hp0 hp1 hp2 hp3 hp4 hp5 hp6 hK)
/-- four bits -/
def yB4 (Q : Nat → Prop) (v : Int) : Prop := ∃ n : Nat, n < 16 ∧ v = n ∧ ∀ d : Nat, d < 4 → (Q d ↔ n.testBit d = true)
theorem yB4_s {n d : Nat} (hn : n < 16) (hd : d < 4) : yb (fun x y => x ||| y) (n : Int) (yb (fun x y => x <<< (y &&& 31)) 1 (d : Int)) = ((n ||| 1 <<< d : Nat) : Int) ∧ (n ||| 1 <<< d) < 16 ∧ ∀ e : Nat, e < 4 → ((n ||| 1 <<< d).testBit e = true ↔ (n.testBit e = true ∨ e = d)) := by
  have key : ∀ n : Fin 16, ∀ d : Fin 4, yb (fun x y => x ||| y) ((n.val : Nat) : Int) (yb (fun x y => x <<< (y &&& 31)) 1 ((d.val : Nat) : Int)) = ((n.val ||| 1 <<< d.val : Nat) : Int) ∧ (n.val ||| 1 <<< d.val) < 16 ∧ ∀ e : Fin 4, ((n.val ||| 1 <<< d.val).testBit e.val = true ↔ (n.val.testBit e.val = true ∨ e.val = d.val)) := by decide +kernel
  obtain ⟨k1, k2, k3⟩ := key ⟨n, hn⟩ ⟨d, hd⟩
  exact ⟨k1, k2, fun e he => k3 ⟨e, he⟩⟩
theorem yB4_0 {n : Nat} (hn : n < 16) : yb (fun x y => x ||| y) (n : Int) 0 = (n : Int) := by
  have key : ∀ n : Fin 16, yb (fun x y => x ||| y) ((n.val : Nat) : Int) 0 = ((n.val : Nat) : Int) := by decide +kernel
  exact key ⟨n, hn⟩
theorem yB4_n {n k : Nat} (hn : n < 16) (hk : k < 16) : yb (fun x y => x &&& y) (n : Int) (yb (fun x y => x ^^^ y) (k : Int) (-1)) = ((n &&& (15 - k) : Nat) : Int) ∧ (n &&& (15 - k)) < 16 ∧ ∀ e : Nat, e < 4 → ((n &&& (15 - k)).testBit e = true ↔ (n.testBit e = true ∧ ¬ k.testBit e = true)) := by
  have key : ∀ n : Fin 16, ∀ k : Fin 16, yb (fun x y => x &&& y) ((n.val : Nat) : Int) (yb (fun x y => x ^^^ y) ((k.val : Nat) : Int) (-1)) = ((n.val &&& (15 - k.val) : Nat) : Int) ∧ (n.val &&& (15 - k.val)) < 16 ∧ ∀ e : Fin 4, ((n.val &&& (15 - k.val)).testBit e.val = true ↔ (n.val.testBit e.val = true ∧ ¬ k.val.testBit e.val = true)) := by decide +kernel
  obtain ⟨k1, k2, k3⟩ := key ⟨n, hn⟩ ⟨k, hk⟩
  exact ⟨k1, k2, fun e he => k3 ⟨e, he⟩⟩
theorem yB4.zero : yB4 (fun _ => False) 0 := ⟨0, by decide, rfl, fun d _ => by
  rw [Nat.zero_testBit]
  exact ⟨fun z => z.elim, fun z => by cases z⟩⟩
theorem yB4.one {P Q : Nat → Prop} {u x : Int} (h : yB4 P u) (hx : 0 ≤ x ∧ x < 4) (hQ : ∀ d : Nat, Q d ↔ (P d ∨ (d : Int) = x)) : yB4 Q (yb (fun x y => x ||| y) u (yb (fun x y => x <<< (y &&& 31)) 1 x)) := by
  obtain ⟨n, n1, rfl, n3⟩ := h
  obtain ⟨d, rfl⟩ : ∃ d : Nat, x = d := ⟨Int.toNat x, by omega⟩
  obtain ⟨k1, k2, k3⟩ := yB4_s n1 (show d < 4 by omega)
  refine ⟨_, k2, k1, fun e he => ?_⟩
  rw [k3 e he, hQ e, n3 e he]
  exact or_congr Iff.rfl ⟨fun z => by omega, fun z => by omega⟩
theorem yB4.nil {P Q : Nat → Prop} {u : Int} (h : yB4 P u) (hQ : ∀ d : Nat, Q d ↔ P d) : yB4 Q (yb (fun x y => x ||| y) u 0) := by
  obtain ⟨n, n1, rfl, n3⟩ := h
  exact ⟨n, n1, yB4_0 n1, fun d hd => (hQ d).trans (n3 d hd)⟩
theorem yB4.cng {P Q : Nat → Prop} {u : Int} (h : yB4 P u) (hQ : ∀ d : Nat, d < 4 → (Q d ↔ P d)) : yB4 Q u := by
  obtain ⟨n, n1, n2, n3⟩ := h
  exact ⟨n, n1, n2, fun d hd => (hQ d hd).trans (n3 d hd)⟩
theorem yB4.dif {P Q R : Nat → Prop} {u v : Int} (h : yB4 P u) (h2 : yB4 Q v) (hR : ∀ d : Nat, d < 4 → (R d ↔ (P d ∧ ¬ Q d))) : yB4 R (yb (fun x y => x &&& y) u (yb (fun x y => x ^^^ y) v (-1))) := by
  obtain ⟨n, n1, rfl, n3⟩ := h
  obtain ⟨k, k1, rfl, k3⟩ := h2
  obtain ⟨a1, a2, a3⟩ := yB4_n n1 k1
  refine ⟨_, a2, a1, fun d hd => ?_⟩
  rw [hR d hd, a3 d hd, n3 d hd, k3 d hd]
theorem yB4_u {P Q : Nat → Prop} {u v : Int} (h : yB4 P u) (h2 : yB4 Q v) (hP : ∀ d : Nat, d < 4 → (P d ↔ Q d)) : u = v := by
  obtain ⟨n, n1, rfl, n3⟩ := h
  obtain ⟨k, k1, rfl, k3⟩ := h2
  have key : ∀ n k : Fin 16, (∀ d : Fin 4, (n.val.testBit d.val = true ↔ k.val.testBit d.val = true)) → n = k := by decide +kernel
  have e := key ⟨n, n1⟩ ⟨k, k1⟩ (fun d => (n3 d.val d.isLt).symm.trans ((hP d.val d.isLt).trans (k3 d.val d.isLt)))
  have e2 : n = k := congrArg Fin.val e
  rw [e2]
/-- the class's bits are four, too -/
theorem yKb_4 {Q : Nat → Prop} : ∀ (n : Nat) (v : Int), n ≤ 4 → yKb Q n v → yB4 (fun d => d < n ∧ Q d) v
  | 0, v, _, h => by
    have h : v = 0 := h
    rw [h]
    exact yB4.zero.cng (fun d _ => ⟨fun z => absurd z.1 (Nat.not_lt_zero d), fun z => z.elim⟩)
  | n + 1, v, hn, h => by
    obtain ⟨u, h1, h2⟩ := h
    have ih := yKb_4 n u (by omega) h1
    rcases h2 with ⟨q, rfl⟩ | ⟨q, rfl⟩
    · refine ih.one ⟨by omega, by omega⟩ (fun d => ?_)
      constructor
      · intro z
        by_cases e : d = n
        · exact Or.inr (by omega)
        · exact Or.inl ⟨by omega, z.2⟩
      · intro z
        rcases z with z | z
        · exact ⟨by omega, z.2⟩
        · have e : d = n := by omega
          rw [e]
          exact ⟨by omega, q⟩
    · refine ih.cng (fun d _ => ⟨fun z => ?_, fun z => ⟨by omega, z.2⟩⟩)
      by_cases e : d = n
      · rw [e] at z
        exact absurd z.2 q
      · exact ⟨by omega, z.2⟩
def yP_MKP : yPT := fun as g K => ∃ (a : Int), as = [(3, 90), (1, a)] ∧ (yTy zpZ g) ∧ (0 ≤ g 90 22 ∧ g 90 22 ≤ 40) ∧ (0 ≤ g 90 6 ∧ g 90 6 ≤ 12) ∧ (∀ n : Nat, (n : Int) < g 90 22 → (0 ≤ g 104 n ∧ g 104 n ≤ 5) ∧ g 102 n ≤ 719) ∧ (yCmr g) ∧ (yTxm g) ∧ (0 ≤ g 90 38 ∧ g 90 38 ≤ 20) ∧ (∀ n : Nat, (n : Int) < g 90 22 → 0 ≤ g 101 n ∧ g 101 n < 4) ∧ (∀ (r : Int) (g' : yM), (¬ (0 ≤ a ∧ a < g 90 38) → r = -1 ∧ g' = g) → ((0 ≤ a ∧ a < g 90 38) → yTy zpZ g' ∧ ∃ (m : yM) (u v : Int), yFd g m ∧ yGq m g' ∧ yB4 (fun d => ∃ b9 : Nat, (b9 : Int) < m 90 22 ∧ m 101 b9 = d) u ∧ yB4 (fun d => ∃ b9 : Nat, (b9 : Int) < m 90 22 ∧ m 101 b9 = d ∧ yBm m a b9) v ∧ r = yb (fun x y => x &&& y) u (yb (fun x y => x ^^^ y) v (-1))) → K [(1, r)] g')
def yC_MKP : yC := (173, (73, 2383), yP_MKP)
set_option maxRecDepth 8000 in
theorem yl_MKP {K : List yV → yM → Prop} {Y : yNx} {g : yM} {a : Int} (hY : yCl zpD173 (zpZ, zpRS, zpP12, zpMT, [yC_IR, yC_FS, yC_DBR], (73, 2383), 1) K Y) (hG : yTy zpZ g) (ha : 0 ≤ a ∧ a < 20) (hz : 0 ≤ g 90 22 ∧ g 90 22 ≤ 40) (hm : yCmr g) (hx : yTxm g) (hd4 : ∀ n : Nat, (n : Int) < g 90 22 → 0 ≤ g 101 n ∧ g 101 n < 4) (hK : ∀ (u v : Int) (m : yM), yB4 (fun d => ∃ b9 : Nat, (b9 : Int) < g 90 22 ∧ g 101 b9 = d) u → yB4 (fun d => ∃ b9 : Nat, (b9 : Int) < g 90 22 ∧ g 101 b9 = d ∧ yBm g a b9) v → yTy zpZ m → yGq g m → K [(1, yb (fun x y => x &&& y) u (yb (fun x y => x ^^^ y) v (-1)))] m) : ∀ (n : Nat) (i : Int), i + n = g 90 22 → 0 ≤ i → ∀ (u v : Int) (m : yM), (yB4 (fun d => ∃ b9 : Nat, (b9 : Int) < i ∧ g 101 b9 = d) u ∧ yB4 (fun d => ∃ b9 : Nat, (b9 : Int) < i ∧ g 101 b9 = d ∧ yBm g a b9) v) → yTy zpZ m → yGq g m → Y 21 [(3, 90), (1, a), (1, u), (1, v), (1, i)] [] m := by
  intro n
  induction n with
  | zero =>
    intro i hd h0 u v m hu hT f
    have e22 : m 90 22 = g 90 22 := f 90 22 (by decide) (by omega)
    refine yrun_ok (sp := fun pc => Nat.beq pc 21) hY 31 21 _ [] m ?_
    show (((m 90 22) ≤ i → (K [(1, (yb (fun x y => x &&& y) u (yb (fun x y => x ^^^ y) v (-1))))] m)) ∧ (¬ ((m 90 22) ≤ i) → (((0 : Int) ≤ i ∧ i < ((40 : Nat) : Int)) ∧ (∃ (a2 c3 : Int), [(3, 90), (1, a), (1, i)] = [(3, 90), (1, a2), (1, c3)] ∧ (yTy zpZ m) ∧ (0 ≤ a2 ∧ a2 < 20) ∧ (0 ≤ c3 ∧ c3 < m 90 22) ∧ (0 ≤ m 90 22 ∧ m 90 22 ≤ 40) ∧ (yCmr m) ∧ (yTxm m) ∧ (∀ (r4 : Int) (g5 : yM), ((r4 = 1 ∧ yBm m a2 (Int.toNat c3)) ∨ (r4 = 0 ∧ ¬ yBm m a2 (Int.toNat c3))) → (yTy zpZ g5) → (yGq m g5) → ((r4 = 0 → (Y 21 [(3, 90), (1, a), (1, (yb (fun x y => x ||| y) u (yb (fun x y => x <<< (y &&& 31)) 1 (m 101 (Int.toNat i))))), (1, (yb (fun x y => x ||| y) v 0)), (1, (yw (i + 1)))] [] g5)) ∧ (¬ (r4 = 0) → (((0 : Int) ≤ i ∧ i < ((40 : Nat) : Int)) ∧ (Y 21 [(3, 90), (1, a), (1, (yb (fun x y => x ||| y) u (yb (fun x y => x <<< (y &&& 31)) 1 (m 101 (Int.toNat i))))), (1, (yb (fun x y => x ||| y) v (yb (fun x y => x <<< (y &&& 31)) 1 (g5 101 (Int.toNat i))))), (1, (yw (i + 1)))] [] g5)))))))))
    refine ⟨fun h1 => ?_, fun h1 => ?_⟩
    · obtain rfl : i = g 90 22 := by omega
      exact hK u v m hu.1 hu.2 hT f
    · refine ⟨(by omega), ?_⟩
      refine ⟨_, _, rfl, (by omega), (by omega), (by omega), (by omega), (by omega), (by omega), ?_⟩
      intro r4 g5 p60 p61 p62
      refine ⟨fun h7 => ?_, fun h7 => ?_⟩
      · omega
      · refine ⟨(by omega), ?_⟩
        omega
  | succ n ih =>
    intro i hd h0 u v m hu hT f
    have e22 : m 90 22 = g 90 22 := f 90 22 (by decide) (by omega)
    have c0 := f.a 101 (Int.toNat i) (by omega)
    refine yrun_ok (sp := fun pc => Nat.beq pc 21) hY 31 21 _ [] m ?_
    show (((m 90 22) ≤ i → (K [(1, (yb (fun x y => x &&& y) u (yb (fun x y => x ^^^ y) v (-1))))] m)) ∧ (¬ ((m 90 22) ≤ i) → (((0 : Int) ≤ i ∧ i < ((40 : Nat) : Int)) ∧ (∃ (a2 c3 : Int), [(3, 90), (1, a), (1, i)] = [(3, 90), (1, a2), (1, c3)] ∧ (yTy zpZ m) ∧ (0 ≤ a2 ∧ a2 < 20) ∧ (0 ≤ c3 ∧ c3 < m 90 22) ∧ (0 ≤ m 90 22 ∧ m 90 22 ≤ 40) ∧ (yCmr m) ∧ (yTxm m) ∧ (∀ (r4 : Int) (g5 : yM), ((r4 = 1 ∧ yBm m a2 (Int.toNat c3)) ∨ (r4 = 0 ∧ ¬ yBm m a2 (Int.toNat c3))) → (yTy zpZ g5) → (yGq m g5) → ((r4 = 0 → (Y 21 [(3, 90), (1, a), (1, (yb (fun x y => x ||| y) u (yb (fun x y => x <<< (y &&& 31)) 1 (m 101 (Int.toNat i))))), (1, (yb (fun x y => x ||| y) v 0)), (1, (yw (i + 1)))] [] g5)) ∧ (¬ (r4 = 0) → (((0 : Int) ≤ i ∧ i < ((40 : Nat) : Int)) ∧ (Y 21 [(3, 90), (1, a), (1, (yb (fun x y => x ||| y) u (yb (fun x y => x <<< (y &&& 31)) 1 (m 101 (Int.toNat i))))), (1, (yb (fun x y => x ||| y) v (yb (fun x y => x <<< (y &&& 31)) 1 (g5 101 (Int.toNat i))))), (1, (yw (i + 1)))] [] g5)))))))))
    refine ⟨fun h1 => ?_, fun h1 => ?_⟩
    · omega
    · refine ⟨(by omega), ?_⟩
      refine ⟨_, _, rfl, (hT), (by omega), (by omega), (by omega), (f.cmr hm), (f.txm hx), ?_⟩
      intro r4 g5 p60 p61 p62
      refine ⟨fun h7 => ?_, fun h7 => ?_⟩
      · have yi : yw (i + 1) = i + 1 := yw_s (i + 1) (by omega) (by omega)
        have al := yBm_fr f a (Int.toNat i)
        have dd := hd4 (Int.toNat i) (by omega)
        have c02 := (f.tr p62).a 101 (Int.toNat i) (by omega)
        rcases p60 with ⟨q1, q2⟩ | ⟨q1, q2⟩
        · omega
        · rw [yi]
          rw [c0]
          refine ih (i + 1) (by omega) (by omega) _ _ g5 ⟨(hu.1.one (x := g 101 (Int.toNat i)) dd (fun d => ⟨fun ⟨j, j1, j2⟩ => (by
              by_cases e : (j : Int) < i
              · exact Or.inl ⟨j, e, j2⟩
              · exact Or.inr (by rw [show j = Int.toNat i by omega] at j2; exact j2.symm)), fun z => z.elim (fun ⟨j, j1, j2⟩ => ⟨j, by omega, j2⟩) (fun z => ⟨Int.toNat i, by omega, z.symm⟩)⟩)), (hu.2.nil (fun d => ⟨fun ⟨j, j1, j2⟩ => (by
              by_cases e : (j : Int) < i
              · exact ⟨j, e, j2⟩
              · exact absurd (al.mpr (by rw [show j = Int.toNat i by omega] at j2; exact j2.2)) q2), fun ⟨j, j1, j2⟩ => ⟨j, by omega, j2⟩⟩))⟩ p61 (f.tr p62)
      · refine ⟨(by omega), ?_⟩
        have yi : yw (i + 1) = i + 1 := yw_s (i + 1) (by omega) (by omega)
        have al := yBm_fr f a (Int.toNat i)
        have dd := hd4 (Int.toNat i) (by omega)
        have c02 := (f.tr p62).a 101 (Int.toNat i) (by omega)
        rcases p60 with ⟨q1, q2⟩ | ⟨q1, q2⟩
        · rw [yi, c02]
          rw [c0]
          refine ih (i + 1) (by omega) (by omega) _ _ g5 ⟨(hu.1.one (x := g 101 (Int.toNat i)) dd (fun d => ⟨fun ⟨j, j1, j2⟩ => (by
              by_cases e : (j : Int) < i
              · exact Or.inl ⟨j, e, j2⟩
              · exact Or.inr (by rw [show j = Int.toNat i by omega] at j2; exact j2.symm)), fun z => z.elim (fun ⟨j, j1, j2⟩ => ⟨j, by omega, j2⟩) (fun z => ⟨Int.toNat i, by omega, z.symm⟩)⟩)), (hu.2.one (x := g 101 (Int.toNat i)) dd (fun d => ⟨fun ⟨j, j1, j2⟩ => (by
              by_cases e : (j : Int) < i
              · exact Or.inl ⟨j, e, j2⟩
              · exact Or.inr (by rw [show j = Int.toNat i by omega] at j2; exact j2.1.symm)), fun z => z.elim (fun ⟨j, j1, j2⟩ => ⟨j, by omega, j2⟩) (fun z => ⟨Int.toNat i, by omega, z.symm, al.mp q2⟩)⟩))⟩ p61 (f.tr p62)
        · omega
set_option maxRecDepth 8000 in
theorem yv_MKP {K : List yV → yM → Prop} {Y : yNx} {g : yM} {a : Int} (hY : yCl zpD173 (zpZ, zpRS, zpP12, zpMT, [yC_IR, yC_FS, yC_DBR], (73, 2383), 1) K Y) (hr_a : -2147483648 ≤ a ∧ a ≤ 2147483647) (hp0 : yTy zpZ g) (hp1 : 0 ≤ g 90 22 ∧ g 90 22 ≤ 40) (hp2 : 0 ≤ g 90 6 ∧ g 90 6 ≤ 12) (hp3 : ∀ n : Nat, (n : Int) < g 90 22 → (0 ≤ g 104 n ∧ g 104 n ≤ 5) ∧ g 102 n ≤ 719) (hp4 : yCmr g) (hp5 : yTxm g) (hp6 : 0 ≤ g 90 38 ∧ g 90 38 ≤ 20) (hp7 : ∀ n : Nat, (n : Int) < g 90 22 → 0 ≤ g 101 n ∧ g 101 n < 4) (hK : ∀ (r : Int) (g' : yM), (¬ (0 ≤ a ∧ a < g 90 38) → r = -1 ∧ g' = g) → ((0 ≤ a ∧ a < g 90 38) → yTy zpZ g' ∧ ∃ (m : yM) (u v : Int), yFd g m ∧ yGq m g' ∧ yB4 (fun d => ∃ b9 : Nat, (b9 : Int) < m 90 22 ∧ m 101 b9 = d) u ∧ yB4 (fun d => ∃ b9 : Nat, (b9 : Int) < m 90 22 ∧ m 101 b9 = d ∧ yBm m a b9) v ∧ r = yb (fun x y => x &&& y) u (yb (fun x y => x ^^^ y) v (-1))) → K [(1, r)] g') : Y 0 [(3, 90), (1, a), (0, 0), (0, 0), (0, 0)] [] g := by
  refine yrun_ok (sp := fun pc => Nat.beq pc 21) hY 13 0 _ [] g ?_
  show (∃ (w1 : Int), [(3, 90), (1, a)] = [(3, 90), (1, w1)] ∧ (0 ≤ g 90 38 ∧ g 90 38 ≤ 20) ∧ (∀ (r2 : Int), ((r2 = 1 ∧ 0 ≤ w1 ∧ w1 < g 90 38) ∨ (r2 = 0 ∧ (w1 < 0 ∨ g 90 38 ≤ w1))) → ((r2 ≠ 0 → ([(3, 90)] = [(3, 90)] ∧ (yTy zpZ g) ∧ (0 ≤ g 90 22 ∧ g 90 22 ≤ 40) ∧ (0 ≤ g 90 6 ∧ g 90 6 ≤ 12) ∧ (∀ n : Nat, (n : Int) < g 90 22 → (0 ≤ g 104 n ∧ g 104 n ≤ 5) ∧ g 102 n ≤ 719) ∧ (∀ (g5 : yM), (yFd g g5) → (Y 21 [(3, 90), (1, a), (1, 0), (1, 0), (1, 0)] [] g5)))) ∧ (¬ (r2 ≠ 0) → (K [(1, (-1))] g)))))
  refine ⟨_, rfl, (by omega), ?_⟩
  intro r2 p30
  refine ⟨fun h4 => ?_, fun h4 => ?_⟩
  · refine ⟨rfl, (hp0), (by omega), (by omega), (hp3), ?_⟩
    intro g5 p60
    have hc0 := p60.c hp1 hp3
    have e22 : g5 90 22 = g 90 22 := p60.2.1 90 22 (by decide) (by decide)
    exact yl_MKP (g := g5) hY p60.1 (by omega) hc0.1 (p60.cmr hp4) (p60.txm hp5) (fun n hn => by rw [p60.2.1 101 n (by decide) (by decide)]; exact hp7 n (by omega)) (fun u v m h1 h2 h3 h4 => hK _ m (fun h => absurd (by omega) h) (fun _ => ⟨h3, _, u, v, p60, h4, h1, h2, rfl⟩)) (Int.toNat (g5 90 22)) 0 (by omega) (by decide) 0 0 g5 ⟨yB4.zero.cng (fun d _ => ⟨fun ⟨j, j1, j2⟩ => absurd j1 (by omega), fun z => z.elim⟩), yB4.zero.cng (fun d _ => ⟨fun ⟨j, j1, j2⟩ => absurd j1 (by omega), fun z => z.elim⟩)⟩ p60.1 yGq.rf
  · exact hK _ _ (fun _ => ⟨rfl, rfl⟩) (fun h => absurd h (by omega))
theorem yM_MKP {l : Launch} {Ts : List Cond} {cl : List vw_C} {RO : zRO} (H : zHyp Ts cl RO) : yMet l Ts cl zpZ RO zpMT yC_MKP := ymet_of2 H.1 H.2.1 zpDj H.2.2.1 yRb H.p12 (ymets_cons (yM_IR H) (ymets_cons (yM_FS H) (ymets_cons (yM_DBR H) ymets_nil))) (zrc1 rfl) (plainFor_of_name zpy12) zpDk173 (fun as g K Y h hA hY => by
  obtain ⟨a, rfl, hp0, hp1, hp2, hp3, hp4, hp5, hp6, hp7, hK⟩ := h
  exact yv_MKP hY (yAr1 hA (by simp)) hp0 hp1 hp2 hp3 hp4 hp5 hp6 hp7 hK)
