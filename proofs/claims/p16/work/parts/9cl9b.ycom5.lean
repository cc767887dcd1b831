/-! A COMER COMES: THE REFERENCE -/
/-- the reference takes one in -/
def yadd (g : yM) : yM := (yset (yset (yset (yset (yset (yset (yset (yset (yset (yset g 91 (Int.toNat (g 90 22)) (g 109 0)) 102 (Int.toNat (g 90 22)) (g 109 1)) 103 (Int.toNat (g 90 22)) (g 109 2)) 104 (Int.toNat (g 90 22)) (g 109 3)) 105 (Int.toNat (g 90 22)) (g 109 4)) 106 (Int.toNat (g 90 22)) (g 109 5)) 107 (Int.toNat (g 90 22)) (g 109 6)) 101 (Int.toNat (g 90 22)) (g 90 10)) 108 (Int.toNat (g 90 22)) (-1)) 90 22 (g 90 22 + 1))
theorem yadd_nc {g : yM} {a b : Nat} (h : ¬ ((a = 91 ∨ (101 ≤ a ∧ a ≤ 108)) ∧ b = Int.toNat (g 90 22)) ∧ ¬ (a = 90 ∧ b = 22)) : yadd g a b = g a b := by
  unfold yadd
  rw [yset_ne (by omega), yset_ne (by omega), yset_ne (by omega), yset_ne (by omega), yset_ne (by omega), yset_ne (by omega), yset_ne (by omega), yset_ne (by omega), yset_ne (by omega), yset_ne (by omega)]
theorem yadd_22 (g : yM) : yadd g 90 22 = g 90 22 + 1 := yset_eq
theorem yadd_v (g : yM) : yadd g 91 (Int.toNat (g 90 22)) = g 109 0 ∧ yadd g 102 (Int.toNat (g 90 22)) = g 109 1 ∧ yadd g 103 (Int.toNat (g 90 22)) = g 109 2 ∧ yadd g 104 (Int.toNat (g 90 22)) = g 109 3 ∧ yadd g 105 (Int.toNat (g 90 22)) = g 109 4 ∧ yadd g 106 (Int.toNat (g 90 22)) = g 109 5 ∧ yadd g 107 (Int.toNat (g 90 22)) = g 109 6 ∧ yadd g 101 (Int.toNat (g 90 22)) = g 90 10 ∧ yadd g 108 (Int.toNat (g 90 22)) = -1 := by
  unfold yadd
  refine ⟨?_, ?_, ?_, ?_, ?_, ?_, ?_, ?_, ?_⟩ <;> simp only [yset_nc, ne_eq, Nat.reduceEqDiff, not_false_eq_true, yset_eq]
theorem yadd_ty {g : yM} (h : yTy zpZ g) (h1 : 0 ≤ g 90 22 ∧ g 90 22 < 40) (h3 : 0 ≤ g 109 3 ∧ g 109 3 ≤ 5) : yTy zpZ (yadd g) := by
  have r := fun j (hj : j < 7) => h.fA (j := j) (List.mem_of_getElem? (i := 61) rfl) hj
  have hd := h.fO (j := 10) (List.mem_of_getElem? (i := 42) rfl) rfl
  unfold yadd
  refine yTy.sO ?_ (List.mem_of_getElem? (i := 42) rfl) rfl (by decide +kernel) ⟨by omega, by omega⟩
  refine yTy.sA ?_ (List.mem_of_getElem? (i := 60) rfl) (by decide +kernel) ⟨by decide, by decide⟩
  refine yTy.sA ?_ (List.mem_of_getElem? (i := 53) rfl) (by decide +kernel) ⟨by omega, by omega⟩
  refine yTy.sA ?_ (List.mem_of_getElem? (i := 59) rfl) (by decide +kernel) (r 6 (by decide))
  refine yTy.sA ?_ (List.mem_of_getElem? (i := 58) rfl) (by decide +kernel) (r 5 (by decide))
  refine yTy.sA ?_ (List.mem_of_getElem? (i := 57) rfl) (by decide +kernel) (r 4 (by decide))
  refine yTy.sA ?_ (List.mem_of_getElem? (i := 56) rfl) (by decide +kernel) h3
  refine yTy.sA ?_ (List.mem_of_getElem? (i := 55) rfl) (by decide +kernel) (r 2 (by decide))
  refine yTy.sA ?_ (List.mem_of_getElem? (i := 54) rfl) (by decide +kernel) (r 1 (by decide))
  exact yTy.sA h (List.mem_of_getElem? (i := 43) rfl) (by decide +kernel) (r 0 (by decide))
def yP_MAD : yPT := fun as g K => as = [(3, 90)] ∧ (0 ≤ g 90 22 ∧ g 90 22 < 40) ∧ (∀ (g' : yM), (g' = yadd g) → K [] g')
def yC_MAD : yC := (133, (1, 40), yP_MAD)
set_option maxRecDepth 8000 in
theorem yv_MAD {K : List yV → yM → Prop} {Y : yNx} {g : yM} (hY : yCl zpD133 (zpZ, zpRS, zpP12, zpMT, [], (1, 40), 0) K Y) (hp0 : 0 ≤ g 90 22 ∧ g 90 22 < 40) (hK : ∀ (g' : yM), (g' = yadd g) → K [] g') : Y 0 [(3, 90)] [] g := by
  refine yrun_ok (sp := fun pc => false) hY 83 0 _ [] g ?_
  show (((0 : Int) ≤ 0 ∧ 0 < ((7 : Nat) : Int)) ∧ (((0 : Int) ≤ (g 90 22) ∧ (g 90 22) < ((53 : Nat) : Int)) ∧ (((0 : Int) ≤ 1 ∧ 1 < ((7 : Nat) : Int)) ∧ (((0 : Int) ≤ (g 90 22) ∧ (g 90 22) < ((40 : Nat) : Int)) ∧ (((0 : Int) ≤ 2 ∧ 2 < ((7 : Nat) : Int)) ∧ (((0 : Int) ≤ (g 90 22) ∧ (g 90 22) < ((40 : Nat) : Int)) ∧ (((0 : Int) ≤ 3 ∧ 3 < ((7 : Nat) : Int)) ∧ (((0 : Int) ≤ (g 90 22) ∧ (g 90 22) < ((40 : Nat) : Int)) ∧ (((0 : Int) ≤ 4 ∧ 4 < ((7 : Nat) : Int)) ∧ (((0 : Int) ≤ (g 90 22) ∧ (g 90 22) < ((40 : Nat) : Int)) ∧ (((0 : Int) ≤ 5 ∧ 5 < ((7 : Nat) : Int)) ∧ (((0 : Int) ≤ (g 90 22) ∧ (g 90 22) < ((40 : Nat) : Int)) ∧ (((0 : Int) ≤ 6 ∧ 6 < ((7 : Nat) : Int)) ∧ (((0 : Int) ≤ (g 90 22) ∧ (g 90 22) < ((40 : Nat) : Int)) ∧ (((0 : Int) ≤ (g 90 22) ∧ (g 90 22) < ((40 : Nat) : Int)) ∧ (((0 : Int) ≤ (g 90 22) ∧ (g 90 22) < ((40 : Nat) : Int)) ∧ (K [] (yset (yset (yset (yset (yset (yset (yset (yset (yset (yset g 91 (Int.toNat (g 90 22)) (g 109 0)) 102 (Int.toNat (g 90 22)) (g 109 1)) 103 (Int.toNat (g 90 22)) (g 109 2)) 104 (Int.toNat (g 90 22)) (g 109 3)) 105 (Int.toNat (g 90 22)) (g 109 4)) 106 (Int.toNat (g 90 22)) (g 109 5)) 107 (Int.toNat (g 90 22)) (g 109 6)) 101 (Int.toNat (g 90 22)) (g 90 10)) 108 (Int.toNat (g 90 22)) (-1)) 90 22 (yw ((g 90 22) + 1))))))))))))))))))))
  refine ⟨(by omega), ?_⟩
  refine ⟨(by omega), ?_⟩
  refine ⟨(by omega), ?_⟩
  refine ⟨(by omega), ?_⟩
  refine ⟨(by omega), ?_⟩
  refine ⟨(by omega), ?_⟩
  refine ⟨(by omega), ?_⟩
  refine ⟨(by omega), ?_⟩
  refine ⟨(by omega), ?_⟩
  refine ⟨(by omega), ?_⟩
  refine ⟨(by omega), ?_⟩
  refine ⟨(by omega), ?_⟩
  refine ⟨(by omega), ?_⟩
  refine ⟨(by omega), ?_⟩
  refine ⟨(by omega), ?_⟩
  refine ⟨(by omega), ?_⟩
  have hq : yw ((g 90 22) + 1) = g 90 22 + 1 := by have := yw_s (g 90 22 + 1); omega
  rw [hq]
  exact hK _ rfl
theorem yM_MAD {l : Launch} {Ts : List Cond} {cl : List vw_C} {RO : zRO} (H : zHyp Ts cl RO) : yMet l Ts cl zpZ RO zpMT yC_MAD := ymet_of2 H.1 H.2.1 zpDj H.2.2.1 yRb H.p12 ymets_nil (zrc0 rfl) (plainFor_of_name zpy12) zpDk133 (fun as g K Y h hA hY => by
  obtain ⟨rfl, hp0, hK⟩ := h
  exact yv_MAD hY  hp0 hK)
/-- the reference's sign on the tape -/
def yTm (g : yM) (p : Int) : Int := if p < g 90 13 then g 98 (Int.toNat p) else 0
def yRm (g0 : yM) (p f : Int) (m : yM) : Prop := yTy zpZ m ∧ (∀ a b : Nat, ¬ (a = 90 ∧ (b = 17 ∨ b = 19)) → a ≠ 109 → m a b = g0 a b) ∧ m 90 17 = p ∧ m 90 19 = f
theorem yRm.sc {g0 m : yM} {p f : Int} (h : yRm g0 p f m) : ySm m = ySm g0 := by
  funext q
  unfold ySm
  rw [h.2.1 90 18 (by omega) (by omega), h.2.1 98 _ (by omega) (by omega)]
theorem yRm.tp {g0 m m' : yM} {p f A B : Int} (h : yRm g0 p f m) (e : m' = yset (yset m 90 17 A) 90 19 B) (hA : 0 ≤ A ∧ A ≤ 60) (hB : -1 ≤ B ∧ B ≤ 60) : yRm g0 A B m' ∧ ∀ b : Nat, m' 109 b = m 109 b := by
  subst e
  refine ⟨⟨?_, fun a b h1 h2 => ?_, ?_, yset_eq⟩, fun b => ?_⟩
  · refine yTy.sO ?_ (List.mem_of_getElem? (i := 42) rfl) rfl (by decide +kernel) hB
    exact yTy.sO h.1 (List.mem_of_getElem? (i := 42) rfl) rfl (by decide +kernel) hA
  · rw [yset_ne (by omega), yset_ne (by omega)]
    exact h.2.1 a b h1 h2
  · rw [yset_ne (by omega), yset_eq]
  · rw [yset_nc (by omega), yset_nc (by omega)]
theorem yRm.co {g0 m : yM} {p f v : Int} {j : Nat} (h : yRm g0 p f m) (hv : -2147483648 ≤ v ∧ v ≤ 2147483647) : yRm g0 p f (yset m 109 j v) := ⟨h.1.sA (List.mem_of_getElem? (i := 61) rfl) (by decide +kernel) hv, fun a b h1 h2 => by rw [yset_nc h2]; exact h.2.1 a b h1 h2, by rw [yset_nc (by omega)]; exact h.2.2.1, by rw [yset_nc (by omega)]; exact h.2.2.2⟩
theorem ySm_sb {g : yM} (h : g 90 18 ≤ 60) : ySb (ySm g) := fun p hp => by
  unfold ySm
  rw [if_neg (by omega)]
  decide
def yP_MCO : yPT := fun as g K => as = [(3, 90)] ∧ (yTy zpZ g) ∧ (∀ (r : Int) (g' : yM), (g 90 22 = 40 → r = -3 ∧ g' = g) → (g 90 22 ≠ 40 → yPf (yTm g) (g 90 13) ≠ -1 → r = -100 - yPf (yTm g) (g 90 13) ∧ yTy zpZ g' ∧ g' 90 13 = 0 ∧ (∀ a b : Nat, ¬ (a = 90 ∧ (b = 13 ∨ (16 ≤ b ∧ b ≤ 19))) → a ≠ 109 → g' a b = g a b)) → (g 90 22 ≠ 40 → yPf (yTm g) (g 90 13) = -1 → r = g 90 22 ∧ yTy zpZ g' ∧ g' 90 13 = 0 ∧ g' 90 22 = g 90 22 + 1 ∧ (g' 91 (Int.toNat (g 90 22)) = yPv (yTm g) 1 ∧ g' 102 (Int.toNat (g 90 22)) = yPv (yTm g) 2 ∧ g' 103 (Int.toNat (g 90 22)) = yPv (yTm g) 3 ∧ g' 104 (Int.toNat (g 90 22)) = yPv (yTm g) 4 ∧ g' 105 (Int.toNat (g 90 22)) = yPv (yTm g) 5 ∧ g' 106 (Int.toNat (g 90 22)) = yPv (yTm g) 6 ∧ g' 107 (Int.toNat (g 90 22)) = yPv (yTm g) 7) ∧ g' 101 (Int.toNat (g 90 22)) = g 90 10 ∧ g' 108 (Int.toNat (g 90 22)) = -1 ∧ (∀ a b : Nat, ¬ (a = 90 ∧ (b = 13 ∨ (16 ≤ b ∧ b ≤ 19) ∨ b = 22)) → a ≠ 109 → ¬ ((a = 91 ∨ (101 ≤ a ∧ a ≤ 108)) ∧ b = (Int.toNat (g 90 22))) → g' a b = g a b)) → K [(1, r)] g')
def yC_MCO : yC := (147, (4, 102), yP_MCO)
set_option maxRecDepth 8000 in
theorem yt_MC35 {K : List yV → yM → Prop} {Y : yNx} {g m : yM} {p f : Int} (hY : yCl zpD147 (zpZ, zpRS, zpP12, zpMT, [yC_NR, yC_WN, yC_TS, yC_WR, yC_MAD], (4, 102), 1) K Y) (hbs : g 90 16 = -1) (hb : ySb (ySm g)) (h : yRm g p f m) (hp : 0 ≤ p ∧ p ≤ 60) (hf : -1 ≤ f ∧ f ≤ 60) (hK : ∀ (m' : yM) (v : Int), yRm g (yRn (ySm g) 3 0 718 p f).1 (yRn (ySm g) 3 0 718 p f).2.1 m' → m' 109 0 = v → (∀ b : Nat, b ≠ 0 → m' 109 b = m 109 b) → ((yRn (ySm g) 3 0 718 p f).2.1 = -1 → v = (yRn (ySm g) 3 0 718 p f).2.2) → Y 50 [(3, 90)] [] m') : Y 35 [(3, 90)] [] m := by
  refine yrun_ok (sp := fun pc => Nat.beq pc 50) hY 10 35 _ [] _ ?_
  show (∃ (d1 a2 b3 : Int), [(3, 90), (1, 3), (1, 0), (1, 718)] = [(3, 90), (1, d1), (1, a2), (1, b3)] ∧ (d1 = 1 ∨ d1 = 2 ∨ d1 = 3) ∧ (0 ≤ m 90 17 ∧ m 90 17 ≤ 60) ∧ (m 90 18 ≤ 60) ∧ (-1 ≤ m 90 19) ∧ (m 90 16 < 0) ∧ (∀ (r4 : Int) (g5 : yM), (g5 = yset (yset m 90 17 (yRn (ySm m) (Int.toNat d1) a2 b3 (m 90 17) (m 90 19)).1) 90 19 (yRn (ySm m) (Int.toNat d1) a2 b3 (m 90 17) (m 90 19)).2.1) → ((yRn (ySm m) (Int.toNat d1) a2 b3 (m 90 17) (m 90 19)).2.1 = -1 → r4 = (yRn (ySm m) (Int.toNat d1) a2 b3 (m 90 17) (m 90 19)).2.2) → (0 ≤ r4 ∧ r4 ≤ 999) → (((0 : Int) ≤ 0 ∧ 0 < ((7 : Nat) : Int)) ∧ (Y 50 [(3, 90)] [] (yset g5 109 0 r4)))))
  refine ⟨_, _, _, rfl, (by
      have l2 : m 90 18 ≤ 60 := (h.1.fO (j := 18) (List.mem_of_getElem? (i := 42) rfl) rfl).2
      have l3 : m 90 16 = -1 := (h.2.1 90 16 (by omega) (by omega)).trans hbs
      have s0 := h.sc
      have s1 := h.2.2.1
      have s2 := h.2.2.2
      omega), (by
      have l2 : m 90 18 ≤ 60 := (h.1.fO (j := 18) (List.mem_of_getElem? (i := 42) rfl) rfl).2
      have l3 : m 90 16 = -1 := (h.2.1 90 16 (by omega) (by omega)).trans hbs
      have s0 := h.sc
      have s1 := h.2.2.1
      have s2 := h.2.2.2
      omega), (by
      have l2 : m 90 18 ≤ 60 := (h.1.fO (j := 18) (List.mem_of_getElem? (i := 42) rfl) rfl).2
      have l3 : m 90 16 = -1 := (h.2.1 90 16 (by omega) (by omega)).trans hbs
      have s0 := h.sc
      have s1 := h.2.2.1
      have s2 := h.2.2.2
      omega), (by
      have l2 : m 90 18 ≤ 60 := (h.1.fO (j := 18) (List.mem_of_getElem? (i := 42) rfl) rfl).2
      have l3 : m 90 16 = -1 := (h.2.1 90 16 (by omega) (by omega)).trans hbs
      have s0 := h.sc
      have s1 := h.2.2.1
      have s2 := h.2.2.2
      omega), (by
      have l2 : m 90 18 ≤ 60 := (h.1.fO (j := 18) (List.mem_of_getElem? (i := 42) rfl) rfl).2
      have l3 : m 90 16 = -1 := (h.2.1 90 16 (by omega) (by omega)).trans hbs
      have s0 := h.sc
      have s1 := h.2.2.1
      have s2 := h.2.2.2
      omega), ?_⟩
  intro r4 g5 p60 p61 p62
  refine ⟨(by omega), ?_⟩
  have l2 : m 90 18 ≤ 60 := (h.1.fO (j := 18) (List.mem_of_getElem? (i := 42) rfl) rfl).2
  have l3 : m 90 16 = -1 := (h.2.1 90 16 (by omega) (by omega)).trans hbs
  have s0 := h.sc
  have s1 := h.2.2.1
  have s2 := h.2.2.2
  have t3 : Int.toNat 3 = 3 := rfl
  rw [s0, s1, s2, t3] at p60 p61
  have e := yRn_b hb (d := 3) (lo := 0) (hi := 718) hp hf
  have e2 := h.tp p60 e.1 e.2.1
  refine hK _ r4 ?_ yset_eq (fun b hb2 => ?_) p61
  · exact e2.1.co ⟨by omega, by omega⟩
  · rw [yset_nj hb2]
    exact e2.2 b
set_option maxRecDepth 8000 in
theorem yt_MC50 {K : List yV → yM → Prop} {Y : yNx} {g m : yM} {p f : Int} (hY : yCl zpD147 (zpZ, zpRS, zpP12, zpMT, [yC_NR, yC_WN, yC_TS, yC_WR, yC_MAD], (4, 102), 1) K Y) (hbs : g 90 16 = -1) (hb : ySb (ySm g)) (h : yRm g p f m) (hp : 0 ≤ p ∧ p ≤ 60) (hf : -1 ≤ f ∧ f ≤ 60) (hK : ∀ m' : yM, yRm g (yEx (ySm g) 45 p f).1 (yEx (ySm g) 45 p f).2 m' → (∀ b : Nat, m' 109 b = m 109 b) → Y 56 [(3, 90)] [] m') : Y 50 [(3, 90)] [] m := by
  refine yrun_ok (sp := fun pc => Nat.beq pc 56) hY 4 50 _ [] _ ?_
  show (∃ (c1 : Int), [(3, 90), (1, 45)] = [(3, 90), (1, c1)] ∧ (0 ≤ m 90 17 ∧ m 90 17 ≤ 60) ∧ (m 90 18 ≤ 60) ∧ (-1 ≤ m 90 19) ∧ (m 90 16 < 0) ∧ (35 ≤ c1) ∧ (∀ (g2 : yM), (g2 = yset (yset m 90 17 (yEx (ySm m) c1 (m 90 17) (m 90 19)).1) 90 19 (yEx (ySm m) c1 (m 90 17) (m 90 19)).2) → (Y 56 [(3, 90)] [] g2)))
  refine ⟨_, rfl, (by
      have l2 : m 90 18 ≤ 60 := (h.1.fO (j := 18) (List.mem_of_getElem? (i := 42) rfl) rfl).2
      have l3 : m 90 16 = -1 := (h.2.1 90 16 (by omega) (by omega)).trans hbs
      have s0 := h.sc
      have s1 := h.2.2.1
      have s2 := h.2.2.2
      omega), (by
      have l2 : m 90 18 ≤ 60 := (h.1.fO (j := 18) (List.mem_of_getElem? (i := 42) rfl) rfl).2
      have l3 : m 90 16 = -1 := (h.2.1 90 16 (by omega) (by omega)).trans hbs
      have s0 := h.sc
      have s1 := h.2.2.1
      have s2 := h.2.2.2
      omega), (by
      have l2 : m 90 18 ≤ 60 := (h.1.fO (j := 18) (List.mem_of_getElem? (i := 42) rfl) rfl).2
      have l3 : m 90 16 = -1 := (h.2.1 90 16 (by omega) (by omega)).trans hbs
      have s0 := h.sc
      have s1 := h.2.2.1
      have s2 := h.2.2.2
      omega), (by
      have l2 : m 90 18 ≤ 60 := (h.1.fO (j := 18) (List.mem_of_getElem? (i := 42) rfl) rfl).2
      have l3 : m 90 16 = -1 := (h.2.1 90 16 (by omega) (by omega)).trans hbs
      have s0 := h.sc
      have s1 := h.2.2.1
      have s2 := h.2.2.2
      omega), (by
      have l2 : m 90 18 ≤ 60 := (h.1.fO (j := 18) (List.mem_of_getElem? (i := 42) rfl) rfl).2
      have l3 : m 90 16 = -1 := (h.2.1 90 16 (by omega) (by omega)).trans hbs
      have s0 := h.sc
      have s1 := h.2.2.1
      have s2 := h.2.2.2
      omega), ?_⟩
  intro g2 p30
  have l2 : m 90 18 ≤ 60 := (h.1.fO (j := 18) (List.mem_of_getElem? (i := 42) rfl) rfl).2
  have l3 : m 90 16 = -1 := (h.2.1 90 16 (by omega) (by omega)).trans hbs
  have s0 := h.sc
  have s1 := h.2.2.1
  have s2 := h.2.2.2
  rw [s0, s1, s2] at p30
  have e := yEx_b hb (c := 45) (by decide) hp hf
  have e2 := h.tp p30 e.1 e.2.1
  exact hK _ e2.1 e2.2
set_option maxRecDepth 8000 in
theorem yt_MC56 {K : List yV → yM → Prop} {Y : yNx} {g m : yM} {p f : Int} (hY : yCl zpD147 (zpZ, zpRS, zpP12, zpMT, [yC_NR, yC_WN, yC_TS, yC_WR, yC_MAD], (4, 102), 1) K Y) (hbs : g 90 16 = -1) (hb : ySb (ySm g)) (h : yRm g p f m) (hp : 0 ≤ p ∧ p ≤ 60) (hf : -1 ≤ f ∧ f ≤ 60) {lo : Int} (hlo : f = -1 → yw (m 109 0 + 1) = lo) (hK : ∀ (m' : yM) (v : Int), yRm g (yRn (ySm g) 3 lo 719 p f).1 (yRn (ySm g) 3 lo 719 p f).2.1 m' → m' 109 1 = v → (∀ b : Nat, b ≠ 1 → m' 109 b = m 109 b) → ((yRn (ySm g) 3 lo 719 p f).2.1 = -1 → v = (yRn (ySm g) 3 lo 719 p f).2.2) → Y 78 [(3, 90)] [] m') : Y 56 [(3, 90)] [] m := by
  refine yrun_ok (sp := fun pc => Nat.beq pc 78) hY 15 56 _ [] _ ?_
  show (((0 : Int) ≤ 0 ∧ 0 < ((7 : Nat) : Int)) ∧ (∃ (d1 a2 b3 : Int), [(3, 90), (1, 3), (1, (yw ((m 109 0) + 1))), (1, 719)] = [(3, 90), (1, d1), (1, a2), (1, b3)] ∧ (d1 = 1 ∨ d1 = 2 ∨ d1 = 3) ∧ (0 ≤ m 90 17 ∧ m 90 17 ≤ 60) ∧ (m 90 18 ≤ 60) ∧ (-1 ≤ m 90 19) ∧ (m 90 16 < 0) ∧ (∀ (r4 : Int) (g5 : yM), (g5 = yset (yset m 90 17 (yRn (ySm m) (Int.toNat d1) a2 b3 (m 90 17) (m 90 19)).1) 90 19 (yRn (ySm m) (Int.toNat d1) a2 b3 (m 90 17) (m 90 19)).2.1) → ((yRn (ySm m) (Int.toNat d1) a2 b3 (m 90 17) (m 90 19)).2.1 = -1 → r4 = (yRn (ySm m) (Int.toNat d1) a2 b3 (m 90 17) (m 90 19)).2.2) → (0 ≤ r4 ∧ r4 ≤ 999) → (((0 : Int) ≤ 1 ∧ 1 < ((7 : Nat) : Int)) ∧ (Y 78 [(3, 90)] [] (yset g5 109 1 r4))))))
  refine ⟨(by omega), ?_⟩
  refine ⟨_, _, _, rfl, (by
      have l2 : m 90 18 ≤ 60 := (h.1.fO (j := 18) (List.mem_of_getElem? (i := 42) rfl) rfl).2
      have l3 : m 90 16 = -1 := (h.2.1 90 16 (by omega) (by omega)).trans hbs
      have s0 := h.sc
      have s1 := h.2.2.1
      have s2 := h.2.2.2
      omega), (by
      have l2 : m 90 18 ≤ 60 := (h.1.fO (j := 18) (List.mem_of_getElem? (i := 42) rfl) rfl).2
      have l3 : m 90 16 = -1 := (h.2.1 90 16 (by omega) (by omega)).trans hbs
      have s0 := h.sc
      have s1 := h.2.2.1
      have s2 := h.2.2.2
      omega), (by
      have l2 : m 90 18 ≤ 60 := (h.1.fO (j := 18) (List.mem_of_getElem? (i := 42) rfl) rfl).2
      have l3 : m 90 16 = -1 := (h.2.1 90 16 (by omega) (by omega)).trans hbs
      have s0 := h.sc
      have s1 := h.2.2.1
      have s2 := h.2.2.2
      omega), (by
      have l2 : m 90 18 ≤ 60 := (h.1.fO (j := 18) (List.mem_of_getElem? (i := 42) rfl) rfl).2
      have l3 : m 90 16 = -1 := (h.2.1 90 16 (by omega) (by omega)).trans hbs
      have s0 := h.sc
      have s1 := h.2.2.1
      have s2 := h.2.2.2
      omega), (by
      have l2 : m 90 18 ≤ 60 := (h.1.fO (j := 18) (List.mem_of_getElem? (i := 42) rfl) rfl).2
      have l3 : m 90 16 = -1 := (h.2.1 90 16 (by omega) (by omega)).trans hbs
      have s0 := h.sc
      have s1 := h.2.2.1
      have s2 := h.2.2.2
      omega), ?_⟩
  intro r4 g5 p60 p61 p62
  refine ⟨(by omega), ?_⟩
  have l2 : m 90 18 ≤ 60 := (h.1.fO (j := 18) (List.mem_of_getElem? (i := 42) rfl) rfl).2
  have l3 : m 90 16 = -1 := (h.2.1 90 16 (by omega) (by omega)).trans hbs
  have s0 := h.sc
  have s1 := h.2.2.1
  have s2 := h.2.2.2
  have t3 : Int.toNat 3 = 3 := rfl
  rw [s0, s1, s2, t3] at p60 p61
  have el : yRn (ySm g) 3 (yw (m 109 0 + 1)) 719 p f = yRn (ySm g) 3 lo 719 p f := yRn_lo hlo
  have ez : m 109 (Int.toNat 0) = m 109 0 := rfl
  first | rw [el] at p60 p61 | (rw [ez, el] at p60 p61)
  have e := yRn_b hb (d := 3) (lo := lo) (hi := 719) hp hf
  have e2 := h.tp p60 e.1 e.2.1
  refine hK _ r4 ?_ yset_eq (fun b hb2 => ?_) p61
  · exact e2.1.co ⟨by omega, by omega⟩
  · rw [yset_nj hb2]
    exact e2.2 b
set_option maxRecDepth 8000 in
theorem yt_MC78 {K : List yV → yM → Prop} {Y : yNx} {g m : yM} {p f : Int} (hY : yCl zpD147 (zpZ, zpRS, zpP12, zpMT, [yC_NR, yC_WN, yC_TS, yC_WR, yC_MAD], (4, 102), 1) K Y) (hbs : g 90 16 = -1) (hb : ySb (ySm g)) (h : yRm g p f m) (hp : 0 ≤ p ∧ p ≤ 60) (hf : -1 ≤ f ∧ f ≤ 60) (hK : ∀ m' : yM, yRm g (yEx (ySm g) 64 p f).1 (yEx (ySm g) 64 p f).2 m' → (∀ b : Nat, m' 109 b = m 109 b) → Y 84 [(3, 90)] [] m') : Y 78 [(3, 90)] [] m := by
  refine yrun_ok (sp := fun pc => Nat.beq pc 84) hY 4 78 _ [] _ ?_
  show (∃ (c1 : Int), [(3, 90), (1, 64)] = [(3, 90), (1, c1)] ∧ (0 ≤ m 90 17 ∧ m 90 17 ≤ 60) ∧ (m 90 18 ≤ 60) ∧ (-1 ≤ m 90 19) ∧ (m 90 16 < 0) ∧ (35 ≤ c1) ∧ (∀ (g2 : yM), (g2 = yset (yset m 90 17 (yEx (ySm m) c1 (m 90 17) (m 90 19)).1) 90 19 (yEx (ySm m) c1 (m 90 17) (m 90 19)).2) → (Y 84 [(3, 90)] [] g2)))
  refine ⟨_, rfl, (by
      have l2 : m 90 18 ≤ 60 := (h.1.fO (j := 18) (List.mem_of_getElem? (i := 42) rfl) rfl).2
      have l3 : m 90 16 = -1 := (h.2.1 90 16 (by omega) (by omega)).trans hbs
      have s0 := h.sc
      have s1 := h.2.2.1
      have s2 := h.2.2.2
      omega), (by
      have l2 : m 90 18 ≤ 60 := (h.1.fO (j := 18) (List.mem_of_getElem? (i := 42) rfl) rfl).2
      have l3 : m 90 16 = -1 := (h.2.1 90 16 (by omega) (by omega)).trans hbs
      have s0 := h.sc
      have s1 := h.2.2.1
      have s2 := h.2.2.2
      omega), (by
      have l2 : m 90 18 ≤ 60 := (h.1.fO (j := 18) (List.mem_of_getElem? (i := 42) rfl) rfl).2
      have l3 : m 90 16 = -1 := (h.2.1 90 16 (by omega) (by omega)).trans hbs
      have s0 := h.sc
      have s1 := h.2.2.1
      have s2 := h.2.2.2
      omega), (by
      have l2 : m 90 18 ≤ 60 := (h.1.fO (j := 18) (List.mem_of_getElem? (i := 42) rfl) rfl).2
      have l3 : m 90 16 = -1 := (h.2.1 90 16 (by omega) (by omega)).trans hbs
      have s0 := h.sc
      have s1 := h.2.2.1
      have s2 := h.2.2.2
      omega), (by
      have l2 : m 90 18 ≤ 60 := (h.1.fO (j := 18) (List.mem_of_getElem? (i := 42) rfl) rfl).2
      have l3 : m 90 16 = -1 := (h.2.1 90 16 (by omega) (by omega)).trans hbs
      have s0 := h.sc
      have s1 := h.2.2.1
      have s2 := h.2.2.2
      omega), ?_⟩
  intro g2 p30
  have l2 : m 90 18 ≤ 60 := (h.1.fO (j := 18) (List.mem_of_getElem? (i := 42) rfl) rfl).2
  have l3 : m 90 16 = -1 := (h.2.1 90 16 (by omega) (by omega)).trans hbs
  have s0 := h.sc
  have s1 := h.2.2.1
  have s2 := h.2.2.2
  rw [s0, s1, s2] at p30
  have e := yEx_b hb (c := 64) (by decide) hp hf
  have e2 := h.tp p30 e.1 e.2.1
  exact hK _ e2.1 e2.2
set_option maxRecDepth 8000 in
theorem yt_MC84 {K : List yV → yM → Prop} {Y : yNx} {g m : yM} {p f : Int} (hY : yCl zpD147 (zpZ, zpRS, zpP12, zpMT, [yC_NR, yC_WN, yC_TS, yC_WR, yC_MAD], (4, 102), 1) K Y) (hbs : g 90 16 = -1) (hb : ySb (ySm g)) (h : yRm g p f m) (hp : 0 ≤ p ∧ p ≤ 60) (hf : -1 ≤ f ∧ f ≤ 60) (hK : ∀ (m' : yM) (v : Int), yRm g (yRn (ySm g) 1 0 3 p f).1 (yRn (ySm g) 1 0 3 p f).2.1 m' → m' 109 2 = v → (∀ b : Nat, b ≠ 2 → m' 109 b = m 109 b) → ((yRn (ySm g) 1 0 3 p f).2.1 = -1 → v = (yRn (ySm g) 1 0 3 p f).2.2) → Y 97 [(3, 90)] [] m') : Y 84 [(3, 90)] [] m := by
  refine yrun_ok (sp := fun pc => Nat.beq pc 97) hY 10 84 _ [] _ ?_
  show (∃ (d1 a2 b3 : Int), [(3, 90), (1, 1), (1, 0), (1, 3)] = [(3, 90), (1, d1), (1, a2), (1, b3)] ∧ (d1 = 1 ∨ d1 = 2 ∨ d1 = 3) ∧ (0 ≤ m 90 17 ∧ m 90 17 ≤ 60) ∧ (m 90 18 ≤ 60) ∧ (-1 ≤ m 90 19) ∧ (m 90 16 < 0) ∧ (∀ (r4 : Int) (g5 : yM), (g5 = yset (yset m 90 17 (yRn (ySm m) (Int.toNat d1) a2 b3 (m 90 17) (m 90 19)).1) 90 19 (yRn (ySm m) (Int.toNat d1) a2 b3 (m 90 17) (m 90 19)).2.1) → ((yRn (ySm m) (Int.toNat d1) a2 b3 (m 90 17) (m 90 19)).2.1 = -1 → r4 = (yRn (ySm m) (Int.toNat d1) a2 b3 (m 90 17) (m 90 19)).2.2) → (0 ≤ r4 ∧ r4 ≤ 999) → (((0 : Int) ≤ 2 ∧ 2 < ((7 : Nat) : Int)) ∧ (Y 97 [(3, 90)] [] (yset g5 109 2 r4)))))
  refine ⟨_, _, _, rfl, (by
      have l2 : m 90 18 ≤ 60 := (h.1.fO (j := 18) (List.mem_of_getElem? (i := 42) rfl) rfl).2
      have l3 : m 90 16 = -1 := (h.2.1 90 16 (by omega) (by omega)).trans hbs
      have s0 := h.sc
      have s1 := h.2.2.1
      have s2 := h.2.2.2
      omega), (by
      have l2 : m 90 18 ≤ 60 := (h.1.fO (j := 18) (List.mem_of_getElem? (i := 42) rfl) rfl).2
      have l3 : m 90 16 = -1 := (h.2.1 90 16 (by omega) (by omega)).trans hbs
      have s0 := h.sc
      have s1 := h.2.2.1
      have s2 := h.2.2.2
      omega), (by
      have l2 : m 90 18 ≤ 60 := (h.1.fO (j := 18) (List.mem_of_getElem? (i := 42) rfl) rfl).2
      have l3 : m 90 16 = -1 := (h.2.1 90 16 (by omega) (by omega)).trans hbs
      have s0 := h.sc
      have s1 := h.2.2.1
      have s2 := h.2.2.2
      omega), (by
      have l2 : m 90 18 ≤ 60 := (h.1.fO (j := 18) (List.mem_of_getElem? (i := 42) rfl) rfl).2
      have l3 : m 90 16 = -1 := (h.2.1 90 16 (by omega) (by omega)).trans hbs
      have s0 := h.sc
      have s1 := h.2.2.1
      have s2 := h.2.2.2
      omega), (by
      have l2 : m 90 18 ≤ 60 := (h.1.fO (j := 18) (List.mem_of_getElem? (i := 42) rfl) rfl).2
      have l3 : m 90 16 = -1 := (h.2.1 90 16 (by omega) (by omega)).trans hbs
      have s0 := h.sc
      have s1 := h.2.2.1
      have s2 := h.2.2.2
      omega), ?_⟩
  intro r4 g5 p60 p61 p62
  refine ⟨(by omega), ?_⟩
  have l2 : m 90 18 ≤ 60 := (h.1.fO (j := 18) (List.mem_of_getElem? (i := 42) rfl) rfl).2
  have l3 : m 90 16 = -1 := (h.2.1 90 16 (by omega) (by omega)).trans hbs
  have s0 := h.sc
  have s1 := h.2.2.1
  have s2 := h.2.2.2
  have t3 : Int.toNat 1 = 1 := rfl
  rw [s0, s1, s2, t3] at p60 p61
  have e := yRn_b hb (d := 1) (lo := 0) (hi := 3) hp hf
  have e2 := h.tp p60 e.1 e.2.1
  refine hK _ r4 ?_ yset_eq (fun b hb2 => ?_) p61
  · exact e2.1.co ⟨by omega, by omega⟩
  · rw [yset_nj hb2]
    exact e2.2 b
set_option maxRecDepth 8000 in
theorem yt_MC97 {K : List yV → yM → Prop} {Y : yNx} {g m : yM} {p f : Int} (hY : yCl zpD147 (zpZ, zpRS, zpP12, zpMT, [yC_NR, yC_WN, yC_TS, yC_WR, yC_MAD], (4, 102), 1) K Y) (hbs : g 90 16 = -1) (hb : ySb (ySm g)) (h : yRm g p f m) (hp : 0 ≤ p ∧ p ≤ 60) (hf : -1 ≤ f ∧ f ≤ 60) (hK : ∀ m' : yM, yRm g (yEx (ySm g) 109 p f).1 (yEx (ySm g) 109 p f).2 m' → (∀ b : Nat, m' 109 b = m 109 b) → Y 103 [(3, 90)] [] m') : Y 97 [(3, 90)] [] m := by
  refine yrun_ok (sp := fun pc => Nat.beq pc 103) hY 4 97 _ [] _ ?_
  show (∃ (c1 : Int), [(3, 90), (1, 109)] = [(3, 90), (1, c1)] ∧ (0 ≤ m 90 17 ∧ m 90 17 ≤ 60) ∧ (m 90 18 ≤ 60) ∧ (-1 ≤ m 90 19) ∧ (m 90 16 < 0) ∧ (35 ≤ c1) ∧ (∀ (g2 : yM), (g2 = yset (yset m 90 17 (yEx (ySm m) c1 (m 90 17) (m 90 19)).1) 90 19 (yEx (ySm m) c1 (m 90 17) (m 90 19)).2) → (Y 103 [(3, 90)] [] g2)))
  refine ⟨_, rfl, (by
      have l2 : m 90 18 ≤ 60 := (h.1.fO (j := 18) (List.mem_of_getElem? (i := 42) rfl) rfl).2
      have l3 : m 90 16 = -1 := (h.2.1 90 16 (by omega) (by omega)).trans hbs
      have s0 := h.sc
      have s1 := h.2.2.1
      have s2 := h.2.2.2
      omega), (by
      have l2 : m 90 18 ≤ 60 := (h.1.fO (j := 18) (List.mem_of_getElem? (i := 42) rfl) rfl).2
      have l3 : m 90 16 = -1 := (h.2.1 90 16 (by omega) (by omega)).trans hbs
      have s0 := h.sc
      have s1 := h.2.2.1
      have s2 := h.2.2.2
      omega), (by
      have l2 : m 90 18 ≤ 60 := (h.1.fO (j := 18) (List.mem_of_getElem? (i := 42) rfl) rfl).2
      have l3 : m 90 16 = -1 := (h.2.1 90 16 (by omega) (by omega)).trans hbs
      have s0 := h.sc
      have s1 := h.2.2.1
      have s2 := h.2.2.2
      omega), (by
      have l2 : m 90 18 ≤ 60 := (h.1.fO (j := 18) (List.mem_of_getElem? (i := 42) rfl) rfl).2
      have l3 : m 90 16 = -1 := (h.2.1 90 16 (by omega) (by omega)).trans hbs
      have s0 := h.sc
      have s1 := h.2.2.1
      have s2 := h.2.2.2
      omega), (by
      have l2 : m 90 18 ≤ 60 := (h.1.fO (j := 18) (List.mem_of_getElem? (i := 42) rfl) rfl).2
      have l3 : m 90 16 = -1 := (h.2.1 90 16 (by omega) (by omega)).trans hbs
      have s0 := h.sc
      have s1 := h.2.2.1
      have s2 := h.2.2.2
      omega), ?_⟩
  intro g2 p30
  have l2 : m 90 18 ≤ 60 := (h.1.fO (j := 18) (List.mem_of_getElem? (i := 42) rfl) rfl).2
  have l3 : m 90 16 = -1 := (h.2.1 90 16 (by omega) (by omega)).trans hbs
  have s0 := h.sc
  have s1 := h.2.2.1
  have s2 := h.2.2.2
  rw [s0, s1, s2] at p30
  have e := yEx_b hb (c := 109) (by decide) hp hf
  have e2 := h.tp p30 e.1 e.2.1
  exact hK _ e2.1 e2.2
set_option maxRecDepth 8000 in
theorem yt_MC103 {K : List yV → yM → Prop} {Y : yNx} {g m : yM} {p f : Int} (hY : yCl zpD147 (zpZ, zpRS, zpP12, zpMT, [yC_NR, yC_WN, yC_TS, yC_WR, yC_MAD], (4, 102), 1) K Y) (hbs : g 90 16 = -1) (hb : ySb (ySm g)) (h : yRm g p f m) (hp : 0 ≤ p ∧ p ≤ 60) (hf : -1 ≤ f ∧ f ≤ 60) (hK : ∀ (m' : yM) (v : Int), yRm g (yRn (ySm g) 1 0 5 p f).1 (yRn (ySm g) 1 0 5 p f).2.1 m' → m' 109 3 = v → (∀ b : Nat, b ≠ 3 → m' 109 b = m 109 b) → ((yRn (ySm g) 1 0 5 p f).2.1 = -1 → v = (yRn (ySm g) 1 0 5 p f).2.2) → Y 116 [(3, 90)] [] m') : Y 103 [(3, 90)] [] m := by
  refine yrun_ok (sp := fun pc => Nat.beq pc 116) hY 10 103 _ [] _ ?_
  show (∃ (d1 a2 b3 : Int), [(3, 90), (1, 1), (1, 0), (1, 5)] = [(3, 90), (1, d1), (1, a2), (1, b3)] ∧ (d1 = 1 ∨ d1 = 2 ∨ d1 = 3) ∧ (0 ≤ m 90 17 ∧ m 90 17 ≤ 60) ∧ (m 90 18 ≤ 60) ∧ (-1 ≤ m 90 19) ∧ (m 90 16 < 0) ∧ (∀ (r4 : Int) (g5 : yM), (g5 = yset (yset m 90 17 (yRn (ySm m) (Int.toNat d1) a2 b3 (m 90 17) (m 90 19)).1) 90 19 (yRn (ySm m) (Int.toNat d1) a2 b3 (m 90 17) (m 90 19)).2.1) → ((yRn (ySm m) (Int.toNat d1) a2 b3 (m 90 17) (m 90 19)).2.1 = -1 → r4 = (yRn (ySm m) (Int.toNat d1) a2 b3 (m 90 17) (m 90 19)).2.2) → (0 ≤ r4 ∧ r4 ≤ 999) → (((0 : Int) ≤ 3 ∧ 3 < ((7 : Nat) : Int)) ∧ (Y 116 [(3, 90)] [] (yset g5 109 3 r4)))))
  refine ⟨_, _, _, rfl, (by
      have l2 : m 90 18 ≤ 60 := (h.1.fO (j := 18) (List.mem_of_getElem? (i := 42) rfl) rfl).2
      have l3 : m 90 16 = -1 := (h.2.1 90 16 (by omega) (by omega)).trans hbs
      have s0 := h.sc
      have s1 := h.2.2.1
      have s2 := h.2.2.2
      omega), (by
      have l2 : m 90 18 ≤ 60 := (h.1.fO (j := 18) (List.mem_of_getElem? (i := 42) rfl) rfl).2
      have l3 : m 90 16 = -1 := (h.2.1 90 16 (by omega) (by omega)).trans hbs
      have s0 := h.sc
      have s1 := h.2.2.1
      have s2 := h.2.2.2
      omega), (by
      have l2 : m 90 18 ≤ 60 := (h.1.fO (j := 18) (List.mem_of_getElem? (i := 42) rfl) rfl).2
      have l3 : m 90 16 = -1 := (h.2.1 90 16 (by omega) (by omega)).trans hbs
      have s0 := h.sc
      have s1 := h.2.2.1
      have s2 := h.2.2.2
      omega), (by
      have l2 : m 90 18 ≤ 60 := (h.1.fO (j := 18) (List.mem_of_getElem? (i := 42) rfl) rfl).2
      have l3 : m 90 16 = -1 := (h.2.1 90 16 (by omega) (by omega)).trans hbs
      have s0 := h.sc
      have s1 := h.2.2.1
      have s2 := h.2.2.2
      omega), (by
      have l2 : m 90 18 ≤ 60 := (h.1.fO (j := 18) (List.mem_of_getElem? (i := 42) rfl) rfl).2
      have l3 : m 90 16 = -1 := (h.2.1 90 16 (by omega) (by omega)).trans hbs
      have s0 := h.sc
      have s1 := h.2.2.1
      have s2 := h.2.2.2
      omega), ?_⟩
  intro r4 g5 p60 p61 p62
  refine ⟨(by omega), ?_⟩
  have l2 : m 90 18 ≤ 60 := (h.1.fO (j := 18) (List.mem_of_getElem? (i := 42) rfl) rfl).2
  have l3 : m 90 16 = -1 := (h.2.1 90 16 (by omega) (by omega)).trans hbs
  have s0 := h.sc
  have s1 := h.2.2.1
  have s2 := h.2.2.2
  have t3 : Int.toNat 1 = 1 := rfl
  rw [s0, s1, s2, t3] at p60 p61
  have e := yRn_b hb (d := 1) (lo := 0) (hi := 5) hp hf
  have e2 := h.tp p60 e.1 e.2.1
  refine hK _ r4 ?_ yset_eq (fun b hb2 => ?_) p61
  · exact e2.1.co ⟨by omega, by omega⟩
  · rw [yset_nj hb2]
    exact e2.2 b
set_option maxRecDepth 8000 in
theorem yt_MC116 {K : List yV → yM → Prop} {Y : yNx} {g m : yM} {p f : Int} (hY : yCl zpD147 (zpZ, zpRS, zpP12, zpMT, [yC_NR, yC_WN, yC_TS, yC_WR, yC_MAD], (4, 102), 1) K Y) (hbs : g 90 16 = -1) (hb : ySb (ySm g)) (h : yRm g p f m) (hp : 0 ≤ p ∧ p ≤ 60) (hf : -1 ≤ f ∧ f ≤ 60) (hK : ∀ m' : yM, yRm g (yEx (ySm g) 115 p f).1 (yEx (ySm g) 115 p f).2 m' → (∀ b : Nat, m' 109 b = m 109 b) → Y 122 [(3, 90)] [] m') : Y 116 [(3, 90)] [] m := by
  refine yrun_ok (sp := fun pc => Nat.beq pc 122) hY 4 116 _ [] _ ?_
  show (∃ (c1 : Int), [(3, 90), (1, 115)] = [(3, 90), (1, c1)] ∧ (0 ≤ m 90 17 ∧ m 90 17 ≤ 60) ∧ (m 90 18 ≤ 60) ∧ (-1 ≤ m 90 19) ∧ (m 90 16 < 0) ∧ (35 ≤ c1) ∧ (∀ (g2 : yM), (g2 = yset (yset m 90 17 (yEx (ySm m) c1 (m 90 17) (m 90 19)).1) 90 19 (yEx (ySm m) c1 (m 90 17) (m 90 19)).2) → (Y 122 [(3, 90)] [] g2)))
  refine ⟨_, rfl, (by
      have l2 : m 90 18 ≤ 60 := (h.1.fO (j := 18) (List.mem_of_getElem? (i := 42) rfl) rfl).2
      have l3 : m 90 16 = -1 := (h.2.1 90 16 (by omega) (by omega)).trans hbs
      have s0 := h.sc
      have s1 := h.2.2.1
      have s2 := h.2.2.2
      omega), (by
      have l2 : m 90 18 ≤ 60 := (h.1.fO (j := 18) (List.mem_of_getElem? (i := 42) rfl) rfl).2
      have l3 : m 90 16 = -1 := (h.2.1 90 16 (by omega) (by omega)).trans hbs
      have s0 := h.sc
      have s1 := h.2.2.1
      have s2 := h.2.2.2
      omega), (by
      have l2 : m 90 18 ≤ 60 := (h.1.fO (j := 18) (List.mem_of_getElem? (i := 42) rfl) rfl).2
      have l3 : m 90 16 = -1 := (h.2.1 90 16 (by omega) (by omega)).trans hbs
      have s0 := h.sc
      have s1 := h.2.2.1
      have s2 := h.2.2.2
      omega), (by
      have l2 : m 90 18 ≤ 60 := (h.1.fO (j := 18) (List.mem_of_getElem? (i := 42) rfl) rfl).2
      have l3 : m 90 16 = -1 := (h.2.1 90 16 (by omega) (by omega)).trans hbs
      have s0 := h.sc
      have s1 := h.2.2.1
      have s2 := h.2.2.2
      omega), (by
      have l2 : m 90 18 ≤ 60 := (h.1.fO (j := 18) (List.mem_of_getElem? (i := 42) rfl) rfl).2
      have l3 : m 90 16 = -1 := (h.2.1 90 16 (by omega) (by omega)).trans hbs
      have s0 := h.sc
      have s1 := h.2.2.1
      have s2 := h.2.2.2
      omega), ?_⟩
  intro g2 p30
  have l2 : m 90 18 ≤ 60 := (h.1.fO (j := 18) (List.mem_of_getElem? (i := 42) rfl) rfl).2
  have l3 : m 90 16 = -1 := (h.2.1 90 16 (by omega) (by omega)).trans hbs
  have s0 := h.sc
  have s1 := h.2.2.1
  have s2 := h.2.2.2
  rw [s0, s1, s2] at p30
  have e := yEx_b hb (c := 115) (by decide) hp hf
  have e2 := h.tp p30 e.1 e.2.1
  exact hK _ e2.1 e2.2
set_option maxRecDepth 8000 in
theorem yt_MC122 {K : List yV → yM → Prop} {Y : yNx} {g m : yM} {p f : Int} (hY : yCl zpD147 (zpZ, zpRS, zpP12, zpMT, [yC_NR, yC_WN, yC_TS, yC_WR, yC_MAD], (4, 102), 1) K Y) (hbs : g 90 16 = -1) (hb : ySb (ySm g)) (h : yRm g p f m) (hp : 0 ≤ p ∧ p ≤ 60) (hf : -1 ≤ f ∧ f ≤ 60) (hK : ∀ (m' : yM) (v : Int), yRm g (yRn (ySm g) 1 0 7 p f).1 (yRn (ySm g) 1 0 7 p f).2.1 m' → m' 109 4 = v → (∀ b : Nat, b ≠ 4 → m' 109 b = m 109 b) → ((yRn (ySm g) 1 0 7 p f).2.1 = -1 → v = (yRn (ySm g) 1 0 7 p f).2.2) → Y 136 [(3, 90)] [] m') : Y 122 [(3, 90)] [] m := by
  refine yrun_ok (sp := fun pc => Nat.beq pc 136) hY 10 122 _ [] _ ?_
  show (∃ (d1 a2 b3 : Int), [(3, 90), (1, 1), (1, 0), (1, 7)] = [(3, 90), (1, d1), (1, a2), (1, b3)] ∧ (d1 = 1 ∨ d1 = 2 ∨ d1 = 3) ∧ (0 ≤ m 90 17 ∧ m 90 17 ≤ 60) ∧ (m 90 18 ≤ 60) ∧ (-1 ≤ m 90 19) ∧ (m 90 16 < 0) ∧ (∀ (r4 : Int) (g5 : yM), (g5 = yset (yset m 90 17 (yRn (ySm m) (Int.toNat d1) a2 b3 (m 90 17) (m 90 19)).1) 90 19 (yRn (ySm m) (Int.toNat d1) a2 b3 (m 90 17) (m 90 19)).2.1) → ((yRn (ySm m) (Int.toNat d1) a2 b3 (m 90 17) (m 90 19)).2.1 = -1 → r4 = (yRn (ySm m) (Int.toNat d1) a2 b3 (m 90 17) (m 90 19)).2.2) → (0 ≤ r4 ∧ r4 ≤ 999) → (((0 : Int) ≤ 4 ∧ 4 < ((7 : Nat) : Int)) ∧ (Y 136 [(3, 90)] [] (yset g5 109 4 r4)))))
  refine ⟨_, _, _, rfl, (by
      have l2 : m 90 18 ≤ 60 := (h.1.fO (j := 18) (List.mem_of_getElem? (i := 42) rfl) rfl).2
      have l3 : m 90 16 = -1 := (h.2.1 90 16 (by omega) (by omega)).trans hbs
      have s0 := h.sc
      have s1 := h.2.2.1
      have s2 := h.2.2.2
      omega), (by
      have l2 : m 90 18 ≤ 60 := (h.1.fO (j := 18) (List.mem_of_getElem? (i := 42) rfl) rfl).2
      have l3 : m 90 16 = -1 := (h.2.1 90 16 (by omega) (by omega)).trans hbs
      have s0 := h.sc
      have s1 := h.2.2.1
      have s2 := h.2.2.2
      omega), (by
      have l2 : m 90 18 ≤ 60 := (h.1.fO (j := 18) (List.mem_of_getElem? (i := 42) rfl) rfl).2
      have l3 : m 90 16 = -1 := (h.2.1 90 16 (by omega) (by omega)).trans hbs
      have s0 := h.sc
      have s1 := h.2.2.1
      have s2 := h.2.2.2
      omega), (by
      have l2 : m 90 18 ≤ 60 := (h.1.fO (j := 18) (List.mem_of_getElem? (i := 42) rfl) rfl).2
      have l3 : m 90 16 = -1 := (h.2.1 90 16 (by omega) (by omega)).trans hbs
      have s0 := h.sc
      have s1 := h.2.2.1
      have s2 := h.2.2.2
      omega), (by
      have l2 : m 90 18 ≤ 60 := (h.1.fO (j := 18) (List.mem_of_getElem? (i := 42) rfl) rfl).2
      have l3 : m 90 16 = -1 := (h.2.1 90 16 (by omega) (by omega)).trans hbs
      have s0 := h.sc
      have s1 := h.2.2.1
      have s2 := h.2.2.2
      omega), ?_⟩
  intro r4 g5 p60 p61 p62
  refine ⟨(by omega), ?_⟩
  have l2 : m 90 18 ≤ 60 := (h.1.fO (j := 18) (List.mem_of_getElem? (i := 42) rfl) rfl).2
  have l3 : m 90 16 = -1 := (h.2.1 90 16 (by omega) (by omega)).trans hbs
  have s0 := h.sc
  have s1 := h.2.2.1
  have s2 := h.2.2.2
  have t3 : Int.toNat 1 = 1 := rfl
  rw [s0, s1, s2, t3] at p60 p61
  have e := yRn_b hb (d := 1) (lo := 0) (hi := 7) hp hf
  have e2 := h.tp p60 e.1 e.2.1
  refine hK _ r4 ?_ yset_eq (fun b hb2 => ?_) p61
  · exact e2.1.co ⟨by omega, by omega⟩
  · rw [yset_nj hb2]
    exact e2.2 b
set_option maxRecDepth 8000 in
theorem yt_MC136 {K : List yV → yM → Prop} {Y : yNx} {g m : yM} {p f : Int} (hY : yCl zpD147 (zpZ, zpRS, zpP12, zpMT, [yC_NR, yC_WN, yC_TS, yC_WR, yC_MAD], (4, 102), 1) K Y) (hbs : g 90 16 = -1) (hb : ySb (ySm g)) (h : yRm g p f m) (hp : 0 ≤ p ∧ p ≤ 60) (hf : -1 ≤ f ∧ f ≤ 60) (hK : ∀ (m' : yM) (v : Int), yRm g (if (yTk (ySm g) 35 p f).2 = 1 then yRn (ySm g) 2 0 99 (yTk (ySm g) 35 p f).1 f else ((yTk (ySm g) 35 p f).1, f, (-1 : Int))).1 (if (yTk (ySm g) 35 p f).2 = 1 then yRn (ySm g) 2 0 99 (yTk (ySm g) 35 p f).1 f else ((yTk (ySm g) 35 p f).1, f, (-1 : Int))).2.1 m' → m' 109 5 = v → (∀ b : Nat, b ≠ 5 → m' 109 b = m 109 b) → ((if (yTk (ySm g) 35 p f).2 = 1 then yRn (ySm g) 2 0 99 (yTk (ySm g) 35 p f).1 f else ((yTk (ySm g) 35 p f).1, f, (-1 : Int))).2.1 = -1 → v = (if (yTk (ySm g) 35 p f).2 = 1 then yRn (ySm g) 2 0 99 (yTk (ySm g) 35 p f).1 f else ((yTk (ySm g) 35 p f).1, f, (-1 : Int))).2.2) → Y 163 [(3, 90)] [] m') : Y 136 [(3, 90)] [] m := by
  refine yrun_ok (sp := fun pc => Nat.beq pc 163) hY 15 136 _ [] _ ?_
  show (∃ (c1 : Int), [(3, 90), (1, 35)] = [(3, 90), (1, c1)] ∧ (0 ≤ m 90 17 ∧ m 90 17 ≤ 60) ∧ (m 90 18 ≤ 60) ∧ (-1 ≤ m 90 19) ∧ (m 90 16 < 0) ∧ (35 ≤ c1) ∧ (∀ (r2 : Int) (g3 : yM), (r2 = (yTk (ySm m) c1 (m 90 17) (m 90 19)).2) → (g3 = yset m 90 17 (yTk (ySm m) c1 (m 90 17) (m 90 19)).1) → ((r2 = 0 → (((0 : Int) ≤ 5 ∧ 5 < ((7 : Nat) : Int)) ∧ (Y 163 [(3, 90)] [] (yset g3 109 5 (-1))))) ∧ (¬ (r2 = 0) → (∃ (d6 a7 b8 : Int), [(3, 90), (1, 2), (1, 0), (1, 99)] = [(3, 90), (1, d6), (1, a7), (1, b8)] ∧ (d6 = 1 ∨ d6 = 2 ∨ d6 = 3) ∧ (0 ≤ g3 90 17 ∧ g3 90 17 ≤ 60) ∧ (g3 90 18 ≤ 60) ∧ (-1 ≤ g3 90 19) ∧ (g3 90 16 < 0) ∧ (∀ (r9 : Int) (g10 : yM), (g10 = yset (yset g3 90 17 (yRn (ySm g3) (Int.toNat d6) a7 b8 (g3 90 17) (g3 90 19)).1) 90 19 (yRn (ySm g3) (Int.toNat d6) a7 b8 (g3 90 17) (g3 90 19)).2.1) → ((yRn (ySm g3) (Int.toNat d6) a7 b8 (g3 90 17) (g3 90 19)).2.1 = -1 → r9 = (yRn (ySm g3) (Int.toNat d6) a7 b8 (g3 90 17) (g3 90 19)).2.2) → (0 ≤ r9 ∧ r9 ≤ 999) → (((0 : Int) ≤ 5 ∧ 5 < ((7 : Nat) : Int)) ∧ (Y 163 [(3, 90)] [] (yset g10 109 5 r9)))))))))
  refine ⟨_, rfl, (by
      have l2 : m 90 18 ≤ 60 := (h.1.fO (j := 18) (List.mem_of_getElem? (i := 42) rfl) rfl).2
      have l3 : m 90 16 = -1 := (h.2.1 90 16 (by omega) (by omega)).trans hbs
      have s0 := h.sc
      have s1 := h.2.2.1
      have s2 := h.2.2.2
      omega), (by
      have l2 : m 90 18 ≤ 60 := (h.1.fO (j := 18) (List.mem_of_getElem? (i := 42) rfl) rfl).2
      have l3 : m 90 16 = -1 := (h.2.1 90 16 (by omega) (by omega)).trans hbs
      have s0 := h.sc
      have s1 := h.2.2.1
      have s2 := h.2.2.2
      omega), (by
      have l2 : m 90 18 ≤ 60 := (h.1.fO (j := 18) (List.mem_of_getElem? (i := 42) rfl) rfl).2
      have l3 : m 90 16 = -1 := (h.2.1 90 16 (by omega) (by omega)).trans hbs
      have s0 := h.sc
      have s1 := h.2.2.1
      have s2 := h.2.2.2
      omega), (by
      have l2 : m 90 18 ≤ 60 := (h.1.fO (j := 18) (List.mem_of_getElem? (i := 42) rfl) rfl).2
      have l3 : m 90 16 = -1 := (h.2.1 90 16 (by omega) (by omega)).trans hbs
      have s0 := h.sc
      have s1 := h.2.2.1
      have s2 := h.2.2.2
      omega), (by
      have l2 : m 90 18 ≤ 60 := (h.1.fO (j := 18) (List.mem_of_getElem? (i := 42) rfl) rfl).2
      have l3 : m 90 16 = -1 := (h.2.1 90 16 (by omega) (by omega)).trans hbs
      have s0 := h.sc
      have s1 := h.2.2.1
      have s2 := h.2.2.2
      omega), ?_⟩
  intro r2 g3 p40 p41
  refine ⟨fun h5 => ?_, fun h5 => ?_⟩
  · refine ⟨(by omega), ?_⟩
    have l2 : m 90 18 ≤ 60 := (h.1.fO (j := 18) (List.mem_of_getElem? (i := 42) rfl) rfl).2
    have l3 : m 90 16 = -1 := (h.2.1 90 16 (by omega) (by omega)).trans hbs
    have s0 := h.sc
    have s1 := h.2.2.1
    have s2 := h.2.2.2
    rw [s0, s1, s2] at p40 p41
    have t0 := yTk_b hb (f := f) (c := 35) (by decide) hp
    have a9 : _ = yset (yset m 90 17 (yTk (ySm g) 35 p f).1) 90 19 f := p41.trans (by rw [← s2]; exact (yset_om m _ _ (by decide)).symm)
    have e1 := h.tp a9 t0.1 hf
    have u0 := e1.1.sc
    have u1 := e1.1.2.2.1
    have u2 := e1.1.2.2.2
    have et : ¬ (yTk (ySm g) 35 p f).2 = 1 := by omega
    rw [if_neg et] at hK
    refine hK _ (-1) ?_ yset_eq (fun b hb2 => ?_) (fun _ => rfl)
    · exact e1.1.co ⟨by decide, by decide⟩
    · rw [yset_nj hb2]
      exact e1.2 b
  · refine ⟨_, _, _, rfl, (by
      have l2 : m 90 18 ≤ 60 := (h.1.fO (j := 18) (List.mem_of_getElem? (i := 42) rfl) rfl).2
      have l3 : m 90 16 = -1 := (h.2.1 90 16 (by omega) (by omega)).trans hbs
      have s0 := h.sc
      have s1 := h.2.2.1
      have s2 := h.2.2.2
      have t0 := yTk_b hb (f := f) (c := 35) (by decide) hp
      rw [s0, s1, s2] at p41
      try rw [p41]
      have u1 : m 90 19 = f := s2
      have u2 := yset_ne (g := m) (q := 90) (j := 17) (v := (yTk (ySm g) 35 p f).1) (a := 90) (b := 19) (by decide)
      have u3 := yset_eq (g := m) (q := 90) (j := 17) (v := (yTk (ySm g) 35 p f).1)
      have u4 := yset_ne (g := m) (q := 90) (j := 17) (v := (yTk (ySm g) 35 p f).1) (a := 90) (b := 18) (by decide)
      have u5 := yset_ne (g := m) (q := 90) (j := 17) (v := (yTk (ySm g) 35 p f).1) (a := 90) (b := 16) (by decide)
      omega), (by
      have l2 : m 90 18 ≤ 60 := (h.1.fO (j := 18) (List.mem_of_getElem? (i := 42) rfl) rfl).2
      have l3 : m 90 16 = -1 := (h.2.1 90 16 (by omega) (by omega)).trans hbs
      have s0 := h.sc
      have s1 := h.2.2.1
      have s2 := h.2.2.2
      have t0 := yTk_b hb (f := f) (c := 35) (by decide) hp
      rw [s0, s1, s2] at p41
      try rw [p41]
      have u1 : m 90 19 = f := s2
      have u2 := yset_ne (g := m) (q := 90) (j := 17) (v := (yTk (ySm g) 35 p f).1) (a := 90) (b := 19) (by decide)
      have u3 := yset_eq (g := m) (q := 90) (j := 17) (v := (yTk (ySm g) 35 p f).1)
      have u4 := yset_ne (g := m) (q := 90) (j := 17) (v := (yTk (ySm g) 35 p f).1) (a := 90) (b := 18) (by decide)
      have u5 := yset_ne (g := m) (q := 90) (j := 17) (v := (yTk (ySm g) 35 p f).1) (a := 90) (b := 16) (by decide)
      omega), (by
      have l2 : m 90 18 ≤ 60 := (h.1.fO (j := 18) (List.mem_of_getElem? (i := 42) rfl) rfl).2
      have l3 : m 90 16 = -1 := (h.2.1 90 16 (by omega) (by omega)).trans hbs
      have s0 := h.sc
      have s1 := h.2.2.1
      have s2 := h.2.2.2
      have t0 := yTk_b hb (f := f) (c := 35) (by decide) hp
      rw [s0, s1, s2] at p41
      try rw [p41]
      have u1 : m 90 19 = f := s2
      have u2 := yset_ne (g := m) (q := 90) (j := 17) (v := (yTk (ySm g) 35 p f).1) (a := 90) (b := 19) (by decide)
      have u3 := yset_eq (g := m) (q := 90) (j := 17) (v := (yTk (ySm g) 35 p f).1)
      have u4 := yset_ne (g := m) (q := 90) (j := 17) (v := (yTk (ySm g) 35 p f).1) (a := 90) (b := 18) (by decide)
      have u5 := yset_ne (g := m) (q := 90) (j := 17) (v := (yTk (ySm g) 35 p f).1) (a := 90) (b := 16) (by decide)
      omega), (by
      have l2 : m 90 18 ≤ 60 := (h.1.fO (j := 18) (List.mem_of_getElem? (i := 42) rfl) rfl).2
      have l3 : m 90 16 = -1 := (h.2.1 90 16 (by omega) (by omega)).trans hbs
      have s0 := h.sc
      have s1 := h.2.2.1
      have s2 := h.2.2.2
      have t0 := yTk_b hb (f := f) (c := 35) (by decide) hp
      rw [s0, s1, s2] at p41
      try rw [p41]
      have u1 : m 90 19 = f := s2
      have u2 := yset_ne (g := m) (q := 90) (j := 17) (v := (yTk (ySm g) 35 p f).1) (a := 90) (b := 19) (by decide)
      have u3 := yset_eq (g := m) (q := 90) (j := 17) (v := (yTk (ySm g) 35 p f).1)
      have u4 := yset_ne (g := m) (q := 90) (j := 17) (v := (yTk (ySm g) 35 p f).1) (a := 90) (b := 18) (by decide)
      have u5 := yset_ne (g := m) (q := 90) (j := 17) (v := (yTk (ySm g) 35 p f).1) (a := 90) (b := 16) (by decide)
      omega), (by
      have l2 : m 90 18 ≤ 60 := (h.1.fO (j := 18) (List.mem_of_getElem? (i := 42) rfl) rfl).2
      have l3 : m 90 16 = -1 := (h.2.1 90 16 (by omega) (by omega)).trans hbs
      have s0 := h.sc
      have s1 := h.2.2.1
      have s2 := h.2.2.2
      have t0 := yTk_b hb (f := f) (c := 35) (by decide) hp
      rw [s0, s1, s2] at p41
      try rw [p41]
      have u1 : m 90 19 = f := s2
      have u2 := yset_ne (g := m) (q := 90) (j := 17) (v := (yTk (ySm g) 35 p f).1) (a := 90) (b := 19) (by decide)
      have u3 := yset_eq (g := m) (q := 90) (j := 17) (v := (yTk (ySm g) 35 p f).1)
      have u4 := yset_ne (g := m) (q := 90) (j := 17) (v := (yTk (ySm g) 35 p f).1) (a := 90) (b := 18) (by decide)
      have u5 := yset_ne (g := m) (q := 90) (j := 17) (v := (yTk (ySm g) 35 p f).1) (a := 90) (b := 16) (by decide)
      omega), ?_⟩
    intro r9 g10 p110 p111 p112
    refine ⟨(by omega), ?_⟩
    have l2 : m 90 18 ≤ 60 := (h.1.fO (j := 18) (List.mem_of_getElem? (i := 42) rfl) rfl).2
    have l3 : m 90 16 = -1 := (h.2.1 90 16 (by omega) (by omega)).trans hbs
    have s0 := h.sc
    have s1 := h.2.2.1
    have s2 := h.2.2.2
    rw [s0, s1, s2] at p40 p41
    have t0 := yTk_b hb (f := f) (c := 35) (by decide) hp
    have a9 : _ = yset (yset m 90 17 (yTk (ySm g) 35 p f).1) 90 19 f := p41.trans (by rw [← s2]; exact (yset_om m _ _ (by decide)).symm)
    have e1 := h.tp a9 t0.1 hf
    have u0 := e1.1.sc
    have u1 := e1.1.2.2.1
    have u2 := e1.1.2.2.2
    have t3 : Int.toNat 2 = 2 := rfl
    rw [u0, u1, u2, t3] at p110 p111
    have et : (yTk (ySm g) 35 p f).2 = 1 := by omega
    have e := yRn_b hb (d := 2) (lo := 0) (hi := 99) t0.1 hf
    have e2 := e1.1.tp p110 e.1 e.2.1
    rw [if_pos et] at hK
    refine hK _ r9 ?_ yset_eq (fun b hb2 => ?_) p111
    · exact e2.1.co ⟨by omega, by omega⟩
    · rw [yset_nj hb2, e2.2 b]
      exact e1.2 b
set_option maxRecDepth 8000 in
theorem yt_MC163 {K : List yV → yM → Prop} {Y : yNx} {g m : yM} {p f : Int} (hY : yCl zpD147 (zpZ, zpRS, zpP12, zpMT, [yC_NR, yC_WN, yC_TS, yC_WR, yC_MAD], (4, 102), 1) K Y) (hbs : g 90 16 = -1) (hb : ySb (ySm g)) (h : yRm g p f m) (hp : 0 ≤ p ∧ p ≤ 60) (hf : -1 ≤ f ∧ f ≤ 60) {u : Int} (hu : f = -1 → m 109 2 = u) (hK : ∀ (m' : yM) (v : Int), yRm g (if (yTk (ySm g) 108 p f).2 = 1 then yRn (ySm g) 1 0 3 (yTk (ySm g) 108 p f).1 f else ((yTk (ySm g) 108 p f).1, f, u)).1 (if (yTk (ySm g) 108 p f).2 = 1 then yRn (ySm g) 1 0 3 (yTk (ySm g) 108 p f).1 f else ((yTk (ySm g) 108 p f).1, f, u)).2.1 m' → m' 109 6 = v → (∀ b : Nat, b ≠ 6 → m' 109 b = m 109 b) → ((if (yTk (ySm g) 108 p f).2 = 1 then yRn (ySm g) 1 0 3 (yTk (ySm g) 108 p f).1 f else ((yTk (ySm g) 108 p f).1, f, u)).2.1 = -1 → v = (if (yTk (ySm g) 108 p f).2 = 1 then yRn (ySm g) 1 0 3 (yTk (ySm g) 108 p f).1 f else ((yTk (ySm g) 108 p f).1, f, u)).2.2) → Y 195 [(3, 90)] [] m') : Y 163 [(3, 90)] [] m := by
  refine yrun_ok (sp := fun pc => Nat.beq pc 195) hY 15 163 _ [] _ ?_
  show (∃ (c1 : Int), [(3, 90), (1, 108)] = [(3, 90), (1, c1)] ∧ (0 ≤ m 90 17 ∧ m 90 17 ≤ 60) ∧ (m 90 18 ≤ 60) ∧ (-1 ≤ m 90 19) ∧ (m 90 16 < 0) ∧ (35 ≤ c1) ∧ (∀ (r2 : Int) (g3 : yM), (r2 = (yTk (ySm m) c1 (m 90 17) (m 90 19)).2) → (g3 = yset m 90 17 (yTk (ySm m) c1 (m 90 17) (m 90 19)).1) → ((r2 = 0 → (((0 : Int) ≤ 2 ∧ 2 < ((7 : Nat) : Int)) ∧ (((0 : Int) ≤ 6 ∧ 6 < ((7 : Nat) : Int)) ∧ (Y 195 [(3, 90)] [] (yset g3 109 6 (g3 109 2)))))) ∧ (¬ (r2 = 0) → (∃ (d6 a7 b8 : Int), [(3, 90), (1, 1), (1, 0), (1, 3)] = [(3, 90), (1, d6), (1, a7), (1, b8)] ∧ (d6 = 1 ∨ d6 = 2 ∨ d6 = 3) ∧ (0 ≤ g3 90 17 ∧ g3 90 17 ≤ 60) ∧ (g3 90 18 ≤ 60) ∧ (-1 ≤ g3 90 19) ∧ (g3 90 16 < 0) ∧ (∀ (r9 : Int) (g10 : yM), (g10 = yset (yset g3 90 17 (yRn (ySm g3) (Int.toNat d6) a7 b8 (g3 90 17) (g3 90 19)).1) 90 19 (yRn (ySm g3) (Int.toNat d6) a7 b8 (g3 90 17) (g3 90 19)).2.1) → ((yRn (ySm g3) (Int.toNat d6) a7 b8 (g3 90 17) (g3 90 19)).2.1 = -1 → r9 = (yRn (ySm g3) (Int.toNat d6) a7 b8 (g3 90 17) (g3 90 19)).2.2) → (0 ≤ r9 ∧ r9 ≤ 999) → (((0 : Int) ≤ 6 ∧ 6 < ((7 : Nat) : Int)) ∧ (Y 195 [(3, 90)] [] (yset g10 109 6 r9)))))))))
  refine ⟨_, rfl, (by
      have l2 : m 90 18 ≤ 60 := (h.1.fO (j := 18) (List.mem_of_getElem? (i := 42) rfl) rfl).2
      have l3 : m 90 16 = -1 := (h.2.1 90 16 (by omega) (by omega)).trans hbs
      have s0 := h.sc
      have s1 := h.2.2.1
      have s2 := h.2.2.2
      omega), (by
      have l2 : m 90 18 ≤ 60 := (h.1.fO (j := 18) (List.mem_of_getElem? (i := 42) rfl) rfl).2
      have l3 : m 90 16 = -1 := (h.2.1 90 16 (by omega) (by omega)).trans hbs
      have s0 := h.sc
      have s1 := h.2.2.1
      have s2 := h.2.2.2
      omega), (by
      have l2 : m 90 18 ≤ 60 := (h.1.fO (j := 18) (List.mem_of_getElem? (i := 42) rfl) rfl).2
      have l3 : m 90 16 = -1 := (h.2.1 90 16 (by omega) (by omega)).trans hbs
      have s0 := h.sc
      have s1 := h.2.2.1
      have s2 := h.2.2.2
      omega), (by
      have l2 : m 90 18 ≤ 60 := (h.1.fO (j := 18) (List.mem_of_getElem? (i := 42) rfl) rfl).2
      have l3 : m 90 16 = -1 := (h.2.1 90 16 (by omega) (by omega)).trans hbs
      have s0 := h.sc
      have s1 := h.2.2.1
      have s2 := h.2.2.2
      omega), (by
      have l2 : m 90 18 ≤ 60 := (h.1.fO (j := 18) (List.mem_of_getElem? (i := 42) rfl) rfl).2
      have l3 : m 90 16 = -1 := (h.2.1 90 16 (by omega) (by omega)).trans hbs
      have s0 := h.sc
      have s1 := h.2.2.1
      have s2 := h.2.2.2
      omega), ?_⟩
  intro r2 g3 p40 p41
  refine ⟨fun h5 => ?_, fun h5 => ?_⟩
  · refine ⟨(by omega), ?_⟩
    refine ⟨(by omega), ?_⟩
    have l2 : m 90 18 ≤ 60 := (h.1.fO (j := 18) (List.mem_of_getElem? (i := 42) rfl) rfl).2
    have l3 : m 90 16 = -1 := (h.2.1 90 16 (by omega) (by omega)).trans hbs
    have s0 := h.sc
    have s1 := h.2.2.1
    have s2 := h.2.2.2
    rw [s0, s1, s2] at p40 p41
    have t0 := yTk_b hb (f := f) (c := 108) (by decide) hp
    have a9 : _ = yset (yset m 90 17 (yTk (ySm g) 108 p f).1) 90 19 f := p41.trans (by rw [← s2]; exact (yset_om m _ _ (by decide)).symm)
    have e1 := h.tp a9 t0.1 hf
    have u0 := e1.1.sc
    have u1 := e1.1.2.2.1
    have u2 := e1.1.2.2.2
    have et : ¬ (yTk (ySm g) 108 p f).2 = 1 := by omega
    rw [if_neg et] at hK
    refine hK _ (m 109 2) ?_ ?_ (fun b hb2 => ?_) hu
    · exact e1.1.co (e1.1.1.fA (List.mem_of_getElem? (i := 61) rfl) (by decide))
    · rw [yset_eq]
      exact e1.2 2
    · rw [yset_nj hb2]
      exact e1.2 b
  · refine ⟨_, _, _, rfl, (by
      have l2 : m 90 18 ≤ 60 := (h.1.fO (j := 18) (List.mem_of_getElem? (i := 42) rfl) rfl).2
      have l3 : m 90 16 = -1 := (h.2.1 90 16 (by omega) (by omega)).trans hbs
      have s0 := h.sc
      have s1 := h.2.2.1
      have s2 := h.2.2.2
      have t0 := yTk_b hb (f := f) (c := 108) (by decide) hp
      rw [s0, s1, s2] at p41
      try rw [p41]
      have u1 : m 90 19 = f := s2
      have u2 := yset_ne (g := m) (q := 90) (j := 17) (v := (yTk (ySm g) 108 p f).1) (a := 90) (b := 19) (by decide)
      have u3 := yset_eq (g := m) (q := 90) (j := 17) (v := (yTk (ySm g) 108 p f).1)
      have u4 := yset_ne (g := m) (q := 90) (j := 17) (v := (yTk (ySm g) 108 p f).1) (a := 90) (b := 18) (by decide)
      have u5 := yset_ne (g := m) (q := 90) (j := 17) (v := (yTk (ySm g) 108 p f).1) (a := 90) (b := 16) (by decide)
      omega), (by
      have l2 : m 90 18 ≤ 60 := (h.1.fO (j := 18) (List.mem_of_getElem? (i := 42) rfl) rfl).2
      have l3 : m 90 16 = -1 := (h.2.1 90 16 (by omega) (by omega)).trans hbs
      have s0 := h.sc
      have s1 := h.2.2.1
      have s2 := h.2.2.2
      have t0 := yTk_b hb (f := f) (c := 108) (by decide) hp
      rw [s0, s1, s2] at p41
      try rw [p41]
      have u1 : m 90 19 = f := s2
      have u2 := yset_ne (g := m) (q := 90) (j := 17) (v := (yTk (ySm g) 108 p f).1) (a := 90) (b := 19) (by decide)
      have u3 := yset_eq (g := m) (q := 90) (j := 17) (v := (yTk (ySm g) 108 p f).1)
      have u4 := yset_ne (g := m) (q := 90) (j := 17) (v := (yTk (ySm g) 108 p f).1) (a := 90) (b := 18) (by decide)
      have u5 := yset_ne (g := m) (q := 90) (j := 17) (v := (yTk (ySm g) 108 p f).1) (a := 90) (b := 16) (by decide)
      omega), (by
      have l2 : m 90 18 ≤ 60 := (h.1.fO (j := 18) (List.mem_of_getElem? (i := 42) rfl) rfl).2
      have l3 : m 90 16 = -1 := (h.2.1 90 16 (by omega) (by omega)).trans hbs
      have s0 := h.sc
      have s1 := h.2.2.1
      have s2 := h.2.2.2
      have t0 := yTk_b hb (f := f) (c := 108) (by decide) hp
      rw [s0, s1, s2] at p41
      try rw [p41]
      have u1 : m 90 19 = f := s2
      have u2 := yset_ne (g := m) (q := 90) (j := 17) (v := (yTk (ySm g) 108 p f).1) (a := 90) (b := 19) (by decide)
      have u3 := yset_eq (g := m) (q := 90) (j := 17) (v := (yTk (ySm g) 108 p f).1)
      have u4 := yset_ne (g := m) (q := 90) (j := 17) (v := (yTk (ySm g) 108 p f).1) (a := 90) (b := 18) (by decide)
      have u5 := yset_ne (g := m) (q := 90) (j := 17) (v := (yTk (ySm g) 108 p f).1) (a := 90) (b := 16) (by decide)
      omega), (by
      have l2 : m 90 18 ≤ 60 := (h.1.fO (j := 18) (List.mem_of_getElem? (i := 42) rfl) rfl).2
      have l3 : m 90 16 = -1 := (h.2.1 90 16 (by omega) (by omega)).trans hbs
      have s0 := h.sc
      have s1 := h.2.2.1
      have s2 := h.2.2.2
      have t0 := yTk_b hb (f := f) (c := 108) (by decide) hp
      rw [s0, s1, s2] at p41
      try rw [p41]
      have u1 : m 90 19 = f := s2
      have u2 := yset_ne (g := m) (q := 90) (j := 17) (v := (yTk (ySm g) 108 p f).1) (a := 90) (b := 19) (by decide)
      have u3 := yset_eq (g := m) (q := 90) (j := 17) (v := (yTk (ySm g) 108 p f).1)
      have u4 := yset_ne (g := m) (q := 90) (j := 17) (v := (yTk (ySm g) 108 p f).1) (a := 90) (b := 18) (by decide)
      have u5 := yset_ne (g := m) (q := 90) (j := 17) (v := (yTk (ySm g) 108 p f).1) (a := 90) (b := 16) (by decide)
      omega), (by
      have l2 : m 90 18 ≤ 60 := (h.1.fO (j := 18) (List.mem_of_getElem? (i := 42) rfl) rfl).2
      have l3 : m 90 16 = -1 := (h.2.1 90 16 (by omega) (by omega)).trans hbs
      have s0 := h.sc
      have s1 := h.2.2.1
      have s2 := h.2.2.2
      have t0 := yTk_b hb (f := f) (c := 108) (by decide) hp
      rw [s0, s1, s2] at p41
      try rw [p41]
      have u1 : m 90 19 = f := s2
      have u2 := yset_ne (g := m) (q := 90) (j := 17) (v := (yTk (ySm g) 108 p f).1) (a := 90) (b := 19) (by decide)
      have u3 := yset_eq (g := m) (q := 90) (j := 17) (v := (yTk (ySm g) 108 p f).1)
      have u4 := yset_ne (g := m) (q := 90) (j := 17) (v := (yTk (ySm g) 108 p f).1) (a := 90) (b := 18) (by decide)
      have u5 := yset_ne (g := m) (q := 90) (j := 17) (v := (yTk (ySm g) 108 p f).1) (a := 90) (b := 16) (by decide)
      omega), ?_⟩
    intro r9 g10 p110 p111 p112
    refine ⟨(by omega), ?_⟩
    have l2 : m 90 18 ≤ 60 := (h.1.fO (j := 18) (List.mem_of_getElem? (i := 42) rfl) rfl).2
    have l3 : m 90 16 = -1 := (h.2.1 90 16 (by omega) (by omega)).trans hbs
    have s0 := h.sc
    have s1 := h.2.2.1
    have s2 := h.2.2.2
    rw [s0, s1, s2] at p40 p41
    have t0 := yTk_b hb (f := f) (c := 108) (by decide) hp
    have a9 : _ = yset (yset m 90 17 (yTk (ySm g) 108 p f).1) 90 19 f := p41.trans (by rw [← s2]; exact (yset_om m _ _ (by decide)).symm)
    have e1 := h.tp a9 t0.1 hf
    have u0 := e1.1.sc
    have u1 := e1.1.2.2.1
    have u2 := e1.1.2.2.2
    have t3 : Int.toNat 1 = 1 := rfl
    rw [u0, u1, u2, t3] at p110 p111
    have et : (yTk (ySm g) 108 p f).2 = 1 := by omega
    have e := yRn_b hb (d := 1) (lo := 0) (hi := 3) t0.1 hf
    have e2 := e1.1.tp p110 e.1 e.2.1
    rw [if_pos et] at hK
    refine hK _ r9 ?_ yset_eq (fun b hb2 => ?_) p111
    · exact e2.1.co ⟨by omega, by omega⟩
    · rw [yset_nj hb2, e2.2 b]
      exact e1.2 b
set_option maxRecDepth 8000 in
theorem yt_MC195 {K : List yV → yM → Prop} {Y : yNx} {g m : yM} {p f : Int} (hY : yCl zpD147 (zpZ, zpRS, zpP12, zpMT, [yC_NR, yC_WN, yC_TS, yC_WR, yC_MAD], (4, 102), 1) K Y) (hbs : g 90 16 = -1) (hb : ySb (ySm g)) (h : yRm g p f m) (hp : 0 ≤ p ∧ p ≤ 60) (hf : -1 ≤ f ∧ f ≤ 60) (hc : 0 ≤ g 90 22 ∧ g 90 22 < 40) (hm : (if f = -1 ∧ p < g 90 18 then p else f) = -1 → 0 ≤ m 109 3 ∧ m 109 3 ≤ 5) (hK : ∀ m' : yM, yTy zpZ m' → (∀ a b : Nat, ¬ (a = 90 ∧ (b = 17 ∨ b = 19)) → a ≠ 109 → m' a b = g a b) → (∀ b : Nat, m' 109 b = m 109 b) → ((if f = -1 ∧ p < g 90 18 then p else f) ≠ -1 → K [(1, -100 - (if f = -1 ∧ p < g 90 18 then p else f))] (yset m' 90 13 0)) ∧ ((if f = -1 ∧ p < g 90 18 then p else f) = -1 → K [(1, g 90 22)] (yadd (yset m' 90 13 0)))) : Y 195 [(3, 90)] [] m := by
  refine yrun_ok (sp := fun pc => false) hY 24 195 _ [] _ ?_
  show ((0 ≤ (m 90 19) → (((m 90 19) < 0 → ([(3, 90)] = [(3, 90)] ∧ (0 ≤ (yset m 90 13 0) 90 22 ∧ (yset m 90 13 0) 90 22 < 40) ∧ (∀ (g3 : yM), (g3 = yadd (yset m 90 13 0)) → (K [(1, (yw ((g3 90 22) - 1)))] g3)))) ∧ (¬ ((m 90 19) < 0) → (K [(1, (yw ((-100) - (m 90 19))))] (yset m 90 13 0))))) ∧ (¬ (0 ≤ (m 90 19)) → (((m 90 18) ≤ (m 90 17) → (((m 90 19) < 0 → ([(3, 90)] = [(3, 90)] ∧ (0 ≤ (yset m 90 13 0) 90 22 ∧ (yset m 90 13 0) 90 22 < 40) ∧ (∀ (g7 : yM), (g7 = yadd (yset m 90 13 0)) → (K [(1, (yw ((g7 90 22) - 1)))] g7)))) ∧ (¬ ((m 90 19) < 0) → (K [(1, (yw ((-100) - (m 90 19))))] (yset m 90 13 0))))) ∧ (¬ ((m 90 18) ≤ (m 90 17)) → ([(3, 90)] = [(3, 90)] ∧ (0 ≤ m 90 17 ∧ m 90 17 ≤ 60) ∧ (-1 ≤ m 90 19) ∧ (∀ (r9 : Int) (g10 : yM), (r9 = 0) → (m 90 19 = -1 → g10 = yset m 90 19 (m 90 17)) → (m 90 19 ≠ -1 → g10 = m) → (((g10 90 19) < 0 → ([(3, 90)] = [(3, 90)] ∧ (0 ≤ (yset g10 90 13 0) 90 22 ∧ (yset g10 90 13 0) 90 22 < 40) ∧ (∀ (g13 : yM), (g13 = yadd (yset g10 90 13 0)) → (K [(1, (yw ((g13 90 22) - 1)))] g13)))) ∧ (¬ ((g10 90 19) < 0) → (K [(1, (yw ((-100) - (g10 90 19))))] (yset g10 90 13 0))))))))))
  refine ⟨fun h1 => ?_, fun h1 => ?_⟩
  · refine ⟨fun h2 => ?_, fun h2 => ?_⟩
    · refine ⟨rfl, (by
      have l2 : m 90 18 ≤ 60 := (h.1.fO (j := 18) (List.mem_of_getElem? (i := 42) rfl) rfl).2
      have l3 : m 90 16 = -1 := (h.2.1 90 16 (by omega) (by omega)).trans hbs
      have s0 := h.sc
      have s1 := h.2.2.1
      have s2 := h.2.2.2
      have sl : m 90 18 = g 90 18 := h.2.1 90 18 (by omega) (by omega)
      have sc : m 90 22 = g 90 22 := h.2.1 90 22 (by omega) (by omega)
      have e8 : (yset m 90 13 0) 90 22 = m 90 22 := yset_ne (by decide)
      omega), ?_⟩
      intro g3 p40
      subst p40
      have l2 : m 90 18 ≤ 60 := (h.1.fO (j := 18) (List.mem_of_getElem? (i := 42) rfl) rfl).2
      have l3 : m 90 16 = -1 := (h.2.1 90 16 (by omega) (by omega)).trans hbs
      have s0 := h.sc
      have s1 := h.2.2.1
      have s2 := h.2.2.2
      have sl : m 90 18 = g 90 18 := h.2.1 90 18 (by omega) (by omega)
      have sc : m 90 22 = g 90 22 := h.2.1 90 22 (by omega) (by omega)
      have hz : (if f = -1 ∧ p < g 90 18 then p else f) = f := if_neg (by omega)
      have e8 : (yset m 90 13 0) 90 22 = m 90 22 := yset_ne (by decide)
      first
        | omega
        | (have e9 := yadd_22 (yset m 90 13 0)
           have e10 := yw_s (yadd (yset m 90 13 0) 90 22 - 1)
           have e11 : yw (yadd (yset m 90 13 0) 90 22 - 1) = g 90 22 := by omega
           rw [e11]
           exact (hK m h.1 h.2.1 (fun _ => rfl)).2 (by omega))
    · have l2 : m 90 18 ≤ 60 := (h.1.fO (j := 18) (List.mem_of_getElem? (i := 42) rfl) rfl).2
      have l3 : m 90 16 = -1 := (h.2.1 90 16 (by omega) (by omega)).trans hbs
      have s0 := h.sc
      have s1 := h.2.2.1
      have s2 := h.2.2.2
      have sl : m 90 18 = g 90 18 := h.2.1 90 18 (by omega) (by omega)
      have sc : m 90 22 = g 90 22 := h.2.1 90 22 (by omega) (by omega)
      have hz : (if f = -1 ∧ p < g 90 18 then p else f) = f := if_neg (by omega)
      have e10 := yw_s (-100 - m 90 19)
      have e11 : yw (-100 - m 90 19) = -100 - (if f = -1 ∧ p < g 90 18 then p else f) := by omega
      first
        | omega
        | (rw [e11]
           exact (hK m h.1 h.2.1 (fun _ => rfl)).1 (by omega))
  · refine ⟨fun h5 => ?_, fun h5 => ?_⟩
    · refine ⟨fun h6 => ?_, fun h6 => ?_⟩
      · refine ⟨rfl, (by
      have l2 : m 90 18 ≤ 60 := (h.1.fO (j := 18) (List.mem_of_getElem? (i := 42) rfl) rfl).2
      have l3 : m 90 16 = -1 := (h.2.1 90 16 (by omega) (by omega)).trans hbs
      have s0 := h.sc
      have s1 := h.2.2.1
      have s2 := h.2.2.2
      have sl : m 90 18 = g 90 18 := h.2.1 90 18 (by omega) (by omega)
      have sc : m 90 22 = g 90 22 := h.2.1 90 22 (by omega) (by omega)
      have e8 : (yset m 90 13 0) 90 22 = m 90 22 := yset_ne (by decide)
      omega), ?_⟩
        intro g7 p80
        subst p80
        have l2 : m 90 18 ≤ 60 := (h.1.fO (j := 18) (List.mem_of_getElem? (i := 42) rfl) rfl).2
        have l3 : m 90 16 = -1 := (h.2.1 90 16 (by omega) (by omega)).trans hbs
        have s0 := h.sc
        have s1 := h.2.2.1
        have s2 := h.2.2.2
        have sl : m 90 18 = g 90 18 := h.2.1 90 18 (by omega) (by omega)
        have sc : m 90 22 = g 90 22 := h.2.1 90 22 (by omega) (by omega)
        have hz : (if f = -1 ∧ p < g 90 18 then p else f) = f := if_neg (by omega)
        have e8 : (yset m 90 13 0) 90 22 = m 90 22 := yset_ne (by decide)
        first
          | omega
          | (have e9 := yadd_22 (yset m 90 13 0)
             have e10 := yw_s (yadd (yset m 90 13 0) 90 22 - 1)
             have e11 : yw (yadd (yset m 90 13 0) 90 22 - 1) = g 90 22 := by omega
             rw [e11]
             exact (hK m h.1 h.2.1 (fun _ => rfl)).2 (by omega))
      · have l2 : m 90 18 ≤ 60 := (h.1.fO (j := 18) (List.mem_of_getElem? (i := 42) rfl) rfl).2
        have l3 : m 90 16 = -1 := (h.2.1 90 16 (by omega) (by omega)).trans hbs
        have s0 := h.sc
        have s1 := h.2.2.1
        have s2 := h.2.2.2
        have sl : m 90 18 = g 90 18 := h.2.1 90 18 (by omega) (by omega)
        have sc : m 90 22 = g 90 22 := h.2.1 90 22 (by omega) (by omega)
        have hz : (if f = -1 ∧ p < g 90 18 then p else f) = f := if_neg (by omega)
        have e10 := yw_s (-100 - m 90 19)
        have e11 : yw (-100 - m 90 19) = -100 - (if f = -1 ∧ p < g 90 18 then p else f) := by omega
        first
          | omega
          | (rw [e11]
             exact (hK m h.1 h.2.1 (fun _ => rfl)).1 (by omega))
    · refine ⟨rfl, (by
      have l2 : m 90 18 ≤ 60 := (h.1.fO (j := 18) (List.mem_of_getElem? (i := 42) rfl) rfl).2
      have l3 : m 90 16 = -1 := (h.2.1 90 16 (by omega) (by omega)).trans hbs
      have s0 := h.sc
      have s1 := h.2.2.1
      have s2 := h.2.2.2
      have sl : m 90 18 = g 90 18 := h.2.1 90 18 (by omega) (by omega)
      have sc : m 90 22 = g 90 22 := h.2.1 90 22 (by omega) (by omega)
      have e8 : (yset m 90 13 0) 90 22 = m 90 22 := yset_ne (by decide)
      omega), (by
      have l2 : m 90 18 ≤ 60 := (h.1.fO (j := 18) (List.mem_of_getElem? (i := 42) rfl) rfl).2
      have l3 : m 90 16 = -1 := (h.2.1 90 16 (by omega) (by omega)).trans hbs
      have s0 := h.sc
      have s1 := h.2.2.1
      have s2 := h.2.2.2
      have sl : m 90 18 = g 90 18 := h.2.1 90 18 (by omega) (by omega)
      have sc : m 90 22 = g 90 22 := h.2.1 90 22 (by omega) (by omega)
      have e8 : (yset m 90 13 0) 90 22 = m 90 22 := yset_ne (by decide)
      omega), ?_⟩
      intro r9 g10 p110 p111 p112
      refine ⟨fun h12 => ?_, fun h12 => ?_⟩
      · refine ⟨rfl, (by
      have l2 : m 90 18 ≤ 60 := (h.1.fO (j := 18) (List.mem_of_getElem? (i := 42) rfl) rfl).2
      have l3 : m 90 16 = -1 := (h.2.1 90 16 (by omega) (by omega)).trans hbs
      have s0 := h.sc
      have s1 := h.2.2.1
      have s2 := h.2.2.2
      have sl : m 90 18 = g 90 18 := h.2.1 90 18 (by omega) (by omega)
      have sc : m 90 22 = g 90 22 := h.2.1 90 22 (by omega) (by omega)
      have hz : (if f = -1 ∧ p < g 90 18 then p else f) = p := if_pos (by omega)
      have e4 := p111 (by omega)
      rw [s1] at e4
      have e5 := h.tp (e4.trans (by rw [← s1, yset_id]) : g10 = yset (yset m 90 17 p) 90 19 p) hp ⟨by omega, by omega⟩
      have e6 := e5.1.2.2.2
      have e7 := e5.1.2.1 90 22 (by omega) (by omega)
      have e8 : (yset g10 90 13 0) 90 22 = g10 90 22 := yset_ne (by decide)
      omega), ?_⟩
        intro g13 p140
        subst p140
        have l2 : m 90 18 ≤ 60 := (h.1.fO (j := 18) (List.mem_of_getElem? (i := 42) rfl) rfl).2
        have l3 : m 90 16 = -1 := (h.2.1 90 16 (by omega) (by omega)).trans hbs
        have s0 := h.sc
        have s1 := h.2.2.1
        have s2 := h.2.2.2
        have sl : m 90 18 = g 90 18 := h.2.1 90 18 (by omega) (by omega)
        have sc : m 90 22 = g 90 22 := h.2.1 90 22 (by omega) (by omega)
        have hz : (if f = -1 ∧ p < g 90 18 then p else f) = p := if_pos (by omega)
        have e4 := p111 (by omega)
        rw [s1] at e4
        have e5 := h.tp (e4.trans (by rw [← s1, yset_id]) : g10 = yset (yset m 90 17 p) 90 19 p) hp ⟨by omega, by omega⟩
        have e6 := e5.1.2.2.2
        have e7 := e5.1.2.1 90 22 (by omega) (by omega)
        have e8 : (yset g10 90 13 0) 90 22 = g10 90 22 := yset_ne (by decide)
        first
          | omega
          | (have e9 := yadd_22 (yset g10 90 13 0)
             have e10 := yw_s (yadd (yset g10 90 13 0) 90 22 - 1)
             have e11 : yw (yadd (yset g10 90 13 0) 90 22 - 1) = g 90 22 := by omega
             rw [e11]
             exact (hK g10 e5.1.1 e5.1.2.1 e5.2).2 (by omega))
      · have l2 : m 90 18 ≤ 60 := (h.1.fO (j := 18) (List.mem_of_getElem? (i := 42) rfl) rfl).2
        have l3 : m 90 16 = -1 := (h.2.1 90 16 (by omega) (by omega)).trans hbs
        have s0 := h.sc
        have s1 := h.2.2.1
        have s2 := h.2.2.2
        have sl : m 90 18 = g 90 18 := h.2.1 90 18 (by omega) (by omega)
        have sc : m 90 22 = g 90 22 := h.2.1 90 22 (by omega) (by omega)
        have hz : (if f = -1 ∧ p < g 90 18 then p else f) = p := if_pos (by omega)
        have e4 := p111 (by omega)
        rw [s1] at e4
        have e5 := h.tp (e4.trans (by rw [← s1, yset_id]) : g10 = yset (yset m 90 17 p) 90 19 p) hp ⟨by omega, by omega⟩
        have e6 := e5.1.2.2.2
        have e7 := e5.1.2.1 90 22 (by omega) (by omega)
        have e10 := yw_s (-100 - g10 90 19)
        have e11 : yw (-100 - g10 90 19) = -100 - (if f = -1 ∧ p < g 90 18 then p else f) := by omega
        first
          | omega
          | (rw [e11]
             exact (hK g10 e5.1.1 e5.1.2.1 e5.2).1 (by omega))
set_option maxRecDepth 8000 in
theorem yt_MCf {K : List yV → yM → Prop} {Y : yNx} {g G m : yM} (hY : yCl zpD147 (zpZ, zpRS, zpP12, zpMT, [yC_NR, yC_WN, yC_TS, yC_WR, yC_MAD], (4, 102), 1) K Y) (hbs : G 90 16 = -1) (hb : ySb (ySm G)) (gf : ∀ a b : Nat, ¬ (a = 90 ∧ 16 ≤ b ∧ b ≤ 19) → G a b = g a b) (h18 : G 90 18 = g 90 13) (hS : ySm G = yTm g) (hn : 0 ≤ g 90 22 ∧ g 90 22 ≤ 40) (hne : g 90 22 ≠ 40) (h13 : yRm G (yS13 (ySm G)).1 (yS13 (ySm G)).2.1 m) (vals : yPf (yTm g) (g 90 13) = -1 → m 109 0 = yPv (yTm g) 1 ∧ m 109 1 = yPv (yTm g) 2 ∧ m 109 2 = yPv (yTm g) 3 ∧ m 109 3 = yPv (yTm g) 4 ∧ m 109 4 = yPv (yTm g) 5 ∧ m 109 5 = yPv (yTm g) 6 ∧ m 109 6 = yPv (yTm g) 7) (hK : ∀ (r : Int) (g' : yM), (g 90 22 = 40 → r = -3 ∧ g' = g) → (g 90 22 ≠ 40 → yPf (yTm g) (g 90 13) ≠ -1 → r = -100 - yPf (yTm g) (g 90 13) ∧ yTy zpZ g' ∧ g' 90 13 = 0 ∧ (∀ a b : Nat, ¬ (a = 90 ∧ (b = 13 ∨ (16 ≤ b ∧ b ≤ 19))) → a ≠ 109 → g' a b = g a b)) → (g 90 22 ≠ 40 → yPf (yTm g) (g 90 13) = -1 → r = g 90 22 ∧ yTy zpZ g' ∧ g' 90 13 = 0 ∧ g' 90 22 = g 90 22 + 1 ∧ (g' 91 (Int.toNat (g 90 22)) = yPv (yTm g) 1 ∧ g' 102 (Int.toNat (g 90 22)) = yPv (yTm g) 2 ∧ g' 103 (Int.toNat (g 90 22)) = yPv (yTm g) 3 ∧ g' 104 (Int.toNat (g 90 22)) = yPv (yTm g) 4 ∧ g' 105 (Int.toNat (g 90 22)) = yPv (yTm g) 5 ∧ g' 106 (Int.toNat (g 90 22)) = yPv (yTm g) 6 ∧ g' 107 (Int.toNat (g 90 22)) = yPv (yTm g) 7) ∧ g' 101 (Int.toNat (g 90 22)) = g 90 10 ∧ g' 108 (Int.toNat (g 90 22)) = -1 ∧ (∀ a b : Nat, ¬ (a = 90 ∧ (b = 13 ∨ (16 ≤ b ∧ b ≤ 19) ∨ b = 22)) → a ≠ 109 → ¬ ((a = 91 ∨ (101 ≤ a ∧ a ≤ 108)) ∧ b = (Int.toNat (g 90 22))) → g' a b = g a b)) → K [(1, r)] g') : Y 195 [(3, 90)] [] m := by
  have hFZ : (if (yS13 (ySm G)).2.1 = -1 ∧ (yS13 (ySm G)).1 < G 90 18 then (yS13 (ySm G)).1 else (yS13 (ySm G)).2.1) = yPf (yTm g) (g 90 13) := by rw [h18, hS]; rfl
  have hbT : ySb (yTm g) := by rw [← hS]; exact hb
  have gc : G 90 22 = g 90 22 := gf 90 22 (by omega)
  refine yt_MC195 hY hbs hb (p := (yS13 (ySm G)).1) (f := (yS13 (ySm G)).2.1) h13 (yS13_b hb).1 (yS13_b hb).2.1 (by omega) (fun e => ?_) (fun m' ht hfr hfd => ?_)
  · rw [hFZ] at e
    rw [(vals e).2.2.2.1]
    exact (yPv_b hbT e).2.2.1
  · rw [hFZ, gc]
    have mc : m' 90 22 = g 90 22 := (hfr 90 22 (by omega) (by omega)).trans gc
    have t2 : yTy zpZ (yset m' 90 13 0) := yTy.sO ht (List.mem_of_getElem? (i := 42) rfl) rfl (by decide +kernel) ⟨by decide, by decide⟩
    refine ⟨fun e => ?_, fun e => ?_⟩
    · refine hK _ _ (fun h => absurd h hne) (fun _ _ => ⟨rfl, t2, yset_eq, fun a b h1 h2 => ?_⟩) (fun _ h => absurd h e)
      rw [yset_ne (by omega), hfr a b (by omega) h2]
      exact gf a b (by omega)
    · have e2 := vals e
      have c2 : (yset m' 90 13 0) 90 22 = g 90 22 := by rw [yset_ne (by decide)]; exact mc
      have v := yadd_v (yset m' 90 13 0)
      rw [c2] at v
      have rd : ∀ j : Nat, (yset m' 90 13 0) 109 j = m 109 j := fun j => by rw [yset_nc (by decide)]; exact hfd j
      rw [rd, rd, rd, rd, rd, rd, rd] at v
      obtain ⟨v0, v1, v2, v3, v4, v5, v6, v7, v8⟩ := v
      obtain ⟨u0, u1, u2, u3, u4, u5, u6⟩ := e2
      have t3 := yadd_ty t2 (by rw [c2]; omega) (by rw [rd, u3]; exact (yPv_b hbT e).2.2.1)
      refine hK _ _ (fun h => absurd h hne) (fun _ h => absurd e h) (fun _ _ => ⟨rfl, t3, ?_, ?_, ⟨v0.trans u0, v1.trans u1, v2.trans u2, v3.trans u3, v4.trans u4, v5.trans u5, v6.trans u6⟩, ?_, v8, fun a b h1 h2 h3 => ?_⟩)
      · rw [yadd_nc (by omega), yset_eq]
      · rw [yadd_22, c2]
      · rw [v7, yset_ne (by decide), hfr 90 10 (by omega) (by omega)]
        exact gf 90 10 (by omega)
      · rw [yadd_nc (by rw [c2]; omega), yset_ne (by omega), hfr a b (by omega) h2]
        exact gf a b (by omega)
set_option maxRecDepth 8000 in
theorem yv_MCO {K : List yV → yM → Prop} {Y : yNx} {g : yM} (hY : yCl zpD147 (zpZ, zpRS, zpP12, zpMT, [yC_NR, yC_WN, yC_TS, yC_WR, yC_MAD], (4, 102), 1) K Y) (hp0 : yTy zpZ g) (hK : ∀ (r : Int) (g' : yM), (g 90 22 = 40 → r = -3 ∧ g' = g) → (g 90 22 ≠ 40 → yPf (yTm g) (g 90 13) ≠ -1 → r = -100 - yPf (yTm g) (g 90 13) ∧ yTy zpZ g' ∧ g' 90 13 = 0 ∧ (∀ a b : Nat, ¬ (a = 90 ∧ (b = 13 ∨ (16 ≤ b ∧ b ≤ 19))) → a ≠ 109 → g' a b = g a b)) → (g 90 22 ≠ 40 → yPf (yTm g) (g 90 13) = -1 → r = g 90 22 ∧ yTy zpZ g' ∧ g' 90 13 = 0 ∧ g' 90 22 = g 90 22 + 1 ∧ (g' 91 (Int.toNat (g 90 22)) = yPv (yTm g) 1 ∧ g' 102 (Int.toNat (g 90 22)) = yPv (yTm g) 2 ∧ g' 103 (Int.toNat (g 90 22)) = yPv (yTm g) 3 ∧ g' 104 (Int.toNat (g 90 22)) = yPv (yTm g) 4 ∧ g' 105 (Int.toNat (g 90 22)) = yPv (yTm g) 5 ∧ g' 106 (Int.toNat (g 90 22)) = yPv (yTm g) 6 ∧ g' 107 (Int.toNat (g 90 22)) = yPv (yTm g) 7) ∧ g' 101 (Int.toNat (g 90 22)) = g 90 10 ∧ g' 108 (Int.toNat (g 90 22)) = -1 ∧ (∀ a b : Nat, ¬ (a = 90 ∧ (b = 13 ∨ (16 ≤ b ∧ b ≤ 19) ∨ b = 22)) → a ≠ 109 → ¬ ((a = 91 ∨ (101 ≤ a ∧ a ≤ 108)) ∧ b = (Int.toNat (g 90 22))) → g' a b = g a b)) → K [(1, r)] g') : Y 0 [(3, 90)] [] g := by
  refine yrun_ok (sp := fun pc => Nat.beq pc 35) hY 18 0 _ [] g ?_
  show (((g 90 22) ≠ 40 → (Y 35 [(3, 90)] [] (yset (yset (yset (yset g 90 16 (-1)) 90 17 0) 90 18 (g 90 13)) 90 19 (-1)))) ∧ (¬ ((g 90 22) ≠ 40) → (K [(1, (-3))] g)))
  refine ⟨fun h1 => ?_, fun h1 => ?_⟩
  · have hl := hp0.fO (j := 13) (List.mem_of_getElem? (i := 42) rfl) rfl
    have hn := hp0.fO (j := 22) (List.mem_of_getElem? (i := 42) rfl) rfl
    have gt : yTy zpZ (yset (yset (yset (yset g 90 16 (-1)) 90 17 0) 90 18 (g 90 13)) 90 19 (-1)) := by
      refine yTy.sO ?_ (List.mem_of_getElem? (i := 42) rfl) rfl (by decide +kernel) ⟨by decide, by decide⟩
      refine yTy.sO ?_ (List.mem_of_getElem? (i := 42) rfl) rfl (by decide +kernel) ⟨by omega, by omega⟩
      refine yTy.sO ?_ (List.mem_of_getElem? (i := 42) rfl) rfl (by decide +kernel) ⟨by decide, by decide⟩
      exact yTy.sO hp0 (List.mem_of_getElem? (i := 42) rfl) rfl (by decide +kernel) ⟨by decide, by decide⟩
    have gf : ∀ a b : Nat, ¬ (a = 90 ∧ 16 ≤ b ∧ b ≤ 19) → (yset (yset (yset (yset g 90 16 (-1)) 90 17 0) 90 18 (g 90 13)) 90 19 (-1)) a b = g a b := fun a b h => by rw [yset_ne (by omega), yset_ne (by omega), yset_ne (by omega), yset_ne (by omega)]
    have hbs : (yset (yset (yset (yset g 90 16 (-1)) 90 17 0) 90 18 (g 90 13)) 90 19 (-1)) 90 16 = -1 := by rw [yset_ne (by decide), yset_ne (by decide), yset_ne (by decide), yset_eq]
    have h17 : (yset (yset (yset (yset g 90 16 (-1)) 90 17 0) 90 18 (g 90 13)) 90 19 (-1)) 90 17 = 0 := by rw [yset_ne (by decide), yset_ne (by decide), yset_eq]
    have h18 : (yset (yset (yset (yset g 90 16 (-1)) 90 17 0) 90 18 (g 90 13)) 90 19 (-1)) 90 18 = g 90 13 := by rw [yset_ne (by decide), yset_eq]
    have h19 : (yset (yset (yset (yset g 90 16 (-1)) 90 17 0) 90 18 (g 90 13)) 90 19 (-1)) 90 19 = -1 := yset_eq
    have hS : ySm (yset (yset (yset (yset g 90 16 (-1)) 90 17 0) 90 18 (g 90 13)) 90 19 (-1)) = yTm g := by
      funext q
      unfold ySm yTm
      rw [h18, gf 98 _ (by omega)]
    generalize hG : (yset (yset (yset (yset g 90 16 (-1)) 90 17 0) 90 18 (g 90 13)) 90 19 (-1)) = G at gt gf hbs h17 h18 h19 hS
    first | rw [hG] | skip
    have hb : ySb (ySm G) := ySm_sb (by omega)
    have h0 : yRm G 0 (-1) G := ⟨gt, fun _ _ _ _ => rfl, h17, h19⟩
    refine yt_MC35 hY hbs hb h0 ⟨by decide, by decide⟩ ⟨by decide, by decide⟩ (fun m1 v1 h1 k1 r1 w1 => ?_)
    refine yt_MC50 hY hbs hb (p := (yS1 (ySm G)).1) (f := (yS1 (ySm G)).2.1) h1 (yS1_b hb).1 (yS1_b hb).2.1 (fun m2 h2 r2 => ?_)
    refine yt_MC56 hY hbs hb (lo := (yS1 (ySm G)).2.2 + 1) (p := (yS2 (ySm G)).1) (f := (yS2 (ySm G)).2) h2 (yS2_b hb).1 (yS2_b hb).2.1 (fun e => by
        have e1 := (yS2_b hb).2.2 e
        have b1 := ((yS1_b hb).2.2 e1).2
        rw [((r2 0).trans (k1)), w1 e1]
        exact yw_s ((yS1 (ySm G)).2.2 + 1) (by omega) (by omega)) (fun m3 v3 h3 k3 r3 w3 => ?_)
    refine yt_MC78 hY hbs hb (p := (yS3 (ySm G)).1) (f := (yS3 (ySm G)).2.1) h3 (yS3_b hb).1 (yS3_b hb).2.1 (fun m4 h4 r4 => ?_)
    refine yt_MC84 hY hbs hb (p := (yS4 (ySm G)).1) (f := (yS4 (ySm G)).2) h4 (yS4_b hb).1 (yS4_b hb).2.1 (fun m5 v5 h5 k5 r5 w5 => ?_)
    refine yt_MC97 hY hbs hb (p := (yS5 (ySm G)).1) (f := (yS5 (ySm G)).2.1) h5 (yS5_b hb).1 (yS5_b hb).2.1 (fun m6 h6 r6 => ?_)
    refine yt_MC103 hY hbs hb (p := (yS6 (ySm G)).1) (f := (yS6 (ySm G)).2) h6 (yS6_b hb).1 (yS6_b hb).2.1 (fun m7 v7 h7 k7 r7 w7 => ?_)
    refine yt_MC116 hY hbs hb (p := (yS7 (ySm G)).1) (f := (yS7 (ySm G)).2.1) h7 (yS7_b hb).1 (yS7_b hb).2.1 (fun m8 h8 r8 => ?_)
    refine yt_MC122 hY hbs hb (p := (yS8 (ySm G)).1) (f := (yS8 (ySm G)).2) h8 (yS8_b hb).1 (yS8_b hb).2.1 (fun m9 v9 h9 k9 r9 w9 => ?_)
    refine yt_MC136 hY hbs hb (p := (yS9 (ySm G)).1) (f := (yS9 (ySm G)).2.1) h9 (yS9_b hb).1 (yS9_b hb).2.1 (fun m11 v11 h11 k11 r11 w11 => ?_)
    refine yt_MC163 hY hbs hb (u := (yS5 (ySm G)).2.2) (p := (yS11 (ySm G)).1) (f := (yS11 (ySm G)).2.1) h11 (yS11_b hb).1 (yS11_b hb).2.1 (fun e => by
        have e9 := ((yS11_b hb).2.2 e).1
        have e8 := ((yS9_b hb).2.2 e9).1
        have e7 := (yS8_b hb).2.2 e8
        have e6 := ((yS7_b hb).2.2 e7).1
        have e5 := (yS6_b hb).2.2 e6
        rw [((r11 2 (by decide)).trans ((r9 2 (by decide)).trans ((r8 2).trans ((r7 2 (by decide)).trans ((r6 2).trans (k5))))))]
        exact w5 e5) (fun m13 v13 h13 k13 r13 w13 => ?_)
    exact yt_MCf hY hbs hb gf h18 hS hn (by omega) h13 (fun e => by
      obtain ⟨e13, e11, e9, e7, e5, e3, e1⟩ := yPf_no (by rw [← hS]; exact hb) e
      rw [← hS] at e13 e11 e9 e7 e5 e3 e1 ⊢
      exact ⟨((r13 0 (by decide)).trans ((r11 0 (by decide)).trans ((r9 0 (by decide)).trans ((r8 0).trans ((r7 0 (by decide)).trans ((r6 0).trans ((r5 0 (by decide)).trans ((r4 0).trans ((r3 0 (by decide)).trans ((r2 0).trans (k1))))))))))).trans (w1 e1), ((r13 1 (by decide)).trans ((r11 1 (by decide)).trans ((r9 1 (by decide)).trans ((r8 1).trans ((r7 1 (by decide)).trans ((r6 1).trans ((r5 1 (by decide)).trans ((r4 1).trans (k3))))))))).trans (w3 e3), ((r13 2 (by decide)).trans ((r11 2 (by decide)).trans ((r9 2 (by decide)).trans ((r8 2).trans ((r7 2 (by decide)).trans ((r6 2).trans (k5))))))).trans (w5 e5), ((r13 3 (by decide)).trans ((r11 3 (by decide)).trans ((r9 3 (by decide)).trans ((r8 3).trans (k7))))).trans (w7 e7), ((r13 4 (by decide)).trans ((r11 4 (by decide)).trans (k9))).trans (w9 e9), ((r13 5 (by decide)).trans (k11)).trans (w11 e11), (k13).trans (w13 e13)⟩) hK
  · exact hK _ _ (fun _ => ⟨rfl, rfl⟩) (fun h => absurd (by omega) h) (fun h => absurd (by omega) h)
theorem yM_MCO {l : Launch} {Ts : List Cond} {cl : List vw_C} {RO : zRO} (H : zHyp Ts cl RO) : yMet l Ts cl zpZ RO zpMT yC_MCO := ymet_of2 H.1 H.2.1 zpDj H.2.2.1 yRb H.p12 (ymets_cons (yM_NR H) (ymets_cons (yM_WN H) (ymets_cons (yM_TS H) (ymets_cons (yM_WR H) (ymets_cons (yM_MAD H) ymets_nil))))) (zrc1 rfl) (plainFor_of_name zpy12) zpDk147 (fun as g K Y h hA hY => by
  obtain ⟨rfl, hp0, hK⟩ := h
  exact yv_MCO hY  hp0 hK)
