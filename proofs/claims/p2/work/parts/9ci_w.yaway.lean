/-! AWAY OF BOTH SIDES -/
theorem yset_nc {g : yM} {q j : Nat} {v : Int} {a b : Nat} (h : a ≠ q) : yset g q j v a b = g a b := if_neg (fun z => h z.1)
theorem yzr_nc {g : yM} {q a n x b : Nat} (h : x ≠ q) : yzr g q a n x b = g x b := if_neg (fun z => h z.1)
theorem ycpy_nc {g : yM} {q u sp dp n a b : Nat} (h : a ≠ q) : ycpy g q u sp dp n a b = g a b := if_neg (fun z => h z.1)
theorem yset_nj {g : yM} {q j : Nat} {v : Int} {b : Nat} (h : b ≠ j) : yset g q j v q b = g q b := if_neg (fun z => h z.2)
theorem yzr_in {g : yM} {q a n b : Nat} (h : a ≤ b ∧ b < a + n) : yzr g q a n q b = 0 := if_pos ⟨rfl, h⟩
theorem yzr_out {g : yM} {q a n b : Nat} (h : ¬ (a ≤ b ∧ b < a + n)) : yzr g q a n q b = g q b := if_neg (fun z => h z.2)
theorem ycpy_in {g : yM} {q u sp dp n b : Nat} (h : dp ≤ b ∧ b < dp + n) : ycpy g q u sp dp n q b = g u (sp + (b - dp)) := if_pos ⟨rfl, h⟩
theorem ycpy_out {g : yM} {q u sp dp n b : Nat} (h : ¬ (dp ≤ b ∧ b < dp + n)) : ycpy g q u sp dp n q b = g q b := if_neg (fun z => h z.2)
theorem yUn.rf {wr : zWr} {g : yM} : yUn wr g g := fun _ _ _ => rfl
theorem yUn.st {wr : zWr} {g g1 : yM} {q j : Nat} {v : Int} (h : yUn wr g g1) (hc : ∃ w ∈ wr, zcov w q j) : yUn wr g (yset g1 q j v) := fun a b hn => by
  obtain ⟨w, hw, hz⟩ := hc
  rw [yset_ne (fun z => hn w hw (by rw [z.1, z.2]; exact hz))]
  exact h a b hn
theorem yUn.cat {wr wr2 : zWr} {g g1 g2 : yM} (h : yUn wr g g1) (h2 : yUn wr2 g1 g2) (hs : ∀ w ∈ wr2, w ∈ wr) : yUn wr g g2 := fun a b hn => by
  rw [h2 a b (fun w hw => hn w (hs w hw))]
  exact h a b hn
theorem yq0 {v : Int} (h0 : 0 ≤ v) (h1 : v ≤ 2147483647) : 0 ≤ yb (fun x y => x / y) v 1000 := by
  show 0 ≤ (Int32.ofInt v / Int32.ofInt 1000).toInt
  rw [zdivI (by decide), zofI (by omega) h1]
  exact ((ztdiv_bd (by decide)).1 h0).1
def yWA : zWr := [(15, 17, 0, 0), (1, 1, 1, 7), (50, 89, 1, 9), (50, 89, 1, 10), (50, 89, 1, 11)]
def yWB : zWr := [(95, 95, 0, 0), (96, 96, 0, 0), (97, 97, 0, 0), (90, 90, 1, 6)]
def yRg (z : Int) : Prop := -2147483648 ≤ z ∧ z ≤ 2147483647
def yP_SE : yPT := fun as g K => as = [(3, 1)] ∧ (yTy zpZ g) ∧ (∀ (g' : yM), (yTy zpZ g') → (yUn zpC4.2.2.2.2 g g') → K [] g')
def yC_SE : yC := (128, (3, 89), yP_SE)
theorem yM_SE {l : Launch} {Ts : List Cond} {cl : List vw_C} {RO : zRO} (H : zHyp Ts cl RO) : yMet l Ts cl zpZ RO zpMT yC_SE := fun D tys A ad ws g as As K hMem hSA hlen hD hK0 => yhavF (C := zpC4) (q0 := 1) (ks := []) (fs := []) (rt := 0) zpDj yZk rfl (by decide +kernel) (fun f hf => by cases hf) ((zpM4 H).toE rfl) D tys A ad ws g as As K hMem hSA hlen hD (by
  obtain ⟨rfl, hp0, hK⟩ := hK0
  obtain ⟨gh, hg, hT⟩ := hp0
  refine ⟨⟨_, rfl, rfl⟩, gh, hg, hT, (fun f hf => by cases hf), fun r g' hr h1 h2 => ?_⟩
  have e : r = [] := by
    unfold yhR at hr
    rw [if_pos (by decide)] at hr
    exact hr
  subst e
  exact hK g' h1 h2)
def yP_AA : yPT := fun as g K => ∃ (d a b : Int), as = [(3, 1), (1, d), (1, a), (1, b)] ∧ (yTy zpZ g) ∧ (0 ≤ g 1 7 ∧ g 1 7 < 12) ∧ (-2147483648 ≤ d ∧ d ≤ 2147483647) ∧ (-2147483648 ≤ a ∧ a ≤ 2147483647) ∧ (-2147483648 ≤ b ∧ b ≤ 2147483647) ∧ (∀ (g' : yM), (yTy zpZ g') → (yUn yWA g g') → (g' 1 7 = g 1 7 + 1) → K [] g')
def yC_AA : yC := (119, (4, 110), yP_AA)
set_option maxRecDepth 8000 in
theorem yv_AA {K : List yV → yM → Prop} {Y : yNx} {g : yM} {d a b : Int} (hY : yCl zpD119 (zpZ, zpRS, zpP11, zpMT, [yC_SE], (4, 110), 0) K Y) (hr_d : -2147483648 ≤ d ∧ d ≤ 2147483647) (hr_a : -2147483648 ≤ a ∧ a ≤ 2147483647) (hr_b : -2147483648 ≤ b ∧ b ≤ 2147483647) (hp0 : yTy zpZ g) (hp1 : 0 ≤ g 1 7 ∧ g 1 7 < 12) (hp2 : -2147483648 ≤ d ∧ d ≤ 2147483647) (hp3 : -2147483648 ≤ a ∧ a ≤ 2147483647) (hp4 : -2147483648 ≤ b ∧ b ≤ 2147483647) (hK : ∀ (g' : yM), (yTy zpZ g') → (yUn yWA g g') → (g' 1 7 = g 1 7 + 1) → K [] g') : Y 0 [(3, 1), (1, d), (1, a), (1, b)] [] g := by
  refine yrun_ok (sp := fun pc => false) hY 31 0 _ [] g ?_
  show (((g 1 7) < 12 → (((0 : Int) ≤ (g 1 7) ∧ (g 1 7) < ((12 : Nat) : Int)) ∧ (((0 : Int) ≤ ((yset g 15 (Int.toNat (g 1 7)) d) 1 7) ∧ ((yset g 15 (Int.toNat (g 1 7)) d) 1 7) < ((12 : Nat) : Int)) ∧ (((0 : Int) ≤ ((yset (yset g 15 (Int.toNat (g 1 7)) d) 16 (Int.toNat ((yset g 15 (Int.toNat (g 1 7)) d) 1 7)) a) 1 7) ∧ ((yset (yset g 15 (Int.toNat (g 1 7)) d) 16 (Int.toNat ((yset g 15 (Int.toNat (g 1 7)) d) 1 7)) a) 1 7) < ((12 : Nat) : Int)) ∧ ([(3, 1)] = [(3, 1)] ∧ (yTy zpZ (yset (yset (yset (yset g 15 (Int.toNat (g 1 7)) d) 16 (Int.toNat ((yset g 15 (Int.toNat (g 1 7)) d) 1 7)) a) 17 (Int.toNat ((yset (yset g 15 (Int.toNat (g 1 7)) d) 16 (Int.toNat ((yset g 15 (Int.toNat (g 1 7)) d) 1 7)) a) 1 7)) b) 1 7 (yw (((yset (yset (yset g 15 (Int.toNat (g 1 7)) d) 16 (Int.toNat ((yset g 15 (Int.toNat (g 1 7)) d) 1 7)) a) 17 (Int.toNat ((yset (yset g 15 (Int.toNat (g 1 7)) d) 16 (Int.toNat ((yset g 15 (Int.toNat (g 1 7)) d) 1 7)) a) 1 7)) b) 1 7) + 1)))) ∧ (∀ (g2 : yM), (yTy zpZ g2) → (yUn zpC4.2.2.2.2 (yset (yset (yset (yset g 15 (Int.toNat (g 1 7)) d) 16 (Int.toNat ((yset g 15 (Int.toNat (g 1 7)) d) 1 7)) a) 17 (Int.toNat ((yset (yset g 15 (Int.toNat (g 1 7)) d) 16 (Int.toNat ((yset g 15 (Int.toNat (g 1 7)) d) 1 7)) a) 1 7)) b) 1 7 (yw (((yset (yset (yset g 15 (Int.toNat (g 1 7)) d) 16 (Int.toNat ((yset g 15 (Int.toNat (g 1 7)) d) 1 7)) a) 17 (Int.toNat ((yset (yset g 15 (Int.toNat (g 1 7)) d) 16 (Int.toNat ((yset g 15 (Int.toNat (g 1 7)) d) 1 7)) a) 1 7)) b) 1 7) + 1))) g2) → (K [] g2))))))) ∧ (¬ ((g 1 7) < 12) → (K [] g)))
  refine ⟨fun h1 => ?_, fun h1 => ?_⟩
  · refine ⟨(by omega), ?_⟩
    refine ⟨(by have := show ((yset g 15 (Int.toNat (g 1 7)) d) 1 7) = (g 1 7) from (by simp [yset_ap, ycpy_ap]); omega), ?_⟩
    refine ⟨(by rw [show ((yset (yset g 15 (Int.toNat (g 1 7)) d) 16 (Int.toNat ((yset g 15 (Int.toNat (g 1 7)) d) 1 7)) a) 1 7) = (g 1 7) from by simp [yset_ap, ycpy_ap]]; have := show ((yset g 15 (Int.toNat (g 1 7)) d) 1 7) = (g 1 7) from (by simp [yset_ap, ycpy_ap]); have := show ((yset (yset g 15 (Int.toNat (g 1 7)) d) 16 (Int.toNat ((yset g 15 (Int.toNat (g 1 7)) d) 1 7)) a) 1 7) = (g 1 7) from (by simp [yset_ap, ycpy_ap]); omega), ?_⟩
    refine ⟨rfl, (by refine yTy.sO ?_ (List.mem_of_getElem? (i := 1) rfl) rfl (by decide +kernel) ⟨by have := show ((yset g 15 (Int.toNat (g 1 7)) d) 1 7) = (g 1 7) from (by simp [yset_ap, ycpy_ap]); have := show ((yset (yset g 15 (Int.toNat (g 1 7)) d) 16 (Int.toNat ((yset g 15 (Int.toNat (g 1 7)) d) 1 7)) a) 1 7) = (g 1 7) from (by simp [yset_ap, ycpy_ap]); have := show ((yset (yset (yset g 15 (Int.toNat (g 1 7)) d) 16 (Int.toNat ((yset g 15 (Int.toNat (g 1 7)) d) 1 7)) a) 17 (Int.toNat ((yset (yset g 15 (Int.toNat (g 1 7)) d) 16 (Int.toNat ((yset g 15 (Int.toNat (g 1 7)) d) 1 7)) a) 1 7)) b) 1 7) = (g 1 7) from (by simp [yset_ap, ycpy_ap]); have := yw_s (((yset (yset (yset g 15 (Int.toNat (g 1 7)) d) 16 (Int.toNat ((yset g 15 (Int.toNat (g 1 7)) d) 1 7)) a) 17 (Int.toNat ((yset (yset g 15 (Int.toNat (g 1 7)) d) 16 (Int.toNat ((yset g 15 (Int.toNat (g 1 7)) d) 1 7)) a) 1 7)) b) 1 7) + 1); omega, by have := show ((yset g 15 (Int.toNat (g 1 7)) d) 1 7) = (g 1 7) from (by simp [yset_ap, ycpy_ap]); have := show ((yset (yset g 15 (Int.toNat (g 1 7)) d) 16 (Int.toNat ((yset g 15 (Int.toNat (g 1 7)) d) 1 7)) a) 1 7) = (g 1 7) from (by simp [yset_ap, ycpy_ap]); have := show ((yset (yset (yset g 15 (Int.toNat (g 1 7)) d) 16 (Int.toNat ((yset g 15 (Int.toNat (g 1 7)) d) 1 7)) a) 17 (Int.toNat ((yset (yset g 15 (Int.toNat (g 1 7)) d) 16 (Int.toNat ((yset g 15 (Int.toNat (g 1 7)) d) 1 7)) a) 1 7)) b) 1 7) = (g 1 7) from (by simp [yset_ap, ycpy_ap]); have := yw_s (((yset (yset (yset g 15 (Int.toNat (g 1 7)) d) 16 (Int.toNat ((yset g 15 (Int.toNat (g 1 7)) d) 1 7)) a) 17 (Int.toNat ((yset (yset g 15 (Int.toNat (g 1 7)) d) 16 (Int.toNat ((yset g 15 (Int.toNat (g 1 7)) d) 1 7)) a) 1 7)) b) 1 7) + 1); omega⟩; refine yTy.sA ?_ (List.mem_of_getElem? (i := 16) rfl) (by decide +kernel) hp4; refine yTy.sA ?_ (List.mem_of_getElem? (i := 15) rfl) (by decide +kernel) hp3; exact yTy.sA hp0 (List.mem_of_getElem? (i := 14) rfl) (by decide +kernel) hp2), ?_⟩
    intro g2 p30 p31
    have e7 := (p31.eq (rs := [(1, 1, 1, 7)]) (by decide +kernel)).at (r := (1, 1, 1, 7)) (q := 1) (j := 7) (by decide) ⟨by decide, by decide⟩ (Or.inr rfl)
    rw [yset_eq] at e7
    have := show ((yset g 15 (Int.toNat (g 1 7)) d) 1 7) = (g 1 7) from (by simp [yset_ap, ycpy_ap])
    have := show ((yset (yset g 15 (Int.toNat (g 1 7)) d) 16 (Int.toNat ((yset g 15 (Int.toNat (g 1 7)) d) 1 7)) a) 1 7) = (g 1 7) from (by simp [yset_ap, ycpy_ap])
    have := show ((yset (yset (yset g 15 (Int.toNat (g 1 7)) d) 16 (Int.toNat ((yset g 15 (Int.toNat (g 1 7)) d) 1 7)) a) 17 (Int.toNat ((yset (yset g 15 (Int.toNat (g 1 7)) d) 16 (Int.toNat ((yset g 15 (Int.toNat (g 1 7)) d) 1 7)) a) 1 7)) b) 1 7) = (g 1 7) from (by simp [yset_ap, ycpy_ap])
    have := yw_s (((yset (yset (yset g 15 (Int.toNat (g 1 7)) d) 16 (Int.toNat ((yset g 15 (Int.toNat (g 1 7)) d) 1 7)) a) 17 (Int.toNat ((yset (yset g 15 (Int.toNat (g 1 7)) d) 16 (Int.toNat ((yset g 15 (Int.toNat (g 1 7)) d) 1 7)) a) 1 7)) b) 1 7) + 1)
    refine hK _ p30 (yUn.cat ?_ p31 (by decide +kernel)) (by omega)
    refine yUn.st ?_ ⟨_, List.mem_of_getElem? (i := 1) rfl, by decide, by decide, Or.inr rfl⟩
    refine yUn.st ?_ ⟨_, List.mem_of_getElem? (i := 0) rfl, by decide, by decide, Or.inl rfl⟩
    refine yUn.st ?_ ⟨_, List.mem_of_getElem? (i := 0) rfl, by decide, by decide, Or.inl rfl⟩
    exact yUn.st yUn.rf ⟨_, List.mem_of_getElem? (i := 0) rfl, by decide, by decide, Or.inl rfl⟩
  · omega
theorem yM_AA {l : Launch} {Ts : List Cond} {cl : List vw_C} {RO : zRO} (H : zHyp Ts cl RO) : yMet l Ts cl zpZ RO zpMT yC_AA := ymet_of2 H.1 H.2.1 zpDj H.2.2.1 yRb H.p11 (ymets_cons (yM_SE H) ymets_nil) (zrc0 rfl) (plainFor_of_name zpy11) zpDk119 (fun as g K Y h hA hY => by
  obtain ⟨d, a, b, rfl, hp0, hp1, hp2, hp3, hp4, hK⟩ := h
  exact yv_AA hY (yAr1 hA (by simp)) (yAr1 hA (by simp)) (yAr1 hA (by simp)) hp0 hp1 hp2 hp3 hp4 hK)
def yP_AW : yPT := fun as g K => ∃ (d v : Int), as = [(3, 0), (1, d), (1, v)] ∧ (yTy zpZ g) ∧ (0 ≤ g 1 7 ∧ g 1 7 ≤ 12) ∧ (∀ (r : Int) (g' : yM), (yTy zpZ g') → (yUn yWA g g') → ((r = -1 ∧ ¬ (0 ≤ d ∧ d < 4 ∧ 0 ≤ v ∧ 0 ≤ (yb (fun x y => x - x / y * y) v 1000) ∧ (yb (fun x y => x - x / y * y) v 1000) < 720 ∧ 0 ≤ (yb (fun x y => x / y) v 1000) ∧ (yb (fun x y => x / y) v 1000) ≤ (yb (fun x y => x - x / y * y) v 1000)) ∧ g' 1 7 = g 1 7) ∨ ((0 ≤ d ∧ d < 4 ∧ 0 ≤ v ∧ 0 ≤ (yb (fun x y => x - x / y * y) v 1000) ∧ (yb (fun x y => x - x / y * y) v 1000) < 720 ∧ 0 ≤ (yb (fun x y => x / y) v 1000) ∧ (yb (fun x y => x / y) v 1000) ≤ (yb (fun x y => x - x / y * y) v 1000)) ∧ ((r = -3 ∧ 12 ≤ g 1 7 ∧ g' 1 7 = g 1 7) ∨ (g 1 7 < 12 ∧ r = g 1 7 + 1 ∧ g' 1 7 = g 1 7 + 1)))) → K [(1, r)] g')
def yC_AW : yC := (2, (5, 133), yP_AW)
set_option maxRecDepth 8000 in
theorem yv_AW {K : List yV → yM → Prop} {Y : yNx} {g : yM} {d v : Int} (hY : yCl zpD2 (zpZ, zpRS, zpP0, zpMT, [yC_W, yC_AA], (5, 133), 1) K Y) (hr_d : -2147483648 ≤ d ∧ d ≤ 2147483647) (hr_v : -2147483648 ≤ v ∧ v ≤ 2147483647) (hp0 : yTy zpZ g) (hp1 : 0 ≤ g 1 7 ∧ g 1 7 ≤ 12) (hK : ∀ (r : Int) (g' : yM), (yTy zpZ g') → (yUn yWA g g') → ((r = -1 ∧ ¬ (0 ≤ d ∧ d < 4 ∧ 0 ≤ v ∧ 0 ≤ (yb (fun x y => x - x / y * y) v 1000) ∧ (yb (fun x y => x - x / y * y) v 1000) < 720 ∧ 0 ≤ (yb (fun x y => x / y) v 1000) ∧ (yb (fun x y => x / y) v 1000) ≤ (yb (fun x y => x - x / y * y) v 1000)) ∧ g' 1 7 = g 1 7) ∨ ((0 ≤ d ∧ d < 4 ∧ 0 ≤ v ∧ 0 ≤ (yb (fun x y => x - x / y * y) v 1000) ∧ (yb (fun x y => x - x / y * y) v 1000) < 720 ∧ 0 ≤ (yb (fun x y => x / y) v 1000) ∧ (yb (fun x y => x / y) v 1000) ≤ (yb (fun x y => x - x / y * y) v 1000)) ∧ ((r = -3 ∧ 12 ≤ g 1 7 ∧ g' 1 7 = g 1 7) ∨ (g 1 7 < 12 ∧ r = g 1 7 + 1 ∧ g' 1 7 = g 1 7 + 1)))) → K [(1, r)] g') : Y 0 [(3, 0), (1, d), (1, v), (0, 0), (0, 0)] [] g := by
  refine yrun_ok (sp := fun pc => false) hY 36 0 _ [] g ?_
  show ((1000 : Int) ≠ 0 ∧ ((1000 : Int) ≠ 0 ∧ (∃ (v1 b2 : Int), [(1, d), (1, 4)] = [(1, v1), (1, b2)] ∧ (∀ (r3 : Int), ((r3 = 1 ∧ 0 ≤ v1 ∧ v1 < b2) ∨ (r3 = 0 ∧ (v1 < 0 ∨ b2 ≤ v1))) → ((r3 = 0 → (K [(1, (-1))] g)) ∧ (¬ (r3 = 0) → ((v < 0 → (K [(1, (-1))] g)) ∧ (¬ (v < 0) → (∃ (v7 b8 : Int), [(1, (yb (fun x y => x - x / y * y) v 1000)), (1, 720)] = [(1, v7), (1, b8)] ∧ (∀ (r9 : Int), ((r9 = 1 ∧ 0 ≤ v7 ∧ v7 < b8) ∨ (r9 = 0 ∧ (v7 < 0 ∨ b8 ≤ v7))) → ((r9 = 0 → (K [(1, (-1))] g)) ∧ (¬ (r9 = 0) → (((yb (fun x y => x / y) v 1000) ≤ (yb (fun x y => x - x / y * y) v 1000) → (((g 1 7) < 12 → (∃ (d14 a15 b16 : Int), [(3, 1), (1, d), (1, (yb (fun x y => x / y) v 1000)), (1, (yb (fun x y => x - x / y * y) v 1000))] = [(3, 1), (1, d14), (1, a15), (1, b16)] ∧ (yTy zpZ g) ∧ (0 ≤ g 1 7 ∧ g 1 7 < 12) ∧ (-2147483648 ≤ d14 ∧ d14 ≤ 2147483647) ∧ (-2147483648 ≤ a15 ∧ a15 ≤ 2147483647) ∧ (-2147483648 ≤ b16 ∧ b16 ≤ 2147483647) ∧ (∀ (g17 : yM), (yTy zpZ g17) → (yUn yWA g g17) → (g17 1 7 = g 1 7 + 1) → (K [(1, (g17 1 7))] g17)))) ∧ (¬ ((g 1 7) < 12) → (K [(1, (-3))] g)))) ∧ (¬ ((yb (fun x y => x / y) v 1000) ≤ (yb (fun x y => x - x / y * y) v 1000)) → (K [(1, (-1))] g)))))))))))))))
  refine ⟨(by have q1 := yb_rng (fun x y => x / y) v 1000; have q2 := yb_rng (fun x y => x - x / y * y) v 1000; omega), ?_⟩
  refine ⟨(by have q1 := yb_rng (fun x y => x / y) v 1000; have q2 := yb_rng (fun x y => x - x / y * y) v 1000; omega), ?_⟩
  refine ⟨_, _, rfl, ?_⟩
  intro r3 p40
  refine ⟨fun h5 => ?_, fun h5 => ?_⟩
  · have q1 := yb_rng (fun x y => x / y) v 1000
    have q2 := yb_rng (fun x y => x - x / y * y) v 1000
    have q3 : 0 ≤ v → 0 ≤ (yb (fun x y => x / y) v 1000) := fun h => yq0 h hr_v.2
    exact hK _ _ hp0 yUn.rf (by omega)
  · refine ⟨fun h6 => ?_, fun h6 => ?_⟩
    · have q1 := yb_rng (fun x y => x / y) v 1000
      have q2 := yb_rng (fun x y => x - x / y * y) v 1000
      have q3 : 0 ≤ v → 0 ≤ (yb (fun x y => x / y) v 1000) := fun h => yq0 h hr_v.2
      exact hK _ _ hp0 yUn.rf (by omega)
    · refine ⟨_, _, rfl, ?_⟩
      intro r9 p100
      refine ⟨fun h11 => ?_, fun h11 => ?_⟩
      · have q1 := yb_rng (fun x y => x / y) v 1000
        have q2 := yb_rng (fun x y => x - x / y * y) v 1000
        have q3 : 0 ≤ v → 0 ≤ (yb (fun x y => x / y) v 1000) := fun h => yq0 h hr_v.2
        exact hK _ _ hp0 yUn.rf (by omega)
      · refine ⟨fun h12 => ?_, fun h12 => ?_⟩
        · refine ⟨fun h13 => ?_, fun h13 => ?_⟩
          · refine ⟨_, _, _, rfl, (hp0), (by have q1 := yb_rng (fun x y => x / y) v 1000; have q2 := yb_rng (fun x y => x - x / y * y) v 1000; omega), (by have q1 := yb_rng (fun x y => x / y) v 1000; have q2 := yb_rng (fun x y => x - x / y * y) v 1000; omega), (by have q1 := yb_rng (fun x y => x / y) v 1000; have q2 := yb_rng (fun x y => x - x / y * y) v 1000; omega), (by have q1 := yb_rng (fun x y => x / y) v 1000; have q2 := yb_rng (fun x y => x - x / y * y) v 1000; omega), ?_⟩
            intro g17 p180 p181 p182
            have q1 := yb_rng (fun x y => x / y) v 1000
            have q2 := yb_rng (fun x y => x - x / y * y) v 1000
            have q3 : 0 ≤ v → 0 ≤ (yb (fun x y => x / y) v 1000) := fun h => yq0 h hr_v.2
            exact hK _ _ p180 p181 (by omega)
          · have q1 := yb_rng (fun x y => x / y) v 1000
            have q2 := yb_rng (fun x y => x - x / y * y) v 1000
            have q3 : 0 ≤ v → 0 ≤ (yb (fun x y => x / y) v 1000) := fun h => yq0 h hr_v.2
            exact hK _ _ hp0 yUn.rf (by omega)
        · have q1 := yb_rng (fun x y => x / y) v 1000
          have q2 := yb_rng (fun x y => x - x / y * y) v 1000
          have q3 : 0 ≤ v → 0 ≤ (yb (fun x y => x / y) v 1000) := fun h => yq0 h hr_v.2
          exact hK _ _ hp0 yUn.rf (by omega)
theorem yM_AW {l : Launch} {Ts : List Cond} {cl : List vw_C} {RO : zRO} (H : zHyp Ts cl RO) : yMet l Ts cl zpZ RO zpMT yC_AW := ymet_of2 H.1 H.2.1 zpDj H.2.2.1 yRb H.p0 (ymets_cons (yM_W H) (ymets_cons (yM_AA H) ymets_nil)) (zrc1 rfl) (plainFor_of_name zpy0) zpDk2 (fun as g K Y h hA hY => by
  obtain ⟨d, v, rfl, hp0, hp1, hK⟩ := h
  exact yv_AW hY (yAr1 hA (by simp)) (yAr1 hA (by simp)) hp0 hp1 hK)
def yP_DO : yPT := fun as g K => ∃ (d : Int), as = [(1, d)] ∧ (∀ (r : Int), ((r = 1 ∧ 0 ≤ d ∧ d < 4) ∨ (r = 0 ∧ (d < 0 ∨ 4 ≤ d))) → K [(1, r)] g)
def yC_DO : yC := (166, (2, 65), yP_DO)
set_option maxRecDepth 8000 in
theorem yv_DO {K : List yV → yM → Prop} {Y : yNx} {g : yM} {d : Int} (hY : yCl zpD166 (zpZ, zpRS, zpP12, zpMT, [yC_WM], (2, 65), 2) K Y) (hr_d : -2147483648 ≤ d ∧ d ≤ 2147483647) (hK : ∀ (r : Int), ((r = 1 ∧ 0 ≤ d ∧ d < 4) ∨ (r = 0 ∧ (d < 0 ∨ 4 ≤ d))) → K [(1, r)] g) : Y 0 [(1, d)] [] g := by
  refine yrun_ok (sp := fun pc => false) hY 6 0 _ [] g ?_
  show (∃ (v1 a2 b3 : Int), [(2, d), (2, 0), (2, 3)] = [(2, v1), (2, a2), (2, b3)] ∧ (∀ (r4 : Int), ((r4 = 1 ∧ a2 ≤ v1 ∧ v1 ≤ b3) ∨ (r4 = 0 ∧ (v1 < a2 ∨ b3 < v1))) → (((0 : Int) ≤ r4 ∧ r4 ≤ (1 : Int)) ∧ (K [(1, r4)] g))))
  refine ⟨_, _, _, rfl, ?_⟩
  intro r4 p50
  refine ⟨(by omega), ?_⟩
  exact hK _ (by first | omega | exact fun _ => rfl | exact fun h => absurd h (by omega) | exact rfl | exact fun _ _ => rfl | exact fun h _ => absurd h (by omega) | exact fun _ h => absurd h (by omega))
theorem yM_DO {l : Launch} {Ts : List Cond} {cl : List vw_C} {RO : zRO} (H : zHyp Ts cl RO) : yMet l Ts cl zpZ RO zpMT yC_DO := ymet_of2 H.1 H.2.1 zpDj H.2.2.1 yRb H.p12 (ymets_cons (yM_WM H) ymets_nil) (zrc2 rfl) (plainFor_of_name zpy12) zpDk166 (fun as g K Y h hA hY => by
  obtain ⟨d, rfl, hK⟩ := h
  exact yv_DO hY (yAr1 hA (by simp)) hK)
def yP_IM : yPT := fun as g K => ∃ (d : Int), as = [(1, d)] ∧ (∀ (r : Int), ((r = 1 ∧ 0 ≤ d ∧ d < 720) ∨ (r = 0 ∧ (d < 0 ∨ 720 ≤ d))) → K [(1, r)] g)
def yC_IM : yC := (168, (2, 65), yP_IM)
set_option maxRecDepth 8000 in
theorem yv_IM {K : List yV → yM → Prop} {Y : yNx} {g : yM} {d : Int} (hY : yCl zpD168 (zpZ, zpRS, zpP12, zpMT, [yC_WM], (2, 65), 2) K Y) (hr_d : -2147483648 ≤ d ∧ d ≤ 2147483647) (hK : ∀ (r : Int), ((r = 1 ∧ 0 ≤ d ∧ d < 720) ∨ (r = 0 ∧ (d < 0 ∨ 720 ≤ d))) → K [(1, r)] g) : Y 0 [(1, d)] [] g := by
  refine yrun_ok (sp := fun pc => false) hY 6 0 _ [] g ?_
  show (∃ (v1 a2 b3 : Int), [(2, d), (2, 0), (2, 719)] = [(2, v1), (2, a2), (2, b3)] ∧ (∀ (r4 : Int), ((r4 = 1 ∧ a2 ≤ v1 ∧ v1 ≤ b3) ∨ (r4 = 0 ∧ (v1 < a2 ∨ b3 < v1))) → (((0 : Int) ≤ r4 ∧ r4 ≤ (1 : Int)) ∧ (K [(1, r4)] g))))
  refine ⟨_, _, _, rfl, ?_⟩
  intro r4 p50
  refine ⟨(by omega), ?_⟩
  exact hK _ (by first | omega | exact fun _ => rfl | exact fun h => absurd h (by omega) | exact rfl | exact fun _ _ => rfl | exact fun h _ => absurd h (by omega) | exact fun _ h => absurd h (by omega))
theorem yM_IM {l : Launch} {Ts : List Cond} {cl : List vw_C} {RO : zRO} (H : zHyp Ts cl RO) : yMet l Ts cl zpZ RO zpMT yC_IM := ymet_of2 H.1 H.2.1 zpDj H.2.2.1 yRb H.p12 (ymets_cons (yM_WM H) ymets_nil) (zrc2 rfl) (plainFor_of_name zpy12) zpDk168 (fun as g K Y h hA hY => by
  obtain ⟨d, rfl, hK⟩ := h
  exact yv_IM hY (yAr1 hA (by simp)) hK)
def yP_MW : yPT := fun as g K => ∃ (d v : Int), as = [(3, 90), (1, d), (1, v)] ∧ (yTy zpZ g) ∧ (0 ≤ g 90 6 ∧ g 90 6 ≤ 12) ∧ (∀ (r : Int) (g' : yM), (yTy zpZ g') → (yUn yWB g g') → ((r = -1 ∧ ¬ (0 ≤ d ∧ d < 4 ∧ 0 ≤ v ∧ 0 ≤ (yb (fun x y => x - x / y * y) v 1000) ∧ (yb (fun x y => x - x / y * y) v 1000) < 720 ∧ 0 ≤ (yb (fun x y => x / y) v 1000) ∧ (yb (fun x y => x / y) v 1000) ≤ (yb (fun x y => x - x / y * y) v 1000)) ∧ g' 90 6 = g 90 6) ∨ ((0 ≤ d ∧ d < 4 ∧ 0 ≤ v ∧ 0 ≤ (yb (fun x y => x - x / y * y) v 1000) ∧ (yb (fun x y => x - x / y * y) v 1000) < 720 ∧ 0 ≤ (yb (fun x y => x / y) v 1000) ∧ (yb (fun x y => x / y) v 1000) ≤ (yb (fun x y => x - x / y * y) v 1000)) ∧ ((r = -3 ∧ 12 ≤ g 90 6 ∧ g' 90 6 = g 90 6) ∨ (g 90 6 < 12 ∧ r = g 90 6 + 1 ∧ g' 90 6 = g 90 6 + 1)))) → K [(1, r)] g')
def yC_MW : yC := (137, (3, 85), yP_MW)
set_option maxRecDepth 8000 in
theorem yv_MW {K : List yV → yM → Prop} {Y : yNx} {g : yM} {d v : Int} (hY : yCl zpD137 (zpZ, zpRS, zpP12, zpMT, [yC_DO, yC_IM], (3, 85), 1) K Y) (hr_d : -2147483648 ≤ d ∧ d ≤ 2147483647) (hr_v : -2147483648 ≤ v ∧ v ≤ 2147483647) (hp0 : yTy zpZ g) (hp1 : 0 ≤ g 90 6 ∧ g 90 6 ≤ 12) (hK : ∀ (r : Int) (g' : yM), (yTy zpZ g') → (yUn yWB g g') → ((r = -1 ∧ ¬ (0 ≤ d ∧ d < 4 ∧ 0 ≤ v ∧ 0 ≤ (yb (fun x y => x - x / y * y) v 1000) ∧ (yb (fun x y => x - x / y * y) v 1000) < 720 ∧ 0 ≤ (yb (fun x y => x / y) v 1000) ∧ (yb (fun x y => x / y) v 1000) ≤ (yb (fun x y => x - x / y * y) v 1000)) ∧ g' 90 6 = g 90 6) ∨ ((0 ≤ d ∧ d < 4 ∧ 0 ≤ v ∧ 0 ≤ (yb (fun x y => x - x / y * y) v 1000) ∧ (yb (fun x y => x - x / y * y) v 1000) < 720 ∧ 0 ≤ (yb (fun x y => x / y) v 1000) ∧ (yb (fun x y => x / y) v 1000) ≤ (yb (fun x y => x - x / y * y) v 1000)) ∧ ((r = -3 ∧ 12 ≤ g 90 6 ∧ g' 90 6 = g 90 6) ∨ (g 90 6 < 12 ∧ r = g 90 6 + 1 ∧ g' 90 6 = g 90 6 + 1)))) → K [(1, r)] g') : Y 0 [(3, 90), (1, d), (1, v)] [] g := by
  refine yrun_ok (sp := fun pc => false) hY 57 0 _ [] g ?_
  show (∃ (d1 : Int), [(1, d)] = [(1, d1)] ∧ (∀ (r2 : Int), ((r2 = 1 ∧ 0 ≤ d1 ∧ d1 < 4) ∨ (r2 = 0 ∧ (d1 < 0 ∨ 4 ≤ d1))) → ((r2 = 0 → (K [(1, (-1))] g)) ∧ (¬ (r2 = 0) → ((v < 0 → (K [(1, (-1))] g)) ∧ (¬ (v < 0) → ((1000 : Int) ≠ 0 ∧ (∃ (d6 : Int), [(1, (yb (fun x y => x / y) v 1000))] = [(1, d6)] ∧ (∀ (r7 : Int), ((r7 = 1 ∧ 0 ≤ d6 ∧ d6 < 720) ∨ (r7 = 0 ∧ (d6 < 0 ∨ 720 ≤ d6))) → ((r7 = 0 → (K [(1, (-1))] g)) ∧ (¬ (r7 = 0) → ((1000 : Int) ≠ 0 ∧ (∃ (d10 : Int), [(1, (yb (fun x y => x - x / y * y) v 1000))] = [(1, d10)] ∧ (∀ (r11 : Int), ((r11 = 1 ∧ 0 ≤ d10 ∧ d10 < 720) ∨ (r11 = 0 ∧ (d10 < 0 ∨ 720 ≤ d10))) → ((r11 = 0 → (K [(1, (-1))] g)) ∧ (¬ (r11 = 0) → ((1000 : Int) ≠ 0 ∧ ((1000 : Int) ≠ 0 ∧ (((yb (fun x y => x / y) v 1000) ≤ (yb (fun x y => x - x / y * y) v 1000) → (((g 90 6) ≠ 12 → (((0 : Int) ≤ (g 90 6) ∧ (g 90 6) < ((12 : Nat) : Int)) ∧ ((1000 : Int) ≠ 0 ∧ (((0 : Int) ≤ ((yset g 95 (Int.toNat (g 90 6)) d) 90 6) ∧ ((yset g 95 (Int.toNat (g 90 6)) d) 90 6) < ((12 : Nat) : Int)) ∧ ((1000 : Int) ≠ 0 ∧ (((0 : Int) ≤ ((yset (yset g 95 (Int.toNat (g 90 6)) d) 96 (Int.toNat ((yset g 95 (Int.toNat (g 90 6)) d) 90 6)) (yb (fun x y => x / y) v 1000)) 90 6) ∧ ((yset (yset g 95 (Int.toNat (g 90 6)) d) 96 (Int.toNat ((yset g 95 (Int.toNat (g 90 6)) d) 90 6)) (yb (fun x y => x / y) v 1000)) 90 6) < ((12 : Nat) : Int)) ∧ (K [(1, ((yset (yset (yset (yset g 95 (Int.toNat (g 90 6)) d) 96 (Int.toNat ((yset g 95 (Int.toNat (g 90 6)) d) 90 6)) (yb (fun x y => x / y) v 1000)) 97 (Int.toNat ((yset (yset g 95 (Int.toNat (g 90 6)) d) 96 (Int.toNat ((yset g 95 (Int.toNat (g 90 6)) d) 90 6)) (yb (fun x y => x / y) v 1000)) 90 6)) (yb (fun x y => x - x / y * y) v 1000)) 90 6 (yw (((yset (yset (yset g 95 (Int.toNat (g 90 6)) d) 96 (Int.toNat ((yset g 95 (Int.toNat (g 90 6)) d) 90 6)) (yb (fun x y => x / y) v 1000)) 97 (Int.toNat ((yset (yset g 95 (Int.toNat (g 90 6)) d) 96 (Int.toNat ((yset g 95 (Int.toNat (g 90 6)) d) 90 6)) (yb (fun x y => x / y) v 1000)) 90 6)) (yb (fun x y => x - x / y * y) v 1000)) 90 6) + 1))) 90 6))] (yset (yset (yset (yset g 95 (Int.toNat (g 90 6)) d) 96 (Int.toNat ((yset g 95 (Int.toNat (g 90 6)) d) 90 6)) (yb (fun x y => x / y) v 1000)) 97 (Int.toNat ((yset (yset g 95 (Int.toNat (g 90 6)) d) 96 (Int.toNat ((yset g 95 (Int.toNat (g 90 6)) d) 90 6)) (yb (fun x y => x / y) v 1000)) 90 6)) (yb (fun x y => x - x / y * y) v 1000)) 90 6 (yw (((yset (yset (yset g 95 (Int.toNat (g 90 6)) d) 96 (Int.toNat ((yset g 95 (Int.toNat (g 90 6)) d) 90 6)) (yb (fun x y => x / y) v 1000)) 97 (Int.toNat ((yset (yset g 95 (Int.toNat (g 90 6)) d) 96 (Int.toNat ((yset g 95 (Int.toNat (g 90 6)) d) 90 6)) (yb (fun x y => x / y) v 1000)) 90 6)) (yb (fun x y => x - x / y * y) v 1000)) 90 6) + 1)))))))))) ∧ (¬ ((g 90 6) ≠ 12) → (K [(1, (-3))] g)))) ∧ (¬ ((yb (fun x y => x / y) v 1000) ≤ (yb (fun x y => x - x / y * y) v 1000)) → (K [(1, (-1))] g)))))))))))))))))))))
  refine ⟨_, rfl, ?_⟩
  intro r2 p30
  refine ⟨fun h4 => ?_, fun h4 => ?_⟩
  · have q1 := yb_rng (fun x y => x / y) v 1000
    have q2 := yb_rng (fun x y => x - x / y * y) v 1000
    have q3 : 0 ≤ v → 0 ≤ (yb (fun x y => x / y) v 1000) := fun h => yq0 h hr_v.2
    exact hK _ _ hp0 yUn.rf (by omega)
  · refine ⟨fun h5 => ?_, fun h5 => ?_⟩
    · have q1 := yb_rng (fun x y => x / y) v 1000
      have q2 := yb_rng (fun x y => x - x / y * y) v 1000
      have q3 : 0 ≤ v → 0 ≤ (yb (fun x y => x / y) v 1000) := fun h => yq0 h hr_v.2
      exact hK _ _ hp0 yUn.rf (by omega)
    · refine ⟨(by have q1 := yb_rng (fun x y => x / y) v 1000; have q2 := yb_rng (fun x y => x - x / y * y) v 1000; omega), ?_⟩
      refine ⟨_, rfl, ?_⟩
      intro r7 p80
      refine ⟨fun h9 => ?_, fun h9 => ?_⟩
      · have q1 := yb_rng (fun x y => x / y) v 1000
        have q2 := yb_rng (fun x y => x - x / y * y) v 1000
        have q3 : 0 ≤ v → 0 ≤ (yb (fun x y => x / y) v 1000) := fun h => yq0 h hr_v.2
        exact hK _ _ hp0 yUn.rf (by omega)
      · refine ⟨(by have q1 := yb_rng (fun x y => x / y) v 1000; have q2 := yb_rng (fun x y => x - x / y * y) v 1000; omega), ?_⟩
        refine ⟨_, rfl, ?_⟩
        intro r11 p120
        refine ⟨fun h13 => ?_, fun h13 => ?_⟩
        · have q1 := yb_rng (fun x y => x / y) v 1000
          have q2 := yb_rng (fun x y => x - x / y * y) v 1000
          have q3 : 0 ≤ v → 0 ≤ (yb (fun x y => x / y) v 1000) := fun h => yq0 h hr_v.2
          exact hK _ _ hp0 yUn.rf (by omega)
        · refine ⟨(by have q1 := yb_rng (fun x y => x / y) v 1000; have q2 := yb_rng (fun x y => x - x / y * y) v 1000; omega), ?_⟩
          refine ⟨(by have q1 := yb_rng (fun x y => x / y) v 1000; have q2 := yb_rng (fun x y => x - x / y * y) v 1000; omega), ?_⟩
          refine ⟨fun h14 => ?_, fun h14 => ?_⟩
          · refine ⟨fun h15 => ?_, fun h15 => ?_⟩
            · refine ⟨(by have q1 := yb_rng (fun x y => x / y) v 1000; have q2 := yb_rng (fun x y => x - x / y * y) v 1000; omega), ?_⟩
              refine ⟨(by have q1 := yb_rng (fun x y => x / y) v 1000; have q2 := yb_rng (fun x y => x - x / y * y) v 1000; omega), ?_⟩
              refine ⟨(by have := show ((yset g 95 (Int.toNat (g 90 6)) d) 90 6) = (g 90 6) from (by simp [yset_ap, ycpy_ap]); have q1 := yb_rng (fun x y => x / y) v 1000; have q2 := yb_rng (fun x y => x - x / y * y) v 1000; omega), ?_⟩
              refine ⟨(by have q1 := yb_rng (fun x y => x / y) v 1000; have q2 := yb_rng (fun x y => x - x / y * y) v 1000; omega), ?_⟩
              refine ⟨(by rw [show ((yset (yset g 95 (Int.toNat (g 90 6)) d) 96 (Int.toNat ((yset g 95 (Int.toNat (g 90 6)) d) 90 6)) (yb (fun x y => x / y) v 1000)) 90 6) = (g 90 6) from by simp [yset_ap, ycpy_ap]]; have := show ((yset g 95 (Int.toNat (g 90 6)) d) 90 6) = (g 90 6) from (by simp [yset_ap, ycpy_ap]); have := show ((yset (yset g 95 (Int.toNat (g 90 6)) d) 96 (Int.toNat ((yset g 95 (Int.toNat (g 90 6)) d) 90 6)) (yb (fun x y => x / y) v 1000)) 90 6) = (g 90 6) from (by simp [yset_ap, ycpy_ap]); have q1 := yb_rng (fun x y => x / y) v 1000; have q2 := yb_rng (fun x y => x - x / y * y) v 1000; omega), ?_⟩
              have q1 := yb_rng (fun x y => x / y) v 1000
              have q2 := yb_rng (fun x y => x - x / y * y) v 1000
              have q3 : 0 ≤ v → 0 ≤ (yb (fun x y => x / y) v 1000) := fun h => yq0 h hr_v.2
              have := show ((yset g 95 (Int.toNat (g 90 6)) d) 90 6) = (g 90 6) from (by simp [yset_ap, ycpy_ap])
              have := show ((yset (yset g 95 (Int.toNat (g 90 6)) d) 96 (Int.toNat ((yset g 95 (Int.toNat (g 90 6)) d) 90 6)) (yb (fun x y => x / y) v 1000)) 90 6) = (g 90 6) from (by simp [yset_ap, ycpy_ap])
              have := show ((yset (yset (yset g 95 (Int.toNat (g 90 6)) d) 96 (Int.toNat ((yset g 95 (Int.toNat (g 90 6)) d) 90 6)) (yb (fun x y => x / y) v 1000)) 97 (Int.toNat ((yset (yset g 95 (Int.toNat (g 90 6)) d) 96 (Int.toNat ((yset g 95 (Int.toNat (g 90 6)) d) 90 6)) (yb (fun x y => x / y) v 1000)) 90 6)) (yb (fun x y => x - x / y * y) v 1000)) 90 6) = (g 90 6) from (by simp [yset_ap, ycpy_ap])
              have := show ((yset (yset (yset (yset g 95 (Int.toNat (g 90 6)) d) 96 (Int.toNat ((yset g 95 (Int.toNat (g 90 6)) d) 90 6)) (yb (fun x y => x / y) v 1000)) 97 (Int.toNat ((yset (yset g 95 (Int.toNat (g 90 6)) d) 96 (Int.toNat ((yset g 95 (Int.toNat (g 90 6)) d) 90 6)) (yb (fun x y => x / y) v 1000)) 90 6)) (yb (fun x y => x - x / y * y) v 1000)) 90 6 (yw (((yset (yset (yset g 95 (Int.toNat (g 90 6)) d) 96 (Int.toNat ((yset g 95 (Int.toNat (g 90 6)) d) 90 6)) (yb (fun x y => x / y) v 1000)) 97 (Int.toNat ((yset (yset g 95 (Int.toNat (g 90 6)) d) 96 (Int.toNat ((yset g 95 (Int.toNat (g 90 6)) d) 90 6)) (yb (fun x y => x / y) v 1000)) 90 6)) (yb (fun x y => x - x / y * y) v 1000)) 90 6) + 1))) 90 6) = (yw (((yset (yset (yset g 95 (Int.toNat (g 90 6)) d) 96 (Int.toNat ((yset g 95 (Int.toNat (g 90 6)) d) 90 6)) (yb (fun x y => x / y) v 1000)) 97 (Int.toNat ((yset (yset g 95 (Int.toNat (g 90 6)) d) 96 (Int.toNat ((yset g 95 (Int.toNat (g 90 6)) d) 90 6)) (yb (fun x y => x / y) v 1000)) 90 6)) (yb (fun x y => x - x / y * y) v 1000)) 90 6) + 1)) from (by simp [yset_ap, ycpy_ap])
              have := yw_s (((yset (yset (yset g 95 (Int.toNat (g 90 6)) d) 96 (Int.toNat ((yset g 95 (Int.toNat (g 90 6)) d) 90 6)) (yb (fun x y => x / y) v 1000)) 97 (Int.toNat ((yset (yset g 95 (Int.toNat (g 90 6)) d) 96 (Int.toNat ((yset g 95 (Int.toNat (g 90 6)) d) 90 6)) (yb (fun x y => x / y) v 1000)) 90 6)) (yb (fun x y => x - x / y * y) v 1000)) 90 6) + 1)
              refine hK _ _ (by refine yTy.sO ?_ (List.mem_of_getElem? (i := 42) rfl) rfl (by decide +kernel) ⟨by omega, by omega⟩; refine yTy.sA ?_ (List.mem_of_getElem? (i := 49) rfl) (by decide +kernel) q2; refine yTy.sA ?_ (List.mem_of_getElem? (i := 48) rfl) (by decide +kernel) q1; exact yTy.sA hp0 (List.mem_of_getElem? (i := 47) rfl) (by decide +kernel) hr_d) ?_ (by omega)
              refine yUn.st ?_ ⟨_, List.mem_of_getElem? (i := 3) rfl, by decide, by decide, Or.inr rfl⟩
              refine yUn.st ?_ ⟨_, List.mem_of_getElem? (i := 2) rfl, by decide, by decide, Or.inl rfl⟩
              refine yUn.st ?_ ⟨_, List.mem_of_getElem? (i := 1) rfl, by decide, by decide, Or.inl rfl⟩
              exact yUn.st yUn.rf ⟨_, List.mem_of_getElem? (i := 0) rfl, by decide, by decide, Or.inl rfl⟩
            · have q1 := yb_rng (fun x y => x / y) v 1000
              have q2 := yb_rng (fun x y => x - x / y * y) v 1000
              have q3 : 0 ≤ v → 0 ≤ (yb (fun x y => x / y) v 1000) := fun h => yq0 h hr_v.2
              exact hK _ _ hp0 yUn.rf (by omega)
          · have q1 := yb_rng (fun x y => x / y) v 1000
            have q2 := yb_rng (fun x y => x - x / y * y) v 1000
            have q3 : 0 ≤ v → 0 ≤ (yb (fun x y => x / y) v 1000) := fun h => yq0 h hr_v.2
            exact hK _ _ hp0 yUn.rf (by omega)
theorem yM_MW {l : Launch} {Ts : List Cond} {cl : List vw_C} {RO : zRO} (H : zHyp Ts cl RO) : yMet l Ts cl zpZ RO zpMT yC_MW := ymet_of2 H.1 H.2.1 zpDj H.2.2.1 yRb H.p12 (ymets_cons (yM_DO H) (ymets_cons (yM_IM H) ymets_nil)) (zrc1 rfl) (plainFor_of_name zpy12) zpDk137 (fun as g K Y h hA hY => by
  obtain ⟨d, v, rfl, hp0, hp1, hK⟩ := h
  exact yv_MW hY (yAr1 hA (by simp)) (yAr1 hA (by simp)) hp0 hp1 hK)
theorem yac_away1 {g : yM} (h : yInv g) : 0 ≤ g 1 7 ∧ g 1 7 ≤ 12 := ⟨h.2.1.2.1, h.2.1.2.2⟩
theorem yeq_B {g g1 : yM} (h : yUn yWA g g1) : g1 90 6 = g 90 6 := (h.eq (rs := [(90, 90, 1, 6)]) (by decide +kernel)).at (r := (90, 90, 1, 6)) (q := 90) (j := 6) (by decide) ⟨by decide, by decide⟩ (Or.inr rfl)
theorem yeq_A {g g1 : yM} (h : yUn yWB g g1) : g1 1 7 = g 1 7 := (h.eq (rs := [(1, 1, 1, 7)]) (by decide +kernel)).at (r := (1, 1, 1, 7)) (q := 1) (j := 7) (by decide) ⟨by decide, by decide⟩ (Or.inr rfl)
theorem yeq_K {g g1 : yM} {wr : zWr} (h : yUn wr g g1) (hd : ydj wr [(90, 90, 1, 4), (90, 90, 1, 5)] = true) : g1 90 4 = g 90 4 ∧ g1 90 5 = g 90 5 := ⟨(h.eq hd).at (r := (90, 90, 1, 4)) (q := 90) (j := 4) (by decide) ⟨by decide, by decide⟩ (Or.inr rfl), (h.eq hd).at (r := (90, 90, 1, 5)) (q := 90) (j := 5) (by decide) ⟨by decide, by decide⟩ (Or.inr rfl)⟩
theorem yam_away1 {g g1 : yM} {d v r1 : Int} (h : yInv g) (a0 : yTy zpZ g1) (a1 : yUn yWA g g1) (a2 : (r1 = -1 ∧ ¬ (0 ≤ d ∧ d < 4 ∧ 0 ≤ v ∧ 0 ≤ (yb (fun x y => x - x / y * y) v 1000) ∧ (yb (fun x y => x - x / y * y) v 1000) < 720 ∧ 0 ≤ (yb (fun x y => x / y) v 1000) ∧ (yb (fun x y => x / y) v 1000) ≤ (yb (fun x y => x - x / y * y) v 1000)) ∧ g1 1 7 = g 1 7) ∨ ((0 ≤ d ∧ d < 4 ∧ 0 ≤ v ∧ 0 ≤ (yb (fun x y => x - x / y * y) v 1000) ∧ (yb (fun x y => x - x / y * y) v 1000) < 720 ∧ 0 ≤ (yb (fun x y => x / y) v 1000) ∧ (yb (fun x y => x / y) v 1000) ≤ (yb (fun x y => x - x / y * y) v 1000)) ∧ ((r1 = -3 ∧ 12 ≤ g 1 7 ∧ g1 1 7 = g 1 7) ∨ (g 1 7 < 12 ∧ r1 = g 1 7 + 1 ∧ g1 1 7 = g 1 7 + 1)))) : 0 ≤ g1 90 6 ∧ g1 90 6 ≤ 12 := by
  have := yeq_B a1
  have := h.2.1
  omega
theorem yal_away {g g1 g2 : yM} {d v r1 r2 : Int} (h : yInv g) (a0 : yTy zpZ g1) (a1 : yUn yWA g g1) (a2 : (r1 = -1 ∧ ¬ (0 ≤ d ∧ d < 4 ∧ 0 ≤ v ∧ 0 ≤ (yb (fun x y => x - x / y * y) v 1000) ∧ (yb (fun x y => x - x / y * y) v 1000) < 720 ∧ 0 ≤ (yb (fun x y => x / y) v 1000) ∧ (yb (fun x y => x / y) v 1000) ≤ (yb (fun x y => x - x / y * y) v 1000)) ∧ g1 1 7 = g 1 7) ∨ ((0 ≤ d ∧ d < 4 ∧ 0 ≤ v ∧ 0 ≤ (yb (fun x y => x - x / y * y) v 1000) ∧ (yb (fun x y => x - x / y * y) v 1000) < 720 ∧ 0 ≤ (yb (fun x y => x / y) v 1000) ∧ (yb (fun x y => x / y) v 1000) ≤ (yb (fun x y => x - x / y * y) v 1000)) ∧ ((r1 = -3 ∧ 12 ≤ g 1 7 ∧ g1 1 7 = g 1 7) ∨ (g 1 7 < 12 ∧ r1 = g 1 7 + 1 ∧ g1 1 7 = g 1 7 + 1)))) (b0 : yTy zpZ g2) (b1 : yUn yWB g1 g2) (b2 : (r2 = -1 ∧ ¬ (0 ≤ d ∧ d < 4 ∧ 0 ≤ v ∧ 0 ≤ (yb (fun x y => x - x / y * y) v 1000) ∧ (yb (fun x y => x - x / y * y) v 1000) < 720 ∧ 0 ≤ (yb (fun x y => x / y) v 1000) ∧ (yb (fun x y => x / y) v 1000) ≤ (yb (fun x y => x - x / y * y) v 1000)) ∧ g2 90 6 = g1 90 6) ∨ ((0 ≤ d ∧ d < 4 ∧ 0 ≤ v ∧ 0 ≤ (yb (fun x y => x - x / y * y) v 1000) ∧ (yb (fun x y => x - x / y * y) v 1000) < 720 ∧ 0 ≤ (yb (fun x y => x / y) v 1000) ∧ (yb (fun x y => x / y) v 1000) ≤ (yb (fun x y => x - x / y * y) v 1000)) ∧ ((r2 = -3 ∧ 12 ≤ g1 90 6 ∧ g2 90 6 = g1 90 6) ∨ (g1 90 6 < 12 ∧ r2 = g1 90 6 + 1 ∧ g2 90 6 = g1 90 6 + 1)))) : yInv g2 ∧ r1 = r2 := by
  have e1 := yeq_B a1
  have e2 := yeq_A b1
  have e3 := yeq_K a1 (by decide +kernel)
  have e4 := yeq_K b1 (by decide +kernel)
  obtain ⟨h1, h2⟩ := h.2
  refine ⟨⟨b0, ⟨by omega, by omega, by omega⟩, by omega⟩, by omega⟩
