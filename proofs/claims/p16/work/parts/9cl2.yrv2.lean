/-! WHAT IS ALIKE: the class's values by kind and number, the reference's by one number -/
def ykv (g : yM) (k o : Int) : Int := if k = 0 then g (50 + Int.toNat o) 1 else if k = 1 then g 13 (Int.toNat o) else if k = 2 then g 14 (Int.toNat o) else g 1 9
def ysv (g : yM) (k o v : Int) : yM := if k = 0 then yset g (50 + Int.toNat o) 1 v else if k = 1 then yset g 13 (Int.toNat o) v else if k = 2 then yset g 14 (Int.toNat o) v else yset g 1 9 v
def ycod (k o : Int) : Int := if k = 0 then o else if k = 1 then 40 + o else if k = 2 then 46 + o else 52
def yok (g : yM) (k o : Int) : Prop := (k = 0 ∧ 0 ≤ o ∧ o < g 1 1 ∧ o < 40) ∨ (k = 1 ∧ 0 ≤ o ∧ o < 6) ∨ (k = 2 ∧ 0 ≤ o ∧ o < 6) ∨ (k = 3 ∧ o = 0)
def yvb (g : yM) (k o v : Int) : Prop := (k = 0 → 0 ≤ v ∧ v < g (50 + Int.toNat o) 2) ∧ (k = 1 ∨ k = 2 → 1 ≤ v ∧ v ≤ 99) ∧ (k = 3 → 0 ≤ v ∧ v ≤ 30)
theorem ykv_0 (g : yM) (o : Int) : ykv g 0 o = g (50 + Int.toNat o) 1 := if_pos rfl
theorem ykv_1 (g : yM) (o : Int) : ykv g 1 o = g 13 (Int.toNat o) := by unfold ykv; rw [if_neg (by decide), if_pos rfl]
theorem ykv_2 (g : yM) (o : Int) : ykv g 2 o = g 14 (Int.toNat o) := by unfold ykv; rw [if_neg (by decide), if_neg (by decide), if_pos rfl]
theorem ykv_3 (g : yM) (o : Int) : ykv g 3 o = g 1 9 := by unfold ykv; rw [if_neg (by decide), if_neg (by decide), if_neg (by decide)]
theorem ysv_0 (g : yM) (o v : Int) : ysv g 0 o v = yset g (50 + Int.toNat o) 1 v := if_pos rfl
theorem ysv_1 (g : yM) (o v : Int) : ysv g 1 o v = yset g 13 (Int.toNat o) v := by unfold ysv; rw [if_neg (by decide), if_pos rfl]
theorem ysv_2 (g : yM) (o v : Int) : ysv g 2 o v = yset g 14 (Int.toNat o) v := by unfold ysv; rw [if_neg (by decide), if_neg (by decide), if_pos rfl]
theorem ysv_3 (g : yM) (o v : Int) : ysv g 3 o v = yset g 1 9 v := by unfold ysv; rw [if_neg (by decide), if_neg (by decide), if_neg (by decide)]
theorem ycod_0 (o : Int) : ycod 0 o = o := if_pos rfl
theorem ycod_1 (o : Int) : ycod 1 o = 40 + o := by unfold ycod; rw [if_neg (by decide), if_pos rfl]
theorem ycod_2 (o : Int) : ycod 2 o = 46 + o := by unfold ycod; rw [if_neg (by decide), if_neg (by decide), if_pos rfl]
theorem ycod_3 (o : Int) : ycod 3 o = 52 := by unfold ycod; rw [if_neg (by decide), if_neg (by decide), if_neg (by decide)]
theorem ycod_b {g : yM} {k o : Int} (h : yok g k o) : 0 ≤ ycod k o ∧ ycod k o < 53 := by
  rcases h with ⟨rfl, h⟩ | ⟨rfl, h⟩ | ⟨rfl, h⟩ | ⟨rfl, h⟩
  · rw [ycod_0]; omega
  · rw [ycod_1]; omega
  · rw [ycod_2]; omega
  · rw [ycod_3]; omega
theorem ycod_i {g : yM} {k o k' o' : Int} (h : yok g k o) (h' : yok g k' o') (e : Int.toNat (ycod k o) = Int.toNat (ycod k' o')) : k = k' ∧ o = o' := by
  rcases h with ⟨rfl, h⟩ | ⟨rfl, h⟩ | ⟨rfl, h⟩ | ⟨rfl, h⟩ <;> rcases h' with ⟨rfl, h'⟩ | ⟨rfl, h'⟩ | ⟨rfl, h'⟩ | ⟨rfl, h'⟩ <;> simp only [ycod_0, ycod_1, ycod_2, ycod_3] at e <;> omega
theorem ysv_same {g : yM} {k o v : Int} (h : yok g k o) : ykv (ysv g k o v) k o = v := by
  rcases h with ⟨rfl, h⟩ | ⟨rfl, h⟩ | ⟨rfl, h⟩ | ⟨rfl, h⟩
  · rw [ykv_0, ysv_0, yset_eq]
  · rw [ykv_1, ysv_1, yset_eq]
  · rw [ykv_2, ysv_2, yset_eq]
  · rw [ykv_3, ysv_3, yset_eq]
theorem ysv_other {g : yM} {k o v k' o' : Int} (h : yok g k o) (h' : yok g k' o') (hne : ¬ (k = k' ∧ o = o')) : ykv (ysv g k o v) k' o' = ykv g k' o' := by
  rcases h with ⟨rfl, h⟩ | ⟨rfl, h⟩ | ⟨rfl, h⟩ | ⟨rfl, h⟩ <;> rcases h' with ⟨rfl, h'⟩ | ⟨rfl, h'⟩ | ⟨rfl, h'⟩ | ⟨rfl, h'⟩ <;> simp only [ykv_0, ykv_1, ykv_2, ykv_3, ysv_0, ysv_1, ysv_2, ysv_3] <;> first | exact yset_ne (by omega) | omega
/-- what values are written may change -/
def yWVs : zWr := [(50, 89, 1, 1), (13, 14, 0, 0), (1, 1, 1, 9)]
theorem ysv_un {g : yM} {k o v : Int} (h : yok g k o) : yUn yWVs g (ysv g k o v) := by
  rcases h with ⟨rfl, h⟩ | ⟨rfl, h⟩ | ⟨rfl, h⟩ | ⟨rfl, h⟩
  · rw [ysv_0]
    exact yUn.st yUn.rf ⟨(50, 89, 1, 1), by decide, by show (50 : Int) ≤ (50 + Int.toNat o : Nat); omega, by show ((50 + Int.toNat o : Nat) : Int) ≤ 89; omega, Or.inr rfl⟩
  · rw [ysv_1]
    exact yUn.st yUn.rf ⟨(13, 14, 0, 0), by decide, by decide, by decide, Or.inl rfl⟩
  · rw [ysv_2]
    exact yUn.st yUn.rf ⟨(13, 14, 0, 0), by decide, by decide, by decide, Or.inl rfl⟩
  · rw [ysv_3]
    exact yUn.st yUn.rf ⟨(1, 1, 1, 9), by decide, by decide, by decide, Or.inr rfl⟩
theorem ysv_ty {g : yM} {k o v : Int} (h : yok g k o) (hv : -2147483648 ≤ v ∧ v ≤ 2147483647) (hT : yTy zpZ g) : yTy zpZ (ysv g k o v) := by
  rcases h with ⟨rfl, h⟩ | ⟨rfl, h⟩ | ⟨rfl, h⟩ | ⟨rfl, h⟩
  · rw [ysv_0]
    exact hT.sR (List.mem_of_getElem? (i := 41) rfl) (by omega) (by omega) rfl (by omega) hv
  · rw [ysv_1]
    exact hT.sA (List.mem_of_getElem? (i := 12) rfl) (by decide +kernel) hv
  · rw [ysv_2]
    exact hT.sA (List.mem_of_getElem? (i := 13) rfl) (by decide +kernel) hv
  · rw [ysv_3]
    exact hT.sO (List.mem_of_getElem? (i := 1) rfl) rfl (by decide +kernel) hv
def yVt (g : yM) : Prop := g 90 13 = g 2 2 ∧ (0 ≤ g 2 2 ∧ g 2 2 ≤ 60) ∧ ∀ k : Nat, (k : Int) < g 2 2 → g 98 k = yb (fun x y => x &&& y) (g 18 k) 255
def yVc (g : yM) : Prop := g 90 22 = g 1 1 ∧ (0 ≤ g 1 1 ∧ g 1 1 ≤ 40) ∧ ∀ i : Nat, (i : Int) < g 1 1 → (g 101 i = g (50 + i) 0 ∧ g 102 i = g (50 + i) 2 ∧ g 103 i = g (50 + i) 3 ∧ g 104 i = g (50 + i) 4 ∧ g 105 i = g (50 + i) 5 ∧ g 106 i = g (50 + i) 6 ∧ g 107 i = g (50 + i) 7 ∧ g 108 i = g (50 + i) 8) ∧ ((0 ≤ g (50 + i) 0 ∧ g (50 + i) 0 ≤ 3) ∧ (1 ≤ g (50 + i) 2 ∧ g (50 + i) 2 ≤ 719) ∧ (0 ≤ g (50 + i) 3 ∧ g (50 + i) 3 ≤ 3) ∧ (0 ≤ g (50 + i) 4 ∧ g (50 + i) 4 ≤ 5) ∧ (0 ≤ g (50 + i) 5 ∧ g (50 + i) 5 ≤ 7) ∧ (-1 ≤ g (50 + i) 6 ∧ g (50 + i) 6 ≤ 99) ∧ (0 ≤ g (50 + i) 7 ∧ g (50 + i) 7 ≤ 3) ∧ (-1 ≤ g (50 + i) 8 ∧ g (50 + i) 8 ≤ 719))
def yVv (g : yM) : Prop := ∀ k o : Int, yok g k o → g 91 (Int.toNat (ycod k o)) = ykv g k o ∧ yvb g k o (ykv g k o)
def yVh (g : yM) : Prop := (g 90 5 = g 4 5 ∧ g 90 4 = g 4 6 ∧ 0 ≤ g 4 5 ∧ g 4 5 ≤ g 4 6 ∧ g 4 6 ≤ 40) ∧ ∀ k : Nat, (k : Int) < g 4 6 → yok g (g 19 k) (g 20 k) ∧ g 92 k = ycod (g 19 k) (g 20 k) ∧ g 93 k = g 21 k ∧ g 94 k = g 22 k ∧ yvb g (g 19 k) (g 20 k) (g 21 k) ∧ yvb g (g 19 k) (g 20 k) (g 22 k)
def yVd (g : yM) : Prop := (g 90 6 = g 1 7 ∧ 0 ≤ g 1 7 ∧ g 1 7 ≤ 12) ∧ (g 90 10 = g 1 8 ∧ 0 ≤ g 1 8 ∧ g 1 8 ≤ 3) ∧ (g 90 11 = g 1 10 ∧ 0 ≤ g 1 10 ∧ g 1 10 ≤ 1) ∧ ∀ j : Nat, (j : Int) < g 1 7 → (g 95 j = g 15 j ∧ g 96 j = g 16 j ∧ g 97 j = g 17 j) ∧ (0 ≤ g 16 j ∧ g 16 j ≤ 719 ∧ 0 ≤ g 17 j ∧ g 17 j ≤ 719)
def yrst : zWr := [(90, 90, 1, 13), (2, 2, 1, 2), (98, 98, 0, 0), (18, 18, 0, 0)]
def yrsc : zWr := [(90, 90, 1, 22), (1, 1, 1, 1), (101, 108, 0, 0), (50, 89, 1, 0), (50, 89, 1, 2), (50, 89, 1, 3), (50, 89, 1, 4), (50, 89, 1, 5), (50, 89, 1, 6), (50, 89, 1, 7), (50, 89, 1, 8)]
def yrsv : zWr := [(1, 1, 1, 1), (91, 91, 0, 0), (50, 89, 1, 1), (50, 89, 1, 2), (13, 14, 0, 0), (1, 1, 1, 9)]
def yrsh : zWr := [(90, 90, 1, 5), (90, 90, 1, 4), (4, 4, 1, 5), (4, 4, 1, 6), (19, 22, 0, 0), (92, 94, 0, 0), (1, 1, 1, 1), (50, 89, 1, 2)]
def yrsd : zWr := [(90, 90, 1, 6), (1, 1, 1, 7), (90, 90, 1, 10), (1, 1, 1, 8), (90, 90, 1, 11), (1, 1, 1, 10), (95, 97, 0, 0), (15, 17, 0, 0)]
theorem yEq.one {rs : zWr} {g g' : yM} (h : yEq rs g g') {q j : Nat} (hr : ((q : Int), (q : Int), (1 : Nat), j) ∈ rs) : g' q j = g q j := h.at hr ⟨Int.le_refl _, Int.le_refl _⟩ (Or.inr rfl)
theorem yEq.all {rs : zWr} {g g' : yM} (h : yEq rs g g') {a b : Int} {n : Nat} (hr : (a, b, (0 : Nat), n) ∈ rs) {q : Nat} (h1 : a ≤ (q : Int)) (h2 : (q : Int) ≤ b) (j : Nat) : g' q j = g q j := h.at hr ⟨h1, h2⟩ (Or.inl rfl)
theorem yEq.fld {rs : zWr} {g g' : yM} (h : yEq rs g g') {a b : Int} {j : Nat} (hr : (a, b, (1 : Nat), j) ∈ rs) {q : Nat} (h1 : a ≤ (q : Int)) (h2 : (q : Int) ≤ b) : g' q j = g q j := h.at hr ⟨h1, h2⟩ (Or.inr rfl)
theorem yEq.sub {rs rs' : zWr} {g g' : yM} (h : yEq rs g g') (hs : ∀ r ∈ rs', r ∈ rs) : yEq rs' g g' := fun q j ⟨r, hr, hc⟩ => h q j ⟨r, hs r hr, hc⟩
theorem yVt.mono {g g' : yM} (h : yVt g) (e : yEq yrst g g') : yVt g' := by
  obtain ⟨h1, h2, h3⟩ := h
  have e1 : g' 90 13 = g 90 13 := e.one (by decide)
  have e2 : g' 2 2 = g 2 2 := e.one (by decide)
  refine ⟨by rw [e1, e2]; exact h1, by rw [e2]; exact h2, fun k hk => ?_⟩
  rw [e.all (q := 98) (a := 98) (b := 98) (n := 0) (by decide) (by decide) (by decide), e.all (q := 18) (a := 18) (b := 18) (n := 0) (by decide) (by decide) (by decide)]
  exact h3 k (by omega)
theorem yVc.mono {g g' : yM} (h : yVc g) (e : yEq yrsc g g') : yVc g' := by
  obtain ⟨h1, h2, h3⟩ := h
  have e1 : g' 90 22 = g 90 22 := e.one (by decide)
  have e2 : g' 1 1 = g 1 1 := e.one (by decide)
  have e3 : ∀ (q : Nat) (j : Nat), 101 ≤ q → q ≤ 108 → g' q j = g q j := fun q j a b => e.all (a := 101) (b := 108) (n := 0) (by decide) (by omega) (by omega) j
  refine ⟨by rw [e1, e2]; exact h1, by rw [e2]; exact h2, fun i hi => ?_⟩
  rw [e2] at hi
  have ef : ∀ j : Nat, ((50 : Int), (89 : Int), (1 : Nat), j) ∈ yrsc → g' (50 + i) j = g (50 + i) j := fun j hj => e.fld hj (by omega) (by omega)
  rw [ef 0 (by decide), ef 2 (by decide), ef 3 (by decide), ef 4 (by decide), ef 5 (by decide), ef 6 (by decide), ef 7 (by decide), ef 8 (by decide), e3 101 i (by decide) (by decide), e3 102 i (by decide) (by decide), e3 103 i (by decide) (by decide), e3 104 i (by decide) (by decide), e3 105 i (by decide) (by decide), e3 106 i (by decide) (by decide), e3 107 i (by decide) (by decide), e3 108 i (by decide) (by decide)]
  exact h3 i hi
theorem yok.mono {g g' : yM} {k o : Int} (h : yok g k o) (e : g' 1 1 = g 1 1) : yok g' k o := by
  unfold yok
  rw [e]
  exact h
theorem yvb.mono {g g' : yM} {k o v : Int} (h : yvb g k o v) (e : k = 0 → g' (50 + Int.toNat o) 2 = g (50 + Int.toNat o) 2) : yvb g' k o v := by
  obtain ⟨h1, h2⟩ := h
  exact ⟨fun hk => by rw [e hk]; exact h1 hk, h2⟩
theorem ykv.mono {g g' : yM} {k o : Int} (h0 : k = 0 → g' (50 + Int.toNat o) 1 = g (50 + Int.toNat o) 1) (h1 : ∀ j, g' 13 j = g 13 j) (h2 : ∀ j, g' 14 j = g 14 j) (h3 : g' 1 9 = g 1 9) : ykv g' k o = ykv g k o := by
  unfold ykv
  split
  · exact h0 (by assumption)
  · rw [h1, h2, h3]
theorem yok.b {g : yM} {k o : Int} (h : yok g k o) (hk : k = 0) : 50 ≤ 50 + Int.toNat o ∧ 50 + Int.toNat o ≤ 89 := by
  rcases h with h | h | h | h <;> omega
theorem yVv.mono {g g' : yM} (h : yVv g) (e : yEq yrsv g g') : yVv g' := by
  intro k o hk
  have e1 : g' 1 1 = g 1 1 := e.one (by decide)
  have hk := hk.mono e1.symm
  obtain ⟨h1, h2⟩ := h k o hk
  have ev : ykv g' k o = ykv g k o := ykv.mono (fun h0 => e.fld (a := 50) (b := 89) (by decide) (by have := hk.b h0; omega) (by have := hk.b h0; omega)) (fun j => e.all (a := 13) (b := 14) (n := 0) (by decide) (by decide) (by decide) j) (fun j => e.all (a := 13) (b := 14) (n := 0) (by decide) (by decide) (by decide) j) (e.one (by decide))
  rw [ev, e.all (a := 91) (b := 91) (n := 0) (by decide) (by decide) (by decide)]
  exact ⟨h1, h2.mono (fun h0 => e.fld (a := 50) (b := 89) (by decide) (by have := hk.b h0; omega) (by have := hk.b h0; omega))⟩
theorem yVh.mono {g g' : yM} (h : yVh g) (e : yEq yrsh g g') : yVh g' := by
  obtain ⟨h1, h2⟩ := h
  have e1 : g' 90 5 = g 90 5 := e.one (by decide)
  have e2 : g' 90 4 = g 90 4 := e.one (by decide)
  have e3 : g' 4 5 = g 4 5 := e.one (by decide)
  have e4 : g' 4 6 = g 4 6 := e.one (by decide)
  have e5 : g' 1 1 = g 1 1 := e.one (by decide)
  have e6 : ∀ (q : Nat) (j : Nat), 19 ≤ q → q ≤ 22 → g' q j = g q j := fun q j a b => e.all (a := 19) (b := 22) (n := 0) (by decide) (by omega) (by omega) j
  have e7 : ∀ (q : Nat) (j : Nat), 92 ≤ q → q ≤ 94 → g' q j = g q j := fun q j a b => e.all (a := 92) (b := 94) (n := 0) (by decide) (by omega) (by omega) j
  refine ⟨by rw [e1, e2, e3, e4]; exact h1, fun k hk => ?_⟩
  rw [e4] at hk
  rw [e6 19 k (by decide) (by decide), e6 20 k (by decide) (by decide), e6 21 k (by decide) (by decide), e6 22 k (by decide) (by decide), e7 92 k (by decide) (by decide), e7 93 k (by decide) (by decide), e7 94 k (by decide) (by decide)]
  obtain ⟨k1, k2, k3, k4, k5, k6⟩ := h2 k hk
  have ee : g 19 k = 0 → g' (50 + Int.toNat (g 20 k)) 2 = g (50 + Int.toNat (g 20 k)) 2 := fun h0 => e.fld (a := 50) (b := 89) (by decide) (by have := k1.b h0; omega) (by have := k1.b h0; omega)
  exact ⟨k1.mono e5, k2, k3, k4, k5.mono ee, k6.mono ee⟩
theorem yVd.mono {g g' : yM} (h : yVd g) (e : yEq yrsd g g') : yVd g' := by
  obtain ⟨h1, h2, h3, h4⟩ := h
  have e1 : g' 90 6 = g 90 6 := e.one (by decide)
  have e2 : g' 1 7 = g 1 7 := e.one (by decide)
  have e3 : g' 90 10 = g 90 10 := e.one (by decide)
  have e4 : g' 1 8 = g 1 8 := e.one (by decide)
  have e5 : g' 90 11 = g 90 11 := e.one (by decide)
  have e6 : g' 1 10 = g 1 10 := e.one (by decide)
  have e7 : ∀ (q : Nat) (j : Nat), 95 ≤ q → q ≤ 97 → g' q j = g q j := fun q j a b => e.all (a := 95) (b := 97) (n := 0) (by decide) (by omega) (by omega) j
  have e8 : ∀ (q : Nat) (j : Nat), 15 ≤ q → q ≤ 17 → g' q j = g q j := fun q j a b => e.all (a := 15) (b := 17) (n := 0) (by decide) (by omega) (by omega) j
  refine ⟨by rw [e1, e2]; exact h1, by rw [e3, e4]; exact h2, by rw [e5, e6]; exact h3, fun j hj => ?_⟩
  rw [e2] at hj
  rw [e7 95 j (by decide) (by decide), e7 96 j (by decide) (by decide), e7 97 j (by decide) (by decide), e8 15 j (by decide) (by decide), e8 16 j (by decide) (by decide), e8 17 j (by decide) (by decide)]
  exact h4 j hj
def yrsV : zWr := yrst ++ yrsc ++ yrsv ++ yrsh ++ yrsd
def yRV (g : yM) : Prop := yVt g ∧ yVc g ∧ yVv g ∧ yVh g ∧ yVd g
theorem yRV.mono {g g' : yM} (h : yRV g) (e : yEq yrsV g g') : yRV g' := by
  have s : ∀ rs : zWr, (∀ r ∈ rs, r ∈ yrsV) → yEq rs g g' := fun rs hs => e.sub hs
  exact ⟨h.1.mono (s _ (by decide +kernel)), h.2.1.mono (s _ (by decide +kernel)), h.2.2.1.mono (s _ (by decide +kernel)), h.2.2.2.1.mono (s _ (by decide +kernel)), h.2.2.2.2.mono (s _ (by decide +kernel))⟩
def yJnv (g : yM) : Prop := yInv g ∧ yRV g
