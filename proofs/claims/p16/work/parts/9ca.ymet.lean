/-! METHODS OF THE PURE MACHINE: what all need -/
def yAr (as : List yV) : Prop := ∀ a ∈ as, (a.1 = 1 → -2147483648 ≤ a.2 ∧ a.2 ≤ 2147483647) ∧ (a.1 = 2 → -9223372036854775808 ≤ a.2 ∧ a.2 ≤ 9223372036854775807)
theorem yAr_of {Z : zZ} {ad : Nat → Nat} : ∀ {as : List yV} {As : List Value}, yS Z ad as As → yAr as
  | [], [], _ => fun a ha => by cases ha
  | (t, z) :: as, v :: vs, h => fun a ha => by
    rcases List.mem_cons.mp ha with rfl | ha
    · refine ⟨fun e => ?_, fun e => ?_⟩
      · have e : t = 1 := e
        subst e
        obtain ⟨x, -, hx⟩ := yvI' h.1
        have h1 := Int32.le_toInt x
        have h2 := Int32.toInt_lt x
        have hx : x.toInt = z := hx
        show -2147483648 ≤ z ∧ z ≤ 2147483647
        omega
      · have e : t = 2 := e
        subst e
        obtain ⟨x, -, hx⟩ := yvL' h.1
        have h1 := Int64.le_toInt x
        have h2 := Int64.toInt_lt x
        have hx : x.toInt = z := hx
        show -9223372036854775808 ≤ z ∧ z ≤ 9223372036854775807
        omega
    · exact yAr_of h.2 a ha
theorem yAr1 {as : List yV} {z : Int} (h : yAr as) (hm : (1, z) ∈ as) : -2147483648 ≤ z ∧ z ≤ 2147483647 := (h _ hm).1 rfl
theorem yAr2 {as : List yV} {z : Int} (h : yAr as) (hm : (2, z) ∈ as) : -9223372036854775808 ≤ z ∧ z ≤ 9223372036854775807 := (h _ hm).2 rfl
theorem yRb : ∀ tb ∈ zpRS, ∀ v ∈ tb, -2147483648 ≤ v ∧ v ≤ 2147483647 := by decide
theorem ymets_cons {l : Launch} {Ts : List Cond} {cl : List vw_C} {Z : zZ} {RO : zRO} {MT : zMT} {c : yC} {CS : List yC} (h : yMet l Ts cl Z RO MT c) (t : ∀ c ∈ CS, yMet l Ts cl Z RO MT c) : ∀ x ∈ c :: CS, yMet l Ts cl Z RO MT x := fun x hx => by
  rcases List.mem_cons.mp hx with rfl | hx
  · exact h
  · exact t x hx
theorem ymets_nil {l : Launch} {Ts : List Cond} {cl : List vw_C} {Z : zZ} {RO : zRO} {MT : zMT} : ∀ x ∈ ([] : List yC), yMet l Ts cl Z RO MT x := fun x hx => by cases hx
theorem ymet_of2 {l : Launch} {Ts : List Cond} {cl : List vw_C} {Z : zZ} {RO : zRO} {RS : List (List Int)} {MT : zMT} {CS : List yC} {cn : yC} {P : zPool} {rc : Nat} (hTg : ∀ w ∈ Ts, goodWord w = true) (hR : zROk RO) (hZ : zDj Z) (hRS : zRowT RO RS) (hRb : ∀ tb ∈ RS, ∀ v ∈ tb, -2147483648 ≤ v ∧ v ≤ 2147483647) (hPk : zPok Ts cl RO MT (MT cn.1).1.cls P) (hCS : ∀ c' ∈ CS, yMet l Ts cl Z RO MT c') (hrc : zrcOk rc (MT cn.1).2.2.2) (hy : plainFor (MT cn.1).1 = true)
    {t : Nat → Option (Instr × Nat)} (ht : ∀ (pc : Nat) (q : Instr × Nat), t pc = some q → decode (MT cn.1).2.1 pc = .ok q)
    (hand : ∀ (as : List yV) (g : yM) (K : List yV → yM → Prop) (Y : yNx), cn.2.2 as g K → yAr as → yCl t (Z, RS, P, MT, CS, cn.2.1, rc) K Y → Y 0 (ylayP as (MT cn.1).2.2.1) [] g) : yMet l Ts cl Z RO MT cn := by
  intro D tys A ad ws g as As K hMem hSA hlen hD hK0
  exact ymet_of (cn := (cn.1, cn.2.1, fun as' g' K' => cn.2.2 as' g' K' ∧ yAr as')) hTg hR hZ hRS hRb hPk hCS hrc hy ht (fun as g K Y h hY => hand as g K Y h.1 h.2 hY) D tys A ad ws g as As K hMem hSA hlen hD ⟨hK0, yAr_of hSA⟩
theorem yw_s (z : Int) : -2147483648 ≤ z → z ≤ 2147483647 → yw z = z := fun h1 h2 => Int.bmod_eq_of_le (by omega) (by omega)
theorem ywl_s (z : Int) : -9223372036854775808 ≤ z → z ≤ 9223372036854775807 → ywl z = z := fun h1 h2 => Int.bmod_eq_of_le (by omega) (by omega)
theorem ycmp_s (x y : Int) : (x < y ∧ ycmp x y = -1) ∨ (x = y ∧ ycmp x y = 0) ∨ (y < x ∧ ycmp x y = 1) := by
  unfold ycmp
  by_cases h : x < y
  · exact Or.inl ⟨h, if_pos h⟩
  · by_cases e : x = y
    · exact Or.inr (Or.inl ⟨e, by rw [if_neg h, if_pos e]⟩)
    · exact Or.inr (Or.inr ⟨by omega, by rw [if_neg h, if_neg e]⟩)
/-- a stretch of noughts -/
def yzero (g : yM) (q n : Nat) : yM := fun a b => if a = q ∧ b < n then 0 else g a b
theorem yzero_step (g : yM) (q n : Nat) : yset (yzero g q n) q n 0 = yzero g q (n + 1) := by
  funext a b
  unfold yset yzero
  by_cases h : a = q ∧ b = n
  · rw [if_pos h, if_pos ⟨h.1, by omega⟩]
  · rw [if_neg h]
    by_cases h2 : a = q ∧ b < n
    · rw [if_pos h2, if_pos ⟨h2.1, by omega⟩]
    · rw [if_neg h2, if_neg (fun q => by
        by_cases h3 : b = n
        · exact h ⟨q.1, h3⟩
        · exact h2 ⟨q.1, by omega⟩)]
theorem yzero_0 (g : yM) (q : Nat) : yzero g q 0 = g := by
  funext a b
  unfold yzero
  rw [if_neg (fun h => by omega)]
theorem yset_ap (g : yM) (q j : Nat) (v : Int) (a b : Nat) : yset g q j v a b = if a = q ∧ b = j then v else g a b := rfl
theorem ycpy_ap (g : yM) (q u sp dp n : Nat) (a b : Nat) : ycpy g q u sp dp n a b = if a = q ∧ (dp ≤ b ∧ b < dp + n) then g u (sp + (b - dp)) else g a b := rfl
/-- a stretch of noughts, from a place on -/
def yzr (g : yM) (q a n : Nat) : yM := fun x b => if x = q ∧ (a ≤ b ∧ b < a + n) then 0 else g x b
theorem yzr_0 (g : yM) (q a : Nat) : yzr g q a 0 = g := by
  funext x b
  unfold yzr
  rw [if_neg (fun h => by omega)]
theorem yzr_step (g : yM) (q a n : Nat) : yset (yzr g q a n) q (a + n) 0 = yzr g q a (n + 1) := by
  funext x b
  unfold yset yzr
  by_cases h : x = q ∧ b = a + n
  · rw [if_pos h, if_pos ⟨h.1, by omega⟩]
  · rw [if_neg h]
    by_cases h2 : x = q ∧ (a ≤ b ∧ b < a + n)
    · rw [if_pos h2, if_pos ⟨h2.1, by omega⟩]
    · rw [if_neg h2, if_neg (fun z => by
        by_cases h3 : b = a + n
        · exact h ⟨z.1, h3⟩
        · exact h2 ⟨z.1, by omega⟩)]
theorem ycpy_0 (g : yM) (q u sp dp : Nat) : ycpy g q u sp dp 0 = g := by
  funext x b
  unfold ycpy
  rw [if_neg (fun h => by omega)]
theorem ycpy_step (g : yM) (q u sp dp n : Nat) : yset (ycpy g q u sp dp n) q (dp + n) (g u (sp + n)) = ycpy g q u sp dp (n + 1) := by
  funext x b
  unfold yset ycpy
  by_cases h : x = q ∧ b = dp + n
  · rw [if_pos h, if_pos ⟨h.1, by omega⟩, show b - dp = n by omega]
  · rw [if_neg h]
    by_cases h2 : x = q ∧ (dp ≤ b ∧ b < dp + n)
    · rw [if_pos h2, if_pos ⟨h2.1, by omega⟩]
    · rw [if_neg h2, if_neg (fun z => by
        by_cases h3 : b = dp + n
        · exact h ⟨z.1, h3⟩
        · exact h2 ⟨z.1, by omega⟩)]
