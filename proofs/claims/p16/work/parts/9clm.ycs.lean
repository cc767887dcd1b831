/-! COMERS OUT OF A ROW: THE CLASS -/
/-- five in a row, and whether they are a comer -/
def yfok (x : Nat → Int) : Prop := (0 ≤ x 0 ∧ x 0 < x 1 ∧ x 1 < 720) ∧ (0 ≤ x 2 ∧ x 2 < 4) ∧ (0 ≤ x 3 ∧ x 3 < 6) ∧ (0 ≤ x 4 ∧ x 4 < 8)
def yfx (g : yM) (p t : Int) (j : Nat) : Int := yw (g (44 + Int.toNat p) (Int.toNat (t + j)))
def yfV (g : yM) (p t : Int) : Prop := 0 ≤ t ∧ t ≤ g 42 (Int.toNat p) - 5 ∧ yfok (yfx g p t)
def yf5 (g : yM) (A : Nat) (x : Nat → Int) : yM := yset (yset (yset (yset (yset (yset (yset g A 1 (x 0)) A 2 (x 1)) A 3 (x 2)) A 4 (x 3)) A 5 (x 4)) A 6 (-1)) A 7 (x 2)
theorem yf5_nc {g : yM} {A : Nat} {x : Nat → Int} {a b : Nat} (h : ¬ (a = A ∧ 1 ≤ b ∧ b ≤ 7)) : yf5 g A x a b = g a b := by
  unfold yf5
  rw [yset_ne (by omega), yset_ne (by omega), yset_ne (by omega), yset_ne (by omega), yset_ne (by omega), yset_ne (by omega), yset_ne (by omega)]
theorem yf5_v (g : yM) (A : Nat) (x : Nat → Int) : yf5 g A x A 1 = x 0 ∧ yf5 g A x A 2 = x 1 ∧ yf5 g A x A 3 = x 2 ∧ yf5 g A x A 4 = x 3 ∧ yf5 g A x A 5 = x 4 ∧ yf5 g A x A 6 = -1 ∧ yf5 g A x A 7 = x 2 := by
  unfold yf5
  refine ⟨?_, ?_, ?_, ?_, ?_, ?_, ?_⟩ <;> simp only [yset_nj, yset_eq, ne_eq, Nat.reduceEqDiff, not_false_eq_true]
theorem ywr (z : Int) : -2147483648 ≤ yw z ∧ yw z ≤ 2147483647 := by
  have a := Int.le_bmod (x := z) (m := 4294967296) (by decide)
  have b := Int.bmod_lt (x := z) (m := 4294967296) (by decide)
  unfold yw
  omega
theorem yf5_ty {g : yM} {c : Int} {x : Nat → Int} (h : yTy zpZ g) (hc : 0 ≤ c ∧ c < 40) (hz : g 1 1 ≤ c) (hx : ∀ j, -2147483648 ≤ x j ∧ x j ≤ 2147483647) : yTy zpZ (yf5 g (50 + Int.toNat c) x) := by
  unfold yf5
  refine yTy.sR ?_ (List.mem_of_getElem? (i := 41) rfl) (by omega) (by omega) rfl (by omega) (hx 2)
  refine yTy.sR ?_ (List.mem_of_getElem? (i := 41) rfl) (by omega) (by omega) rfl (by omega) ⟨by decide, by decide⟩
  refine yTy.sR ?_ (List.mem_of_getElem? (i := 41) rfl) (by omega) (by omega) rfl (by omega) (hx 4)
  refine yTy.sM ?_ ⟨by omega, by omega⟩ (Or.inl (by rw [yset_nc (by omega), yset_nc (by omega), yset_nc (by omega)]; omega))
  refine yTy.sR ?_ (List.mem_of_getElem? (i := 41) rfl) (by omega) (by omega) rfl (by omega) (hx 2)
  refine yTy.sR ?_ (List.mem_of_getElem? (i := 41) rfl) (by omega) (by omega) rfl (by omega) (hx 1)
  exact yTy.sR h (List.mem_of_getElem? (i := 41) rfl) (by omega) (by omega) rfl (by omega) (hx 0)
def yP_HRO : yPT := fun as g K => ∃ (p s : Int), as = [(3, 9), (1, p), (1, s)] ∧ (0 ≤ p ∧ p < 6) ∧ (∀ (r : Int), ((r = 1 ∧ g 40 (Int.toNat p) = s) ∨ (r = 0 ∧ g 40 (Int.toNat p) ≠ s)) → K [(1, r)] g)
def yC_HRO : yC := (72, (1, 40), yP_HRO)
set_option maxRecDepth 8000 in
theorem yv_HRO {K : List yV → yM → Prop} {Y : yNx} {g : yM} {p s : Int} (hY : yCl zpD72 (zpZ, zpRS, zpP6, zpMT, [], (1, 40), 2) K Y) (hr_p : -2147483648 ≤ p ∧ p ≤ 2147483647) (hr_s : -2147483648 ≤ s ∧ s ≤ 2147483647) (hp0 : 0 ≤ p ∧ p < 6) (hK : ∀ (r : Int), ((r = 1 ∧ g 40 (Int.toNat p) = s) ∨ (r = 0 ∧ g 40 (Int.toNat p) ≠ s)) → K [(1, r)] g) : Y 0 [(3, 9), (1, p), (1, s)] [] g := by
  refine yrun_ok (sp := fun pc => false) hY 9 0 _ [] g ?_
  show (((0 : Int) ≤ p ∧ p < ((6 : Nat) : Int)) ∧ (((g 40 (Int.toNat p)) ≠ s → (((0 : Int) ≤ 0 ∧ 0 ≤ (1 : Int)) ∧ (K [(1, 0)] g))) ∧ (¬ ((g 40 (Int.toNat p)) ≠ s) → (((0 : Int) ≤ 1 ∧ 1 ≤ (1 : Int)) ∧ (K [(1, 1)] g)))))
  refine ⟨(by omega), ?_⟩
  refine ⟨fun h1 => ?_, fun h1 => ?_⟩
  · refine ⟨(by omega), ?_⟩
    exact hK _ (by first | omega | exact fun _ => rfl | exact fun h => absurd h (by omega) | exact rfl | exact fun _ _ => rfl | exact fun h _ => absurd h (by omega) | exact fun _ h => absurd h (by omega))
  · refine ⟨(by omega), ?_⟩
    exact hK _ (by first | omega | exact fun _ => rfl | exact fun h => absurd h (by omega) | exact rfl | exact fun _ _ => rfl | exact fun h _ => absurd h (by omega) | exact fun _ h => absurd h (by omega))
theorem yM_HRO {l : Launch} {Ts : List Cond} {cl : List vw_C} {RO : zRO} (H : zHyp Ts cl RO) : yMet l Ts cl zpZ RO zpMT yC_HRO := ymet_of2 H.1 H.2.1 zpDj H.2.2.1 yRb H.p6 ymets_nil (zrc2 rfl) (plainFor_of_name zpy6) zpDk72 (fun as g K Y h hA hY => by
  obtain ⟨p, s, rfl, hp0, hK⟩ := h
  exact yv_HRO hY (yAr1 hA (by simp)) (yAr1 hA (by simp)) hp0 hK)
def yP_RF5 : yPT := fun as g K => ∃ (p t c : Int), as = [(3, 9), (1, p), (2, t), (141, c)] ∧ (0 ≤ p ∧ p < 6) ∧ (0 ≤ c ∧ c < 40) ∧ (g 1 1 ≤ c) ∧ (yTy zpZ g) ∧ (∀ (r : Int) (g' : yM), ((r = 1 ∧ yfV g p t ∧ g' = yf5 g (50 + Int.toNat c) (yfx g p t)) ∨ (r = 0 ∧ ¬ yfV g p t ∧ (g' = g ∨ g' = yf5 g (50 + Int.toNat c) (yfx g p t)))) → K [(1, r)] g')
def yC_RF5 : yC := (74, (2, 61), yP_RF5)
set_option maxRecDepth 8000 in
theorem yt_RF5 {K : List yV → yM → Prop} {Y : yNx} {m : yM} {p t c : Int} {x : Nat → Int} (hY : yCl zpD74 (zpZ, zpRS, zpP6, zpMT, [yC_W], (2, 61), 2) K Y) (hc : 0 ≤ c ∧ c < 40) (h1 : m (50 + Int.toNat c) 1 = x 0) (h2 : m (50 + Int.toNat c) 2 = x 1) (h3 : m (50 + Int.toNat c) 3 = x 2) (h4 : m (50 + Int.toNat c) 4 = x 3) (h5 : m (50 + Int.toNat c) 5 = x 4) (hK : ∀ r : Int, (r = 1 ∧ yfok x) ∨ (r = 0 ∧ ¬ yfok x) → K [(1, r)] m) : Y 113 [(3, 9), (1, p), (2, t), (0, 0), (141, c), (140, p), (1, t)] [] m := by
  refine yrun_ok (sp := fun pc => false) hY 30 113 _ [] _ ?_
  show (((m (50 + Int.toNat c) 1) < 0 → (((0 : Int) ≤ 0 ∧ 0 ≤ (1 : Int)) ∧ (K [(1, 0)] m))) ∧ (¬ ((m (50 + Int.toNat c) 1) < 0) → (((m (50 + Int.toNat c) 2) ≤ (m (50 + Int.toNat c) 1) → (((0 : Int) ≤ 0 ∧ 0 ≤ (1 : Int)) ∧ (K [(1, 0)] m))) ∧ (¬ ((m (50 + Int.toNat c) 2) ≤ (m (50 + Int.toNat c) 1)) → ((720 ≤ (m (50 + Int.toNat c) 2) → (((0 : Int) ≤ 0 ∧ 0 ≤ (1 : Int)) ∧ (K [(1, 0)] m))) ∧ (¬ (720 ≤ (m (50 + Int.toNat c) 2)) → (∃ (v4 b5 : Int), [(1, (m (50 + Int.toNat c) 3)), (1, 4)] = [(1, v4), (1, b5)] ∧ (∀ (r6 : Int), ((r6 = 1 ∧ 0 ≤ v4 ∧ v4 < b5) ∨ (r6 = 0 ∧ (v4 < 0 ∨ b5 ≤ v4))) → ((r6 = 0 → (((0 : Int) ≤ 0 ∧ 0 ≤ (1 : Int)) ∧ (K [(1, 0)] m))) ∧ (¬ (r6 = 0) → (∃ (v9 b10 : Int), [(1, (m (50 + Int.toNat c) 4)), (1, 6)] = [(1, v9), (1, b10)] ∧ (∀ (r11 : Int), ((r11 = 1 ∧ 0 ≤ v9 ∧ v9 < b10) ∨ (r11 = 0 ∧ (v9 < 0 ∨ b10 ≤ v9))) → ((r11 = 0 → (((0 : Int) ≤ 0 ∧ 0 ≤ (1 : Int)) ∧ (K [(1, 0)] m))) ∧ (¬ (r11 = 0) → (∃ (v14 b15 : Int), [(1, (m (50 + Int.toNat c) 5)), (1, 8)] = [(1, v14), (1, b15)] ∧ (∀ (r16 : Int), ((r16 = 1 ∧ 0 ≤ v14 ∧ v14 < b15) ∨ (r16 = 0 ∧ (v14 < 0 ∨ b15 ≤ v14))) → ((r16 = 0 → (((0 : Int) ≤ 0 ∧ 0 ≤ (1 : Int)) ∧ (K [(1, 0)] m))) ∧ (¬ (r16 = 0) → (((0 : Int) ≤ 1 ∧ 1 ≤ (1 : Int)) ∧ (K [(1, 1)] m))))))))))))))))))))
  refine ⟨fun h1 => ?_, fun h1 => ?_⟩
  · refine ⟨(by omega), ?_⟩
    exact hK _ (by unfold yfok; omega)
  · refine ⟨fun h2 => ?_, fun h2 => ?_⟩
    · refine ⟨(by omega), ?_⟩
      exact hK _ (by unfold yfok; omega)
    · refine ⟨fun h3 => ?_, fun h3 => ?_⟩
      · refine ⟨(by omega), ?_⟩
        exact hK _ (by unfold yfok; omega)
      · refine ⟨_, _, rfl, ?_⟩
        intro r6 p70
        refine ⟨fun h8 => ?_, fun h8 => ?_⟩
        · refine ⟨(by omega), ?_⟩
          exact hK _ (by unfold yfok; omega)
        · refine ⟨_, _, rfl, ?_⟩
          intro r11 p120
          refine ⟨fun h13 => ?_, fun h13 => ?_⟩
          · refine ⟨(by omega), ?_⟩
            exact hK _ (by unfold yfok; omega)
          · refine ⟨_, _, rfl, ?_⟩
            intro r16 p170
            refine ⟨fun h18 => ?_, fun h18 => ?_⟩
            · refine ⟨(by omega), ?_⟩
              exact hK _ (by unfold yfok; omega)
            · refine ⟨(by omega), ?_⟩
              exact hK _ (by unfold yfok; omega)
set_option maxRecDepth 8000 in
theorem yv_RF5 {K : List yV → yM → Prop} {Y : yNx} {g : yM} {p t c : Int} (hY : yCl zpD74 (zpZ, zpRS, zpP6, zpMT, [yC_W], (2, 61), 2) K Y) (hr_p : -2147483648 ≤ p ∧ p ≤ 2147483647) (hr_t : -9223372036854775808 ≤ t ∧ t ≤ 9223372036854775807) (hp0 : 0 ≤ p ∧ p < 6) (hp1 : 0 ≤ c ∧ c < 40) (hp2 : g 1 1 ≤ c) (hp3 : yTy zpZ g) (hK : ∀ (r : Int) (g' : yM), ((r = 1 ∧ yfV g p t ∧ g' = yf5 g (50 + Int.toNat c) (yfx g p t)) ∨ (r = 0 ∧ ¬ yfV g p t ∧ (g' = g ∨ g' = yf5 g (50 + Int.toNat c) (yfx g p t)))) → K [(1, r)] g') : Y 0 [(3, 9), (1, p), (2, t), (0, 0), (141, c), (0, 0), (0, 0)] [] g := by
  refine yrun_ok (sp := fun pc => Nat.beq pc 113) hY 68 0 _ [] g ?_
  show (((ycmp t 0) < 0 → (((0 : Int) ≤ 0 ∧ 0 ≤ (1 : Int)) ∧ (K [(1, 0)] g))) ∧ (¬ ((ycmp t 0) < 0) → (((0 : Int) ≤ p ∧ p < ((6 : Nat) : Int)) ∧ (((ycmp t (yw ((g 42 (Int.toNat p)) - 5))) ≤ 0 → (((0 : Int) ≤ p ∧ p < ((6 : Nat) : Int)) ∧ (((0 : Int) ≤ (yw t) ∧ (yw t) < ((60 : Nat) : Int)) ∧ (((0 : Int) ≤ (yw ((yw t) + 1)) ∧ (yw ((yw t) + 1)) < ((60 : Nat) : Int)) ∧ (((0 : Int) ≤ (yw ((yw t) + 2)) ∧ (yw ((yw t) + 2)) < ((60 : Nat) : Int)) ∧ (((0 : Int) ≤ (yw ((yw t) + 3)) ∧ (yw ((yw t) + 3)) < ((60 : Nat) : Int)) ∧ (((0 : Int) ≤ (yw ((yw t) + 4)) ∧ (yw ((yw t) + 4)) < ((60 : Nat) : Int)) ∧ (Y 113 [(3, 9), (1, p), (2, t), (0, 0), (141, c), (140, p), (1, (yw t))] [] (yset (yset (yset (yset (yset (yset (yset g (50 + Int.toNat c) 1 (yw (g (44 + Int.toNat p) (Int.toNat (yw t))))) (50 + Int.toNat c) 2 (yw ((yset g (50 + Int.toNat c) 1 (yw (g (44 + Int.toNat p) (Int.toNat (yw t))))) (44 + Int.toNat p) (Int.toNat (yw ((yw t) + 1)))))) (50 + Int.toNat c) 3 (yw ((yset (yset g (50 + Int.toNat c) 1 (yw (g (44 + Int.toNat p) (Int.toNat (yw t))))) (50 + Int.toNat c) 2 (yw ((yset g (50 + Int.toNat c) 1 (yw (g (44 + Int.toNat p) (Int.toNat (yw t))))) (44 + Int.toNat p) (Int.toNat (yw ((yw t) + 1)))))) (44 + Int.toNat p) (Int.toNat (yw ((yw t) + 2)))))) (50 + Int.toNat c) 4 (yw ((yset (yset (yset g (50 + Int.toNat c) 1 (yw (g (44 + Int.toNat p) (Int.toNat (yw t))))) (50 + Int.toNat c) 2 (yw ((yset g (50 + Int.toNat c) 1 (yw (g (44 + Int.toNat p) (Int.toNat (yw t))))) (44 + Int.toNat p) (Int.toNat (yw ((yw t) + 1)))))) (50 + Int.toNat c) 3 (yw ((yset (yset g (50 + Int.toNat c) 1 (yw (g (44 + Int.toNat p) (Int.toNat (yw t))))) (50 + Int.toNat c) 2 (yw ((yset g (50 + Int.toNat c) 1 (yw (g (44 + Int.toNat p) (Int.toNat (yw t))))) (44 + Int.toNat p) (Int.toNat (yw ((yw t) + 1)))))) (44 + Int.toNat p) (Int.toNat (yw ((yw t) + 2)))))) (44 + Int.toNat p) (Int.toNat (yw ((yw t) + 3)))))) (50 + Int.toNat c) 5 (yw ((yset (yset (yset (yset g (50 + Int.toNat c) 1 (yw (g (44 + Int.toNat p) (Int.toNat (yw t))))) (50 + Int.toNat c) 2 (yw ((yset g (50 + Int.toNat c) 1 (yw (g (44 + Int.toNat p) (Int.toNat (yw t))))) (44 + Int.toNat p) (Int.toNat (yw ((yw t) + 1)))))) (50 + Int.toNat c) 3 (yw ((yset (yset g (50 + Int.toNat c) 1 (yw (g (44 + Int.toNat p) (Int.toNat (yw t))))) (50 + Int.toNat c) 2 (yw ((yset g (50 + Int.toNat c) 1 (yw (g (44 + Int.toNat p) (Int.toNat (yw t))))) (44 + Int.toNat p) (Int.toNat (yw ((yw t) + 1)))))) (44 + Int.toNat p) (Int.toNat (yw ((yw t) + 2)))))) (50 + Int.toNat c) 4 (yw ((yset (yset (yset g (50 + Int.toNat c) 1 (yw (g (44 + Int.toNat p) (Int.toNat (yw t))))) (50 + Int.toNat c) 2 (yw ((yset g (50 + Int.toNat c) 1 (yw (g (44 + Int.toNat p) (Int.toNat (yw t))))) (44 + Int.toNat p) (Int.toNat (yw ((yw t) + 1)))))) (50 + Int.toNat c) 3 (yw ((yset (yset g (50 + Int.toNat c) 1 (yw (g (44 + Int.toNat p) (Int.toNat (yw t))))) (50 + Int.toNat c) 2 (yw ((yset g (50 + Int.toNat c) 1 (yw (g (44 + Int.toNat p) (Int.toNat (yw t))))) (44 + Int.toNat p) (Int.toNat (yw ((yw t) + 1)))))) (44 + Int.toNat p) (Int.toNat (yw ((yw t) + 2)))))) (44 + Int.toNat p) (Int.toNat (yw ((yw t) + 3)))))) (44 + Int.toNat p) (Int.toNat (yw ((yw t) + 4)))))) (50 + Int.toNat c) 6 (-1)) (50 + Int.toNat c) 7 ((yset (yset (yset (yset (yset (yset g (50 + Int.toNat c) 1 (yw (g (44 + Int.toNat p) (Int.toNat (yw t))))) (50 + Int.toNat c) 2 (yw ((yset g (50 + Int.toNat c) 1 (yw (g (44 + Int.toNat p) (Int.toNat (yw t))))) (44 + Int.toNat p) (Int.toNat (yw ((yw t) + 1)))))) (50 + Int.toNat c) 3 (yw ((yset (yset g (50 + Int.toNat c) 1 (yw (g (44 + Int.toNat p) (Int.toNat (yw t))))) (50 + Int.toNat c) 2 (yw ((yset g (50 + Int.toNat c) 1 (yw (g (44 + Int.toNat p) (Int.toNat (yw t))))) (44 + Int.toNat p) (Int.toNat (yw ((yw t) + 1)))))) (44 + Int.toNat p) (Int.toNat (yw ((yw t) + 2)))))) (50 + Int.toNat c) 4 (yw ((yset (yset (yset g (50 + Int.toNat c) 1 (yw (g (44 + Int.toNat p) (Int.toNat (yw t))))) (50 + Int.toNat c) 2 (yw ((yset g (50 + Int.toNat c) 1 (yw (g (44 + Int.toNat p) (Int.toNat (yw t))))) (44 + Int.toNat p) (Int.toNat (yw ((yw t) + 1)))))) (50 + Int.toNat c) 3 (yw ((yset (yset g (50 + Int.toNat c) 1 (yw (g (44 + Int.toNat p) (Int.toNat (yw t))))) (50 + Int.toNat c) 2 (yw ((yset g (50 + Int.toNat c) 1 (yw (g (44 + Int.toNat p) (Int.toNat (yw t))))) (44 + Int.toNat p) (Int.toNat (yw ((yw t) + 1)))))) (44 + Int.toNat p) (Int.toNat (yw ((yw t) + 2)))))) (44 + Int.toNat p) (Int.toNat (yw ((yw t) + 3)))))) (50 + Int.toNat c) 5 (yw ((yset (yset (yset (yset g (50 + Int.toNat c) 1 (yw (g (44 + Int.toNat p) (Int.toNat (yw t))))) (50 + Int.toNat c) 2 (yw ((yset g (50 + Int.toNat c) 1 (yw (g (44 + Int.toNat p) (Int.toNat (yw t))))) (44 + Int.toNat p) (Int.toNat (yw ((yw t) + 1)))))) (50 + Int.toNat c) 3 (yw ((yset (yset g (50 + Int.toNat c) 1 (yw (g (44 + Int.toNat p) (Int.toNat (yw t))))) (50 + Int.toNat c) 2 (yw ((yset g (50 + Int.toNat c) 1 (yw (g (44 + Int.toNat p) (Int.toNat (yw t))))) (44 + Int.toNat p) (Int.toNat (yw ((yw t) + 1)))))) (44 + Int.toNat p) (Int.toNat (yw ((yw t) + 2)))))) (50 + Int.toNat c) 4 (yw ((yset (yset (yset g (50 + Int.toNat c) 1 (yw (g (44 + Int.toNat p) (Int.toNat (yw t))))) (50 + Int.toNat c) 2 (yw ((yset g (50 + Int.toNat c) 1 (yw (g (44 + Int.toNat p) (Int.toNat (yw t))))) (44 + Int.toNat p) (Int.toNat (yw ((yw t) + 1)))))) (50 + Int.toNat c) 3 (yw ((yset (yset g (50 + Int.toNat c) 1 (yw (g (44 + Int.toNat p) (Int.toNat (yw t))))) (50 + Int.toNat c) 2 (yw ((yset g (50 + Int.toNat c) 1 (yw (g (44 + Int.toNat p) (Int.toNat (yw t))))) (44 + Int.toNat p) (Int.toNat (yw ((yw t) + 1)))))) (44 + Int.toNat p) (Int.toNat (yw ((yw t) + 2)))))) (44 + Int.toNat p) (Int.toNat (yw ((yw t) + 3)))))) (44 + Int.toNat p) (Int.toNat (yw ((yw t) + 4)))))) (50 + Int.toNat c) 6 (-1)) (50 + Int.toNat c) 3)))))))))) ∧ (¬ ((ycmp t (yw ((g 42 (Int.toNat p)) - 5))) ≤ 0) → (((0 : Int) ≤ 0 ∧ 0 ≤ (1 : Int)) ∧ (K [(1, 0)] g)))))))
  refine ⟨fun h1 => ?_, fun h1 => ?_⟩
  · refine ⟨(by omega), ?_⟩
    have ln := hp3.fA (j := Int.toNat p) (List.mem_of_getElem? (i := 38) rfl) (by omega)
    have := ycmp_s t 0
    exact hK _ _ (Or.inr ⟨rfl, fun z => by unfold yfV at z; omega, Or.inl rfl⟩)
  · refine ⟨(by omega), ?_⟩
    refine ⟨fun h2 => ?_, fun h2 => ?_⟩
    · refine ⟨(by omega), ?_⟩
      refine ⟨(by have ln := hp3.fA (j := Int.toNat p) (List.mem_of_getElem? (i := 38) rfl) (by omega); have := ycmp_s t 0; have := yw_s ((g 42 (Int.toNat p)) - 5); have := ycmp_s t (yw ((g 42 (Int.toNat p)) - 5)); have w0 : yw t = t := yw_s t (by omega) (by omega); have w1 : yw (t + 1) = t + 1 := yw_s _ (by omega) (by omega); have w2 : yw (t + 2) = t + 2 := yw_s _ (by omega) (by omega); have w3 : yw (t + 3) = t + 3 := yw_s _ (by omega) (by omega); have w4 : yw (t + 4) = t + 4 := yw_s _ (by omega) (by omega); simp only [w0, w1, w2, w3, w4]; omega), ?_⟩
      refine ⟨(by have ln := hp3.fA (j := Int.toNat p) (List.mem_of_getElem? (i := 38) rfl) (by omega); have := ycmp_s t 0; have := yw_s ((g 42 (Int.toNat p)) - 5); have := ycmp_s t (yw ((g 42 (Int.toNat p)) - 5)); have w0 : yw t = t := yw_s t (by omega) (by omega); have w1 : yw (t + 1) = t + 1 := yw_s _ (by omega) (by omega); have w2 : yw (t + 2) = t + 2 := yw_s _ (by omega) (by omega); have w3 : yw (t + 3) = t + 3 := yw_s _ (by omega) (by omega); have w4 : yw (t + 4) = t + 4 := yw_s _ (by omega) (by omega); simp only [w0, w1, w2, w3, w4]; omega), ?_⟩
      refine ⟨(by have ln := hp3.fA (j := Int.toNat p) (List.mem_of_getElem? (i := 38) rfl) (by omega); have := ycmp_s t 0; have := yw_s ((g 42 (Int.toNat p)) - 5); have := ycmp_s t (yw ((g 42 (Int.toNat p)) - 5)); have w0 : yw t = t := yw_s t (by omega) (by omega); have w1 : yw (t + 1) = t + 1 := yw_s _ (by omega) (by omega); have w2 : yw (t + 2) = t + 2 := yw_s _ (by omega) (by omega); have w3 : yw (t + 3) = t + 3 := yw_s _ (by omega) (by omega); have w4 : yw (t + 4) = t + 4 := yw_s _ (by omega) (by omega); simp only [w0, w1, w2, w3, w4]; omega), ?_⟩
      refine ⟨(by have ln := hp3.fA (j := Int.toNat p) (List.mem_of_getElem? (i := 38) rfl) (by omega); have := ycmp_s t 0; have := yw_s ((g 42 (Int.toNat p)) - 5); have := ycmp_s t (yw ((g 42 (Int.toNat p)) - 5)); have w0 : yw t = t := yw_s t (by omega) (by omega); have w1 : yw (t + 1) = t + 1 := yw_s _ (by omega) (by omega); have w2 : yw (t + 2) = t + 2 := yw_s _ (by omega) (by omega); have w3 : yw (t + 3) = t + 3 := yw_s _ (by omega) (by omega); have w4 : yw (t + 4) = t + 4 := yw_s _ (by omega) (by omega); simp only [w0, w1, w2, w3, w4]; omega), ?_⟩
      refine ⟨(by have ln := hp3.fA (j := Int.toNat p) (List.mem_of_getElem? (i := 38) rfl) (by omega); have := ycmp_s t 0; have := yw_s ((g 42 (Int.toNat p)) - 5); have := ycmp_s t (yw ((g 42 (Int.toNat p)) - 5)); have w0 : yw t = t := yw_s t (by omega) (by omega); have w1 : yw (t + 1) = t + 1 := yw_s _ (by omega) (by omega); have w2 : yw (t + 2) = t + 2 := yw_s _ (by omega) (by omega); have w3 : yw (t + 3) = t + 3 := yw_s _ (by omega) (by omega); have w4 : yw (t + 4) = t + 4 := yw_s _ (by omega) (by omega); simp only [w0, w1, w2, w3, w4]; omega), ?_⟩
      have ln := hp3.fA (j := Int.toNat p) (List.mem_of_getElem? (i := 38) rfl) (by omega)
      have := ycmp_s t 0
      have := yw_s ((g 42 (Int.toNat p)) - 5)
      have := ycmp_s t (yw ((g 42 (Int.toNat p)) - 5))
      have w0 : yw t = t := yw_s t (by omega) (by omega)
      have w1 : yw (t + 1) = t + 1 := yw_s _ (by omega) (by omega)
      have w2 : yw (t + 2) = t + 2 := yw_s _ (by omega) (by omega)
      have w3 : yw (t + 3) = t + 3 := yw_s _ (by omega) (by omega)
      have w4 : yw (t + 4) = t + 4 := yw_s _ (by omega) (by omega)
      have nc : ∀ (M : yM) (j : Nat) (v : Int) (b : Nat), yset M (50 + Int.toNat c) j v (44 + Int.toNat p) b = M (44 + Int.toNat p) b := fun M j v b => yset_nc (by omega)
      simp only [nc, w0, w1, w2, w3, w4, yset_nj, yset_eq, ne_eq, Nat.reduceEqDiff, not_false_eq_true]
      have ex : ∀ j : Nat, yw (g (44 + Int.toNat p) (Int.toNat (t + j))) = yfx g p t j := fun j => rfl
      have v := yf5_v g (50 + Int.toNat c) (yfx g p t)
      have e0 : yw (g (44 + Int.toNat p) (Int.toNat t)) = yfx g p t 0 := by unfold yfx; congr 2; omega
      have e1 : yw (g (44 + Int.toNat p) (Int.toNat (t + 1))) = yfx g p t 1 := rfl
      have e2 : yw (g (44 + Int.toNat p) (Int.toNat (t + 2))) = yfx g p t 2 := rfl
      have e3 : yw (g (44 + Int.toNat p) (Int.toNat (t + 3))) = yfx g p t 3 := rfl
      have e4 : yw (g (44 + Int.toNat p) (Int.toNat (t + 4))) = yfx g p t 4 := rfl
      rw [e0, e1, e2, e3, e4]
      have h9 := yt_RF5 (t := t) (p := p) hY hp1 v.1 v.2.1 v.2.2.1 v.2.2.2.1 v.2.2.2.2.1 (fun r hr => hK r _ (by
        rcases hr with ⟨a, b⟩ | ⟨a, b⟩
        · exact Or.inl ⟨a, ⟨by omega, by omega, b⟩, rfl⟩
        · exact Or.inr ⟨a, fun z => b z.2.2, Or.inr rfl⟩))
      exact h9
    · refine ⟨(by omega), ?_⟩
      have ln := hp3.fA (j := Int.toNat p) (List.mem_of_getElem? (i := 38) rfl) (by omega)
      have := ycmp_s t 0
      have := yw_s ((g 42 (Int.toNat p)) - 5)
      have := ycmp_s t (yw ((g 42 (Int.toNat p)) - 5))
      exact hK _ _ (Or.inr ⟨rfl, fun z => by unfold yfV at z; omega, Or.inl rfl⟩)
theorem yM_RF5 {l : Launch} {Ts : List Cond} {cl : List vw_C} {RO : zRO} (H : zHyp Ts cl RO) : yMet l Ts cl zpZ RO zpMT yC_RF5 := ymet_of2 H.1 H.2.1 zpDj H.2.2.1 yRb H.p6 (ymets_cons (yM_W H) ymets_nil) (zrc2 rfl) (plainFor_of_name zpy6) zpDk74 (fun as g K Y h hA hY => by
  obtain ⟨p, t, c, rfl, hp0, hp1, hp2, hp3, hK⟩ := h
  exact yv_RF5 hY (yAr1 hA (by simp)) (yAr2 hA (by simp)) hp0 hp1 hp2 hp3 hK)
/-- so many have come out of a row: the class -/
def yCr (g : yM) (p i : Int) (n : Nat) (m : yM) : Prop := yTy zpZ m ∧ m 1 1 = g 1 1 + n ∧ (∀ j : Nat, j < n → yfV g p (i + 5 * j) ∧ m (50 + Int.toNat (g 1 1) + j) 0 = g 1 8 ∧ (m (50 + Int.toNat (g 1 1) + j) 1 = yfx g p (i + 5 * j) 0 ∧ m (50 + Int.toNat (g 1 1) + j) 2 = yfx g p (i + 5 * j) 1 ∧ m (50 + Int.toNat (g 1 1) + j) 3 = yfx g p (i + 5 * j) 2 ∧ m (50 + Int.toNat (g 1 1) + j) 4 = yfx g p (i + 5 * j) 3 ∧ m (50 + Int.toNat (g 1 1) + j) 5 = yfx g p (i + 5 * j) 4 ∧ m (50 + Int.toNat (g 1 1) + j) 6 = -1 ∧ m (50 + Int.toNat (g 1 1) + j) 7 = yfx g p (i + 5 * j) 2) ∧ m (50 + Int.toNat (g 1 1) + j) 8 = -1) ∧ (∀ a b : Nat, ¬ (50 + Int.toNat (g 1 1) ≤ a ∧ a ≤ 89) → ¬ (a = 1 ∧ b = 1) → ¬ ((50 ≤ a ∧ a ≤ 89) ∧ (9 ≤ b ∧ b ≤ 11)) → m a b = g a b) ∧ (yStl g → yStl m)
theorem yCr.x {g m : yM} {p i : Int} {n : Nat} (h : yCr g p i n m) (hp : 0 ≤ p ∧ p < 6) (t : Int) : yfV m p t = yfV g p t ∧ yfx m p t = yfx g p t := by
  have e : yfx m p t = yfx g p t := by
    funext j
    unfold yfx
    rw [h.2.2.2.1 (44 + Int.toNat p) _ (by omega) (by omega) (by omega)]
  refine ⟨?_, e⟩
  unfold yfV
  rw [e, h.2.2.2.1 42 _ (by omega) (by omega) (by omega)]
/-- scratch behind the last one does not count -/
theorem yCr.sc {g m : yM} {p i : Int} {n : Nat} {x : Nat → Int} (h : yCr g p i n m) (h0 : 0 ≤ g 1 1) (hs : g 1 1 + n < 40) (hx : ∀ j, -2147483648 ≤ x j ∧ x j ≤ 2147483647) : yCr g p i n (yf5 m (50 + Int.toNat (m 1 1)) x) := by
  obtain ⟨h1, h2, h3, h4, h5⟩ := h
  rw [h2]
  refine ⟨yf5_ty h1 ⟨by omega, by omega⟩ (by omega) hx, by rw [yf5_nc (by omega)]; exact h2, fun j hj => ?_, fun a b c1 c2 c3 => by rw [yf5_nc (by omega)]; exact h4 a b c1 c2 c3, fun hs2 => (h5 hs2).keep (by omega) (yf5_nc (by omega)) (yf5_nc (by omega)) (yf5_nc (by omega)) (fun a b _ _ => yf5_nc (by omega)) (fun i b _ _ => yf5_nc (by omega))⟩
  have e : ∀ b : Nat, yf5 m (50 + Int.toNat (g 1 1 + n)) x (50 + Int.toNat (g 1 1) + j) b = m (50 + Int.toNat (g 1 1) + j) b := fun b => yf5_nc (by omega)
  simp only [e]
  exact h3 j hj
/-- one more came -/
theorem yCr.one {g m m2 : yM} {p i : Int} {n : Nat} (h : yCr g p i n m) (hp : 0 ≤ p ∧ p < 6) (h0 : 0 ≤ g 1 1) (hs : g 1 1 + n < 40) (hv : yfV g p (i + 5 * n)) (ht : yTy zpZ m2) (hw : yWz (yadm (yf5 m (50 + Int.toNat (m 1 1)) (yfx g p (i + 5 * n)))) m2) : yCr g p i (n + 1) m2 := by
  have hz := h.sc h0 hs (x := yfx g p (i + 5 * n)) (fun j => ywr _)
  have v := yf5_v m (50 + Int.toNat (m 1 1)) (yfx g p (i + 5 * n))
  generalize hM : yf5 m (50 + Int.toNat (m 1 1)) (yfx g p (i + 5 * n)) = M at hz v hw
  obtain ⟨h1, h2, h3, h4, -⟩ := hz
  have e1 : Int.toNat (m 1 1) = Int.toNat (M 1 1) := by
    rw [← hM, yf5_nc (by omega)]
  rw [e1] at v
  have a0 := yadm_0 M
  have a1 := yadm_11 M
  have w : ∀ a b : Nat, ¬ ((50 ≤ a ∧ a ≤ 89) ∧ (9 ≤ b ∧ b ≤ 11)) → m2 a b = yadm M a b := hw.1
  refine ⟨ht, by rw [w 1 1 (by omega), a1, h2]; omega, fun j hj => ?_, fun a b c1 c2 c3 => ?_, fun _ => hw.2⟩
  · by_cases e : j = n
    · subst e
      have ea : 50 + Int.toNat (g 1 1) + j = 50 + Int.toNat (M 1 1) := by omega
      refine ⟨hv, ?_, ?_, ?_⟩
      · rw [w _ 0 (by omega), ea, a0.1]
        exact h4 1 8 (by omega) (by omega) (by omega)
      · rw [w _ 1 (by omega), w _ 2 (by omega), w _ 3 (by omega), w _ 4 (by omega), w _ 5 (by omega), w _ 6 (by omega), w _ 7 (by omega), ea]
        have nc : ∀ b : Nat, b ≠ 0 → b ≠ 8 → yadm M (50 + Int.toNat (M 1 1)) b = M (50 + Int.toNat (M 1 1)) b := fun b b0 b8 => yadm_nc (by omega)
        rw [nc 1 (by decide) (by decide), nc 2 (by decide) (by decide), nc 3 (by decide) (by decide), nc 4 (by decide) (by decide), nc 5 (by decide) (by decide), nc 6 (by decide) (by decide), nc 7 (by decide) (by decide)]
        exact v
      · rw [w _ 8 (by omega), ea]
        exact a0.2
    · have q := h3 j (by omega)
      have nc : ∀ b : Nat, ¬ (9 ≤ b ∧ b ≤ 11) → m2 (50 + Int.toNat (g 1 1) + j) b = M (50 + Int.toNat (g 1 1) + j) b := fun b hb => by
        rw [w _ b (by omega)]
        exact yadm_nc (by omega)
      rw [nc 0 (by omega), nc 1 (by omega), nc 2 (by omega), nc 3 (by omega), nc 4 (by omega), nc 5 (by omega), nc 6 (by omega), nc 7 (by omega), nc 8 (by omega)]
      exact q
  · rw [w a b c3, yadm_nc (by omega)]
    exact h4 a b c1 c2 c3
def yP_CCS : yPT := fun as g K => ∃ (p i n : Int), as = [(3, 0), (1, p), (1, i), (1, n)] ∧ (yTy zpZ g) ∧ (∀ (r : Int) (g' : yM), (¬ (0 ≤ p ∧ p < 6 ∧ 1 ≤ n ∧ n ≤ 12) → r = -1 ∧ g' = g) → ((0 ≤ p ∧ p < 6 ∧ 1 ≤ n ∧ n ≤ 12) → g 40 (Int.toNat p) = -1 → r = 0 ∧ g' = g) → ((0 ≤ p ∧ p < 6 ∧ 1 ≤ n ∧ n ≤ 12) → g 40 (Int.toNat p) ≠ -1 → g 40 (Int.toNat p) ≠ 1 → r = -12 ∧ g' = g) → ((0 ≤ p ∧ p < 6 ∧ 1 ≤ n ∧ n ≤ 12) → g 40 (Int.toNat p) = 1 → ∃ c : Nat, r = (c : Int) ∧ (c : Int) ≤ n ∧ g 1 1 + c ≤ 40 ∧ ((c : Int) = n ∨ g 1 1 + c = 40 ∨ ¬ yfV g p (i + 5 * c)) ∧ yCr g p i c g') → K [(1, r)] g')
def yC_CCS : yC := (8, (5, 130), yP_CCS)
set_option maxRecDepth 8000 in
theorem yl_CCS {K : List yV → yM → Prop} {Y : yNx} {g : yM} {p i n : Int} (hY : yCl zpD8 (zpZ, zpRS, zpP0, zpMT, [yC_W, yC_HN, yC_HRO, yC_RF5, yC_ADM], (5, 130), 1) K Y) (hT : yTy zpZ g) (hi : -2147483648 ≤ i ∧ i ≤ 2147483647) (ho : (0 ≤ p ∧ p < 6 ∧ 1 ≤ n ∧ n ≤ 12)) (hK : ∀ (r : Int) (g' : yM), (∃ c : Nat, r = (c : Int) ∧ (c : Int) ≤ n ∧ g 1 1 + c ≤ 40 ∧ ((c : Int) = n ∨ g 1 1 + c = 40 ∨ ¬ yfV g p (i + 5 * c)) ∧ yCr g p i c g') → K [(1, r)] g') : ∀ (d c : Nat), (c : Int) + d = n → ∀ m : yM, yCr g p i c m → g 1 1 + c ≤ 40 → Y 57 [(3, 0), (1, p), (1, i), (1, n), (1, (c : Int)), (2, (i + 5 * (c : Int))), (0, 0)] [] m := by
  intro d
  induction d with
  | zero =>
    intro c hd m hm h40
    refine yrun_ok (sp := fun pc => Nat.beq pc 57) hY 31 57 _ [] m ?_
    show ((n ≤ (c : Int) → (K [(1, (c : Int))] m)) ∧ (¬ (n ≤ (c : Int)) → ((40 ≤ (m 1 1) → (K [(1, (c : Int))] m)) ∧ (¬ (40 ≤ (m 1 1)) → (((0 : Int) ≤ (m 1 1) ∧ (m 1 1) < ((40 : Nat) : Int)) ∧ (∃ (p3 t4 c5 : Int), [(3, 9), (1, p), (2, (i + 5 * (c : Int))), (141, (m 1 1))] = [(3, 9), (1, p3), (2, t4), (141, c5)] ∧ (0 ≤ p3 ∧ p3 < 6) ∧ (0 ≤ c5 ∧ c5 < 40) ∧ (m 1 1 ≤ c5) ∧ (yTy zpZ m) ∧ (∀ (r6 : Int) (g7 : yM), ((r6 = 1 ∧ yfV m p3 t4 ∧ g7 = yf5 m (50 + Int.toNat c5) (yfx m p3 t4)) ∨ (r6 = 0 ∧ ¬ yfV m p3 t4 ∧ (g7 = m ∨ g7 = yf5 m (50 + Int.toNat c5) (yfx m p3 t4)))) → ((r6 = 0 → (K [(1, (c : Int))] g7)) ∧ (¬ (r6 = 0) → ([(3, 1)] = [(3, 1)] ∧ (yTy zpZ g7) ∧ (0 ≤ g7 1 1 ∧ g7 1 1 < 40) ∧ (0 ≤ g7 (50 + Int.toNat (g7 1 1)) 4 ∧ g7 (50 + Int.toNat (g7 1 1)) 4 ≤ 5) ∧ (∀ (g10 : yM), (yTy zpZ g10) → (yWz (yadm g7) g10) → (Y 57 [(3, 0), (1, p), (1, i), (1, n), (1, (yw ((c : Int) + 1))), (2, (ywl ((i + 5 * (c : Int)) + 5))), (0, 0)] [] g10))))))))))))
    refine ⟨fun h1 => ?_, fun h1 => ?_⟩
    · exact hK _ _ ⟨c, rfl, by omega, h40, Or.inl (by omega), hm⟩
    · refine ⟨fun h2 => ?_, fun h2 => ?_⟩
      · omega
      · refine ⟨(by omega), ?_⟩
        refine ⟨_, _, _, rfl, (by omega), (by omega), (by omega), (by omega), ?_⟩
        intro r6 g7 p80
        refine ⟨fun h9 => ?_, fun h9 => ?_⟩
        · omega
        · refine ⟨rfl, (by omega), (by omega), (by omega), ?_⟩
          intro g10 p110 p111
          omega
  | succ d ih =>
    intro c hd m hm h40
    refine yrun_ok (sp := fun pc => Nat.beq pc 57) hY 31 57 _ [] m ?_
    show ((n ≤ (c : Int) → (K [(1, (c : Int))] m)) ∧ (¬ (n ≤ (c : Int)) → ((40 ≤ (m 1 1) → (K [(1, (c : Int))] m)) ∧ (¬ (40 ≤ (m 1 1)) → (((0 : Int) ≤ (m 1 1) ∧ (m 1 1) < ((40 : Nat) : Int)) ∧ (∃ (p3 t4 c5 : Int), [(3, 9), (1, p), (2, (i + 5 * (c : Int))), (141, (m 1 1))] = [(3, 9), (1, p3), (2, t4), (141, c5)] ∧ (0 ≤ p3 ∧ p3 < 6) ∧ (0 ≤ c5 ∧ c5 < 40) ∧ (m 1 1 ≤ c5) ∧ (yTy zpZ m) ∧ (∀ (r6 : Int) (g7 : yM), ((r6 = 1 ∧ yfV m p3 t4 ∧ g7 = yf5 m (50 + Int.toNat c5) (yfx m p3 t4)) ∨ (r6 = 0 ∧ ¬ yfV m p3 t4 ∧ (g7 = m ∨ g7 = yf5 m (50 + Int.toNat c5) (yfx m p3 t4)))) → ((r6 = 0 → (K [(1, (c : Int))] g7)) ∧ (¬ (r6 = 0) → ([(3, 1)] = [(3, 1)] ∧ (yTy zpZ g7) ∧ (0 ≤ g7 1 1 ∧ g7 1 1 < 40) ∧ (0 ≤ g7 (50 + Int.toNat (g7 1 1)) 4 ∧ g7 (50 + Int.toNat (g7 1 1)) 4 ≤ 5) ∧ (∀ (g10 : yM), (yTy zpZ g10) → (yWz (yadm g7) g10) → (Y 57 [(3, 0), (1, p), (1, i), (1, n), (1, (yw ((c : Int) + 1))), (2, (ywl ((i + 5 * (c : Int)) + 5))), (0, 0)] [] g10))))))))))))
    refine ⟨fun h1 => ?_, fun h1 => ?_⟩
    · omega
    · refine ⟨fun h2 => ?_, fun h2 => ?_⟩
      · have hz := hT.sz
        have h11 := hm.2.1
        have hx := hm.x ⟨ho.1, ho.2.1⟩ (i + 5 * (c : Int))
        exact hK _ _ ⟨c, rfl, by omega, h40, Or.inr (Or.inl (by omega)), hm⟩
      · refine ⟨(by have hz := hT.sz; have h11 := hm.2.1; have hx := hm.x ⟨ho.1, ho.2.1⟩ (i + 5 * (c : Int)); first | exact hm.1 | omega), ?_⟩
        refine ⟨_, _, _, rfl, (by have hz := hT.sz; have h11 := hm.2.1; have hx := hm.x ⟨ho.1, ho.2.1⟩ (i + 5 * (c : Int)); first | exact hm.1 | omega), (by have hz := hT.sz; have h11 := hm.2.1; have hx := hm.x ⟨ho.1, ho.2.1⟩ (i + 5 * (c : Int)); first | exact hm.1 | omega), (by have hz := hT.sz; have h11 := hm.2.1; have hx := hm.x ⟨ho.1, ho.2.1⟩ (i + 5 * (c : Int)); first | exact hm.1 | omega), (by have hz := hT.sz; have h11 := hm.2.1; have hx := hm.x ⟨ho.1, ho.2.1⟩ (i + 5 * (c : Int)); first | exact hm.1 | omega), ?_⟩
        intro r6 g7 p80
        refine ⟨fun h9 => ?_, fun h9 => ?_⟩
        · have hz := hT.sz
          have h11 := hm.2.1
          have hx := hm.x ⟨ho.1, ho.2.1⟩ (i + 5 * (c : Int))
          rcases p80 with ⟨q1, q2, q3⟩ | ⟨q1, q2, q3⟩
          · omega
          · rw [hx.1] at q2
            rcases q3 with q3 | q3
            · rw [q3]
              exact hK _ _ ⟨c, rfl, by omega, h40, Or.inr (Or.inr q2), hm⟩
            · rw [q3]
              exact hK _ _ ⟨c, rfl, by omega, h40, Or.inr (Or.inr q2), hm.sc hz.1 (by omega) (fun j => ywr _)⟩
        · refine ⟨rfl, (by
      have hz := hT.sz
      have h11 := hm.2.1
      have hx := hm.x ⟨ho.1, ho.2.1⟩ (i + 5 * (c : Int))
      rcases p80 with ⟨q1, q2, q3⟩ | ⟨q1, q2, q3⟩
      · rw [q3]
        exact yf5_ty hm.1 ⟨by omega, by omega⟩ (Int.le_refl _) (fun j => ywr _)
      · omega), (by
      have hz := hT.sz
      have h11 := hm.2.1
      have hx := hm.x ⟨ho.1, ho.2.1⟩ (i + 5 * (c : Int))
      rcases p80 with ⟨q1, q2, q3⟩ | ⟨q1, q2, q3⟩
      · rw [q3, show yf5 m (50 + Int.toNat (m 1 1)) (yfx m p (i + 5 * (c : Int))) 1 1 = m 1 1 from yf5_nc (by omega)]
        omega
      · omega), (by
      have hz := hT.sz
      have h11 := hm.2.1
      have hx := hm.x ⟨ho.1, ho.2.1⟩ (i + 5 * (c : Int))
      rcases p80 with ⟨q1, q2, q3⟩ | ⟨q1, q2, q3⟩
      · have q4 := q2
        unfold yfV yfok at q4
        have q5 := (yf5_v m (50 + Int.toNat (m 1 1)) (yfx m p (i + 5 * (c : Int)))).2.2.2.1
        rw [q3, show yf5 m (50 + Int.toNat (m 1 1)) (yfx m p (i + 5 * (c : Int))) 1 1 = m 1 1 from yf5_nc (by omega), q5]
        omega
      · omega), ?_⟩
          intro g10 p110 p111
          have hz := hT.sz
          have h11 := hm.2.1
          have hx := hm.x ⟨ho.1, ho.2.1⟩ (i + 5 * (c : Int))
          rcases p80 with ⟨q1, q2, q3⟩ | ⟨q1, q2, q3⟩
          · rw [q3, hx.2] at p111
            rw [hx.1] at q2
            have h9 := hm.one ⟨ho.1, ho.2.1⟩ hz.1 (by omega) q2 p110 p111
            have e := ih (c + 1) (by omega) _ h9 (by omega)
            have y1 : yw ((c : Int) + 1) = ((c + 1 : Nat) : Int) := by have := yw_s ((c : Int) + 1); omega
            have y2 : ywl (i + 5 * (c : Int) + 5) = i + 5 * ((c + 1 : Nat) : Int) := by have := ywl_s (i + 5 * (c : Int) + 5); omega
            rw [y1, y2]
            exact e
          · omega
set_option maxRecDepth 8000 in
theorem yv_CCS {K : List yV → yM → Prop} {Y : yNx} {g : yM} {p i n : Int} (hY : yCl zpD8 (zpZ, zpRS, zpP0, zpMT, [yC_W, yC_HN, yC_HRO, yC_RF5, yC_ADM], (5, 130), 1) K Y) (hr_p : -2147483648 ≤ p ∧ p ≤ 2147483647) (hr_i : -2147483648 ≤ i ∧ i ≤ 2147483647) (hr_n : -2147483648 ≤ n ∧ n ≤ 2147483647) (hp0 : yTy zpZ g) (hK : ∀ (r : Int) (g' : yM), (¬ (0 ≤ p ∧ p < 6 ∧ 1 ≤ n ∧ n ≤ 12) → r = -1 ∧ g' = g) → ((0 ≤ p ∧ p < 6 ∧ 1 ≤ n ∧ n ≤ 12) → g 40 (Int.toNat p) = -1 → r = 0 ∧ g' = g) → ((0 ≤ p ∧ p < 6 ∧ 1 ≤ n ∧ n ≤ 12) → g 40 (Int.toNat p) ≠ -1 → g 40 (Int.toNat p) ≠ 1 → r = -12 ∧ g' = g) → ((0 ≤ p ∧ p < 6 ∧ 1 ≤ n ∧ n ≤ 12) → g 40 (Int.toNat p) = 1 → ∃ c : Nat, r = (c : Int) ∧ (c : Int) ≤ n ∧ g 1 1 + c ≤ 40 ∧ ((c : Int) = n ∨ g 1 1 + c = 40 ∨ ¬ yfV g p (i + 5 * c)) ∧ yCr g p i c g') → K [(1, r)] g') : Y 0 [(3, 0), (1, p), (1, i), (1, n), (0, 0), (0, 0), (0, 0)] [] g := by
  refine yrun_ok (sp := fun pc => Nat.beq pc 57) hY 27 0 _ [] g ?_
  show (∃ (v1 b2 : Int), [(1, p), (1, 6)] = [(1, v1), (1, b2)] ∧ (∀ (r3 : Int), ((r3 = 1 ∧ 0 ≤ v1 ∧ v1 < b2) ∨ (r3 = 0 ∧ (v1 < 0 ∨ b2 ≤ v1))) → ((r3 = 0 → (K [(1, (-1))] g)) ∧ (¬ (r3 = 0) → ((n < 1 → (K [(1, (-1))] g)) ∧ (¬ (n < 1) → ((n ≤ 12 → (∃ (p8 : Int), [(3, 9), (1, p)] = [(3, 9), (1, p8)] ∧ (0 ≤ p8 ∧ p8 < 6) ∧ (∀ (r9 : Int), ((r9 = 1 ∧ g 40 (Int.toNat p8) = -1) ∨ (r9 = 0 ∧ g 40 (Int.toNat p8) ≠ -1)) → ((r9 = 0 → (∃ (p12 s13 : Int), [(3, 9), (1, p), (1, 1)] = [(3, 9), (1, p12), (1, s13)] ∧ (0 ≤ p12 ∧ p12 < 6) ∧ (∀ (r14 : Int), ((r14 = 1 ∧ g 40 (Int.toNat p12) = s13) ∨ (r14 = 0 ∧ g 40 (Int.toNat p12) ≠ s13)) → ((r14 ≠ 0 → (Y 57 [(3, 0), (1, p), (1, i), (1, n), (1, 0), (2, i), (0, 0)] [] g)) ∧ (¬ (r14 ≠ 0) → (K [(1, (-12))] g)))))) ∧ (¬ (r9 = 0) → (K [(1, 0)] g)))))) ∧ (¬ (n ≤ 12) → (K [(1, (-1))] g)))))))))
  refine ⟨_, _, rfl, ?_⟩
  intro r3 p40
  refine ⟨fun h5 => ?_, fun h5 => ?_⟩
  · exact hK _ _ (fun _ => ⟨rfl, rfl⟩) (fun h => absurd h (by omega)) (fun h => absurd h (by omega)) (fun h => absurd h (by omega))
  · refine ⟨fun h6 => ?_, fun h6 => ?_⟩
    · exact hK _ _ (fun _ => ⟨rfl, rfl⟩) (fun h => absurd h (by omega)) (fun h => absurd h (by omega)) (fun h => absurd h (by omega))
    · refine ⟨fun h7 => ?_, fun h7 => ?_⟩
      · refine ⟨_, rfl, (by omega), ?_⟩
        intro r9 p100
        refine ⟨fun h11 => ?_, fun h11 => ?_⟩
        · refine ⟨_, _, rfl, (by omega), ?_⟩
          intro r14 p150
          refine ⟨fun h16 => ?_, fun h16 => ?_⟩
          · have hz := hp0.sz
            have ho : (0 ≤ p ∧ p < 6 ∧ 1 ≤ n ∧ n ≤ 12) := by omega
            have h0 : yCr g p i 0 g := ⟨hp0, by omega, fun j hj => absurd hj (by omega), fun _ _ _ _ _ => rfl, fun h => h⟩
            have e := yl_CCS hY hp0 hr_i ho (fun r g' h => hK r g' (fun h => absurd ho h) (fun _ h => absurd h (by omega)) (fun _ _ h => absurd (by omega) h) (fun _ _ => h)) (Int.toNat n) 0 (by omega) g h0 (by omega)
            rw [show i + 5 * ((0 : Nat) : Int) = i by omega] at e
            exact e
          · exact hK _ _ (fun h => absurd (by omega) h) (fun _ h => absurd h (by omega)) (fun _ _ _ => ⟨rfl, rfl⟩) (fun _ h => absurd h (by omega))
        · exact hK _ _ (fun h => absurd (by omega) h) (fun _ _ => ⟨rfl, rfl⟩) (fun _ h => absurd h (by omega)) (fun _ h => absurd h (by omega))
      · exact hK _ _ (fun _ => ⟨rfl, rfl⟩) (fun h => absurd h (by omega)) (fun h => absurd h (by omega)) (fun h => absurd h (by omega))
theorem yM_CCS {l : Launch} {Ts : List Cond} {cl : List vw_C} {RO : zRO} (H : zHyp Ts cl RO) : yMet l Ts cl zpZ RO zpMT yC_CCS := ymet_of2 H.1 H.2.1 zpDj H.2.2.1 yRb H.p0 (ymets_cons (yM_W H) (ymets_cons (yM_HN H) (ymets_cons (yM_HRO H) (ymets_cons (yM_RF5 H) (ymets_cons (yM_ADM H) ymets_nil))))) (zrc1 rfl) (plainFor_of_name zpy0) zpDk8 (fun as g K Y h hA hY => by
  obtain ⟨p, i, n, rfl, hp0, hK⟩ := h
  exact yv_CCS hY (yAr1 hA (by simp)) (yAr1 hA (by simp)) (yAr1 hA (by simp)) hp0 hK)
