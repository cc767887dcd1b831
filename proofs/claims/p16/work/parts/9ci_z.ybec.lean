/-! CHANGES OF THE REFERENCE -/
def yshd (g : yM) (n : Nat) : yM := fun a b => if (92 ≤ a ∧ a ≤ 94) ∧ b < n then g a (b + 1) else g a b
theorem yshd_0 (g : yM) : yshd g 0 = g := by
  funext a b
  unfold yshd
  rw [if_neg (fun h => by omega)]
theorem yshd_nc {g : yM} {n a b : Nat} (h : a < 92 ∨ 94 < a) : yshd g n a b = g a b := if_neg (fun z => by omega)
theorem yshd_in {g : yM} {n a b : Nat} (h : (92 ≤ a ∧ a ≤ 94) ∧ b < n) : yshd g n a b = g a (b + 1) := if_pos h
theorem yshd_out {g : yM} {n a b : Nat} (h : n ≤ b) : yshd g n a b = g a b := if_neg (fun z => by omega)
theorem yshd_step (g : yM) (n : Nat) : yset (yset (yset (yshd g n) 92 n (g 92 (n + 1))) 93 n (g 93 (n + 1))) 94 n (g 94 (n + 1)) = yshd g (n + 1) := by
  funext a b
  unfold yset yshd
  by_cases h4 : a = 94 ∧ b = n
  · rw [if_pos h4, if_pos ⟨by omega, by omega⟩, h4.1, h4.2]
  · rw [if_neg h4]
    by_cases h3 : a = 93 ∧ b = n
    · rw [if_pos h3, if_pos ⟨by omega, by omega⟩, h3.1, h3.2]
    · rw [if_neg h3]
      by_cases h2 : a = 92 ∧ b = n
      · rw [if_pos h2, if_pos ⟨by omega, by omega⟩, h2.1, h2.2]
      · rw [if_neg h2]
        by_cases h : (92 ≤ a ∧ a ≤ 94) ∧ b < n
        · rw [if_pos h, if_pos ⟨h.1, by omega⟩]
        · rw [if_neg h, if_neg (fun z => by
            by_cases hb : b = n
            · omega
            · exact h ⟨z.1, by omega⟩)]
def ybd (g : yM) : Int := if g 90 5 = 40 then 39 else g 90 5
def ybs (g : yM) : yM := if g 90 5 = 40 then yset (yshd g 39) 90 5 39 else g
def ybf (M : yM) (d w v was : Int) : yM := yset (yset (yset (yset (yset (yset M 92 (Int.toNat d) w) 93 (Int.toNat d) was) 94 (Int.toNat d) v) 90 5 (d + 1)) 90 4 (d + 1)) 91 (Int.toNat w) v
def ybec (g : yM) (w v : Int) : yM := ybf (ybs g) (ybd g) w v (g 91 (Int.toNat w))
def yP_BE : yPT := fun as g K => ∃ (w v : Int), as = [(3, 90), (1, w), (1, v)] ∧ (0 ≤ w ∧ w < 53) ∧ (0 ≤ g 90 5 ∧ g 90 5 ≤ 40) ∧ (∀ (r : Int) (g' : yM), (r = g 91 (Int.toNat w)) → (g 91 (Int.toNat w) = v → g' = g) → (g 91 (Int.toNat w) ≠ v → g' = ybec g w v) → K [(1, r)] g')
def yC_BE : yC := (138, (1, 40), yP_BE)
set_option maxRecDepth 8000 in
theorem yq_BE {K : List yV → yM → Prop} {Y : yNx} {M : yM} {w v u d : Int} {x : yV} (hY : yCl zpD138 (zpZ, zpRS, zpP12, zpMT, [], (1, 40), 1) K Y) (hw : 0 ≤ w ∧ w < 53) (hd : M 90 5 = d) (hd0 : 0 ≤ d ∧ d < 40) (hK : K [(1, u)] (ybf M d w v u)) : Y 97 [(3, 90), (1, w), (1, v), (1, u), x] [] M := by
  refine yrun_ok (sp := fun pc => false) hY 35 97 _ [] M ?_
  show (((0 : Int) ≤ (M 90 5) ∧ (M 90 5) < ((40 : Nat) : Int)) ∧ (((0 : Int) ≤ ((yset M 92 (Int.toNat (M 90 5)) w) 90 5) ∧ ((yset M 92 (Int.toNat (M 90 5)) w) 90 5) < ((40 : Nat) : Int)) ∧ (((0 : Int) ≤ ((yset (yset M 92 (Int.toNat (M 90 5)) w) 93 (Int.toNat ((yset M 92 (Int.toNat (M 90 5)) w) 90 5)) u) 90 5) ∧ ((yset (yset M 92 (Int.toNat (M 90 5)) w) 93 (Int.toNat ((yset M 92 (Int.toNat (M 90 5)) w) 90 5)) u) 90 5) < ((40 : Nat) : Int)) ∧ (((0 : Int) ≤ w ∧ w < ((53 : Nat) : Int)) ∧ (K [(1, u)] (yset (yset (yset (yset (yset (yset M 92 (Int.toNat (M 90 5)) w) 93 (Int.toNat ((yset M 92 (Int.toNat (M 90 5)) w) 90 5)) u) 94 (Int.toNat ((yset (yset M 92 (Int.toNat (M 90 5)) w) 93 (Int.toNat ((yset M 92 (Int.toNat (M 90 5)) w) 90 5)) u) 90 5)) v) 90 5 (yw (((yset (yset (yset M 92 (Int.toNat (M 90 5)) w) 93 (Int.toNat ((yset M 92 (Int.toNat (M 90 5)) w) 90 5)) u) 94 (Int.toNat ((yset (yset M 92 (Int.toNat (M 90 5)) w) 93 (Int.toNat ((yset M 92 (Int.toNat (M 90 5)) w) 90 5)) u) 90 5)) v) 90 5) + 1))) 90 4 ((yset (yset (yset (yset M 92 (Int.toNat (M 90 5)) w) 93 (Int.toNat ((yset M 92 (Int.toNat (M 90 5)) w) 90 5)) u) 94 (Int.toNat ((yset (yset M 92 (Int.toNat (M 90 5)) w) 93 (Int.toNat ((yset M 92 (Int.toNat (M 90 5)) w) 90 5)) u) 90 5)) v) 90 5 (yw (((yset (yset (yset M 92 (Int.toNat (M 90 5)) w) 93 (Int.toNat ((yset M 92 (Int.toNat (M 90 5)) w) 90 5)) u) 94 (Int.toNat ((yset (yset M 92 (Int.toNat (M 90 5)) w) 93 (Int.toNat ((yset M 92 (Int.toNat (M 90 5)) w) 90 5)) u) 90 5)) v) 90 5) + 1))) 90 5)) 91 (Int.toNat w) v))))))
  refine ⟨(by omega), ?_⟩
  refine ⟨(by have := show ((yset M 92 (Int.toNat (M 90 5)) w) 90 5) = (M 90 5) from (by simp [yset_ap, ycpy_ap]); omega), ?_⟩
  refine ⟨(by rw [show ((yset (yset M 92 (Int.toNat (M 90 5)) w) 93 (Int.toNat ((yset M 92 (Int.toNat (M 90 5)) w) 90 5)) u) 90 5) = (M 90 5) from by simp [yset_ap, ycpy_ap]]; have := show ((yset M 92 (Int.toNat (M 90 5)) w) 90 5) = (M 90 5) from (by simp [yset_ap, ycpy_ap]); have := show ((yset (yset M 92 (Int.toNat (M 90 5)) w) 93 (Int.toNat ((yset M 92 (Int.toNat (M 90 5)) w) 90 5)) u) 90 5) = (M 90 5) from (by simp [yset_ap, ycpy_ap]); omega), ?_⟩
  refine ⟨(by omega), ?_⟩
  rw [show ((yset (yset (yset (yset M 92 (Int.toNat (M 90 5)) w) 93 (Int.toNat ((yset M 92 (Int.toNat (M 90 5)) w) 90 5)) u) 94 (Int.toNat ((yset (yset M 92 (Int.toNat (M 90 5)) w) 93 (Int.toNat ((yset M 92 (Int.toNat (M 90 5)) w) 90 5)) u) 90 5)) v) 90 5 (yw (((yset (yset (yset M 92 (Int.toNat (M 90 5)) w) 93 (Int.toNat ((yset M 92 (Int.toNat (M 90 5)) w) 90 5)) u) 94 (Int.toNat ((yset (yset M 92 (Int.toNat (M 90 5)) w) 93 (Int.toNat ((yset M 92 (Int.toNat (M 90 5)) w) 90 5)) u) 90 5)) v) 90 5) + 1))) 90 5) = (yw (((yset (yset (yset M 92 (Int.toNat (M 90 5)) w) 93 (Int.toNat ((yset M 92 (Int.toNat (M 90 5)) w) 90 5)) u) 94 (Int.toNat ((yset (yset M 92 (Int.toNat (M 90 5)) w) 93 (Int.toNat ((yset M 92 (Int.toNat (M 90 5)) w) 90 5)) u) 90 5)) v) 90 5) + 1)) from by simp [yset_ap, ycpy_ap]]
  rw [show ((yset (yset (yset M 92 (Int.toNat (M 90 5)) w) 93 (Int.toNat ((yset M 92 (Int.toNat (M 90 5)) w) 90 5)) u) 94 (Int.toNat ((yset (yset M 92 (Int.toNat (M 90 5)) w) 93 (Int.toNat ((yset M 92 (Int.toNat (M 90 5)) w) 90 5)) u) 90 5)) v) 90 5) = (M 90 5) from by simp [yset_ap, ycpy_ap]]
  rw [show ((yset (yset M 92 (Int.toNat (M 90 5)) w) 93 (Int.toNat ((yset M 92 (Int.toNat (M 90 5)) w) 90 5)) u) 90 5) = (M 90 5) from by simp [yset_ap, ycpy_ap]]
  rw [show ((yset M 92 (Int.toNat (M 90 5)) w) 90 5) = (M 90 5) from by simp [yset_ap, ycpy_ap]]
  rw [show (yw ((M 90 5) + 1)) = ((M 90 5) + 1) from by have := yw_s ((M 90 5) + 1); omega]
  rw [hd]
  exact hK
set_option maxRecDepth 8000 in
theorem yl_BE {K : List yV → yM → Prop} {Y : yNx} {g : yM} {w v u : Int} (hY : yCl zpD138 (zpZ, zpRS, zpP12, zpMT, [], (1, 40), 1) K Y) (hw : 0 ≤ w ∧ w < 53) (hd : g 90 5 = 40) (hK : K [(1, u)] (ybf (yset (yshd g 39) 90 5 39) 39 w v u)) : ∀ (d : Nat) (i : Int), i + d = 40 → 1 ≤ i → Y 26 [(3, 90), (1, w), (1, v), (1, u), (1, i)] [] (yshd g (Int.toNat (i - 1))) := by
  intro d
  induction d with
  | zero =>
    intro i hi h0'
    refine yrun_ok (sp := fun pc => Nat.beq pc 26 || Nat.beq pc 97) hY 36 26 _ [] (yshd g (Int.toNat (i - 1))) ?_
    show ((40 ≤ i → (Y 97 [(3, 90), (1, w), (1, v), (1, u), (1, i)] [] (yset (yshd g (Int.toNat (i - 1))) 90 5 (yw (((yshd g (Int.toNat (i - 1))) 90 5) - 1))))) ∧ (¬ (40 ≤ i) → (((0 : Int) ≤ i ∧ i < ((40 : Nat) : Int)) ∧ (((0 : Int) ≤ (yw (i - 1)) ∧ (yw (i - 1)) < ((40 : Nat) : Int)) ∧ (((0 : Int) ≤ i ∧ i < ((40 : Nat) : Int)) ∧ (((0 : Int) ≤ (yw (i - 1)) ∧ (yw (i - 1)) < ((40 : Nat) : Int)) ∧ (((0 : Int) ≤ i ∧ i < ((40 : Nat) : Int)) ∧ (((0 : Int) ≤ (yw (i - 1)) ∧ (yw (i - 1)) < ((40 : Nat) : Int)) ∧ (Y 26 [(3, 90), (1, w), (1, v), (1, u), (1, (yw (i + 1)))] [] (yset (yset (yset (yshd g (Int.toNat (i - 1))) 92 (Int.toNat (yw (i - 1))) ((yshd g (Int.toNat (i - 1))) 92 (Int.toNat i))) 93 (Int.toNat (yw (i - 1))) ((yset (yshd g (Int.toNat (i - 1))) 92 (Int.toNat (yw (i - 1))) ((yshd g (Int.toNat (i - 1))) 92 (Int.toNat i))) 93 (Int.toNat i))) 94 (Int.toNat (yw (i - 1))) ((yset (yset (yshd g (Int.toNat (i - 1))) 92 (Int.toNat (yw (i - 1))) ((yshd g (Int.toNat (i - 1))) 92 (Int.toNat i))) 93 (Int.toNat (yw (i - 1))) ((yset (yshd g (Int.toNat (i - 1))) 92 (Int.toNat (yw (i - 1))) ((yshd g (Int.toNat (i - 1))) 92 (Int.toNat i))) 93 (Int.toNat i))) 94 (Int.toNat i))))))))))))
    refine ⟨fun h1 => ?_, fun h1 => ?_⟩
    · have e : Int.toNat (i - 1) = 39 := by omega
      rw [e, yshd_nc (Or.inl (by decide)), hd, show yw (40 - 1) = 39 from by decide]
      exact yq_BE hY hw (by rw [yset_eq]) (by omega) hK
    · refine ⟨(by omega), ?_⟩
      refine ⟨(by have := yw_s (i - 1); omega), ?_⟩
      refine ⟨(by omega), ?_⟩
      refine ⟨(by have := yw_s (i - 1); omega), ?_⟩
      refine ⟨(by omega), ?_⟩
      refine ⟨(by have := yw_s (i - 1); omega), ?_⟩
      omega
  | succ d ih =>
    intro i hi h0
    refine yrun_ok (sp := fun pc => Nat.beq pc 26 || Nat.beq pc 97) hY 36 26 _ [] (yshd g (Int.toNat (i - 1))) ?_
    show ((40 ≤ i → (Y 97 [(3, 90), (1, w), (1, v), (1, u), (1, i)] [] (yset (yshd g (Int.toNat (i - 1))) 90 5 (yw (((yshd g (Int.toNat (i - 1))) 90 5) - 1))))) ∧ (¬ (40 ≤ i) → (((0 : Int) ≤ i ∧ i < ((40 : Nat) : Int)) ∧ (((0 : Int) ≤ (yw (i - 1)) ∧ (yw (i - 1)) < ((40 : Nat) : Int)) ∧ (((0 : Int) ≤ i ∧ i < ((40 : Nat) : Int)) ∧ (((0 : Int) ≤ (yw (i - 1)) ∧ (yw (i - 1)) < ((40 : Nat) : Int)) ∧ (((0 : Int) ≤ i ∧ i < ((40 : Nat) : Int)) ∧ (((0 : Int) ≤ (yw (i - 1)) ∧ (yw (i - 1)) < ((40 : Nat) : Int)) ∧ (Y 26 [(3, 90), (1, w), (1, v), (1, u), (1, (yw (i + 1)))] [] (yset (yset (yset (yshd g (Int.toNat (i - 1))) 92 (Int.toNat (yw (i - 1))) ((yshd g (Int.toNat (i - 1))) 92 (Int.toNat i))) 93 (Int.toNat (yw (i - 1))) ((yset (yshd g (Int.toNat (i - 1))) 92 (Int.toNat (yw (i - 1))) ((yshd g (Int.toNat (i - 1))) 92 (Int.toNat i))) 93 (Int.toNat i))) 94 (Int.toNat (yw (i - 1))) ((yset (yset (yshd g (Int.toNat (i - 1))) 92 (Int.toNat (yw (i - 1))) ((yshd g (Int.toNat (i - 1))) 92 (Int.toNat i))) 93 (Int.toNat (yw (i - 1))) ((yset (yshd g (Int.toNat (i - 1))) 92 (Int.toNat (yw (i - 1))) ((yshd g (Int.toNat (i - 1))) 92 (Int.toNat i))) 93 (Int.toNat i))) 94 (Int.toNat i))))))))))))
    refine ⟨fun h1 => ?_, fun h1 => ?_⟩
    · omega
    · refine ⟨(by omega), ?_⟩
      refine ⟨(by have := yw_s (i - 1); omega), ?_⟩
      refine ⟨(by omega), ?_⟩
      refine ⟨(by have := yw_s (i - 1); omega), ?_⟩
      refine ⟨(by omega), ?_⟩
      refine ⟨(by have := yw_s (i - 1); omega), ?_⟩
      rw [show ((yset (yset (yshd g (Int.toNat (i - 1))) 92 (Int.toNat (yw (i - 1))) ((yshd g (Int.toNat (i - 1))) 92 (Int.toNat i))) 93 (Int.toNat (yw (i - 1))) ((yset (yshd g (Int.toNat (i - 1))) 92 (Int.toNat (yw (i - 1))) ((yshd g (Int.toNat (i - 1))) 92 (Int.toNat i))) 93 (Int.toNat i))) 94 (Int.toNat i)) = ((yshd g (Int.toNat (i - 1))) 94 (Int.toNat i)) from by simp [yset_ap, ycpy_ap]]
      rw [show ((yset (yshd g (Int.toNat (i - 1))) 92 (Int.toNat (yw (i - 1))) ((yshd g (Int.toNat (i - 1))) 92 (Int.toNat i))) 93 (Int.toNat i)) = ((yshd g (Int.toNat (i - 1))) 93 (Int.toNat i)) from by simp [yset_ap, ycpy_ap]]
      rw [show (yw (i + 1)) = (i + 1) from by have := yw_s (i + 1); omega]
      rw [show (yw (i - 1)) = (i - 1) from by have := yw_s (i - 1); omega]
      have e2 := yshd_step g (Int.toNat (i - 1))
      rw [show Int.toNat (i - 1) + 1 = Int.toNat i by omega] at e2
      rw [yshd_out (by omega), yshd_out (by omega), yshd_out (by omega), e2]
      have e3 := ih (i + 1) (by omega) (by omega)
      rw [show i + 1 - 1 = i by omega] at e3
      exact e3
set_option maxRecDepth 8000 in
theorem yv_BE {K : List yV → yM → Prop} {Y : yNx} {g : yM} {w v : Int} (hY : yCl zpD138 (zpZ, zpRS, zpP12, zpMT, [], (1, 40), 1) K Y) (hr_w : -2147483648 ≤ w ∧ w ≤ 2147483647) (hr_v : -2147483648 ≤ v ∧ v ≤ 2147483647) (hp0 : 0 ≤ w ∧ w < 53) (hp1 : 0 ≤ g 90 5 ∧ g 90 5 ≤ 40) (hK : ∀ (r : Int) (g' : yM), (r = g 91 (Int.toNat w)) → (g 91 (Int.toNat w) = v → g' = g) → (g 91 (Int.toNat w) ≠ v → g' = ybec g w v) → K [(1, r)] g') : Y 0 [(3, 90), (1, w), (1, v), (0, 0), (0, 0)] [] g := by
  refine yrun_ok (sp := fun pc => Nat.beq pc 26 || Nat.beq pc 97) hY 15 0 _ [] g ?_
  show (((0 : Int) ≤ w ∧ w < ((53 : Nat) : Int)) ∧ (((g 91 (Int.toNat w)) ≠ v → (((g 90 5) ≠ 40 → (Y 97 [(3, 90), (1, w), (1, v), (1, (g 91 (Int.toNat w))), (0, 0)] [] g)) ∧ (¬ ((g 90 5) ≠ 40) → (Y 26 [(3, 90), (1, w), (1, v), (1, (g 91 (Int.toNat w))), (1, 1)] [] g)))) ∧ (¬ ((g 91 (Int.toNat w)) ≠ v) → (K [(1, (g 91 (Int.toNat w)))] g))))
  refine ⟨(by omega), ?_⟩
  refine ⟨fun h1 => ?_, fun h1 => ?_⟩
  · refine ⟨fun h2 => ?_, fun h2 => ?_⟩
    · have hd : ¬ g 90 5 = 40 := by omega
      exact yq_BE hY hp0 rfl (by omega) (hK _ _ rfl (fun h => absurd h (by omega)) (fun _ => by unfold ybec ybs ybd; rw [if_neg hd, if_neg hd]))
    · have hd : g 90 5 = 40 := by omega
      have e := yl_BE (w := w) (v := v) hY hp0 hd (hK _ _ rfl (fun h => absurd h (by omega)) (fun _ => by unfold ybec ybs ybd; rw [if_pos hd, if_pos hd])) 39 1 (by omega) (by omega)
      rw [show Int.toNat (1 - 1) = 0 from rfl, yshd_0] at e
      exact e
  · exact hK _ _ rfl (fun _ => rfl) (fun h => absurd (by omega) h)
theorem yM_BE {l : Launch} {Ts : List Cond} {cl : List vw_C} {RO : zRO} (H : zHyp Ts cl RO) : yMet l Ts cl zpZ RO zpMT yC_BE := ymet_of2 H.1 H.2.1 zpDj H.2.2.1 yRb H.p12 ymets_nil (zrc1 rfl) (plainFor_of_name zpy12) zpDk138 (fun as g K Y h hA hY => by
  obtain ⟨w, v, rfl, hp0, hp1, hK⟩ := h
  exact yv_BE hY (yAr1 hA (by simp)) (yAr1 hA (by simp)) hp0 hp1 hK)
def yP_MUN : yPT := fun as g K => as = [(3, 90)] ∧ (0 ≤ g 90 5 ∧ g 90 5 ≤ 40) ∧ (∀ k : Nat, k < 40 → 0 ≤ g 92 k ∧ g 92 k < 53) ∧ (∀ (r : Int) (g' : yM), ((r = -5 ∧ g 90 5 = 0) ∨ (r = g 90 5 - 1 ∧ 0 < g 90 5)) → (g 90 5 = 0 → g' = g) → (0 < g 90 5 → g' = yset (yset g 90 5 (g 90 5 - 1)) 91 (Int.toNat (g 92 (Int.toNat (g 90 5 - 1)))) (g 93 (Int.toNat (g 90 5 - 1)))) → K [(1, r)] g')
def yC_MUN : yC := (207, (1, 40), yP_MUN)
set_option maxRecDepth 8000 in
theorem yv_MUN {K : List yV → yM → Prop} {Y : yNx} {g : yM} (hY : yCl zpD207 (zpZ, zpRS, zpP12, zpMT, [], (1, 40), 1) K Y) (hp0 : 0 ≤ g 90 5 ∧ g 90 5 ≤ 40) (hp1 : ∀ k : Nat, k < 40 → 0 ≤ g 92 k ∧ g 92 k < 53) (hK : ∀ (r : Int) (g' : yM), ((r = -5 ∧ g 90 5 = 0) ∨ (r = g 90 5 - 1 ∧ 0 < g 90 5)) → (g 90 5 = 0 → g' = g) → (0 < g 90 5 → g' = yset (yset g 90 5 (g 90 5 - 1)) 91 (Int.toNat (g 92 (Int.toNat (g 90 5 - 1)))) (g 93 (Int.toNat (g 90 5 - 1)))) → K [(1, r)] g') : Y 0 [(3, 90)] [] g := by
  refine yrun_ok (sp := fun pc => false) hY 25 0 _ [] g ?_
  show (((g 90 5) ≠ 0 → (((0 : Int) ≤ ((yset g 90 5 (yw ((g 90 5) - 1))) 90 5) ∧ ((yset g 90 5 (yw ((g 90 5) - 1))) 90 5) < ((40 : Nat) : Int)) ∧ (((0 : Int) ≤ ((yset g 90 5 (yw ((g 90 5) - 1))) 90 5) ∧ ((yset g 90 5 (yw ((g 90 5) - 1))) 90 5) < ((40 : Nat) : Int)) ∧ (((0 : Int) ≤ ((yset g 90 5 (yw ((g 90 5) - 1))) 92 (Int.toNat ((yset g 90 5 (yw ((g 90 5) - 1))) 90 5))) ∧ ((yset g 90 5 (yw ((g 90 5) - 1))) 92 (Int.toNat ((yset g 90 5 (yw ((g 90 5) - 1))) 90 5))) < ((53 : Nat) : Int)) ∧ (K [(1, ((yset (yset g 90 5 (yw ((g 90 5) - 1))) 91 (Int.toNat ((yset g 90 5 (yw ((g 90 5) - 1))) 92 (Int.toNat ((yset g 90 5 (yw ((g 90 5) - 1))) 90 5)))) ((yset g 90 5 (yw ((g 90 5) - 1))) 93 (Int.toNat ((yset g 90 5 (yw ((g 90 5) - 1))) 90 5)))) 90 5))] (yset (yset g 90 5 (yw ((g 90 5) - 1))) 91 (Int.toNat ((yset g 90 5 (yw ((g 90 5) - 1))) 92 (Int.toNat ((yset g 90 5 (yw ((g 90 5) - 1))) 90 5)))) ((yset g 90 5 (yw ((g 90 5) - 1))) 93 (Int.toNat ((yset g 90 5 (yw ((g 90 5) - 1))) 90 5))))))))) ∧ (¬ ((g 90 5) ≠ 0) → (K [(1, (-5))] g)))
  refine ⟨fun h1 => ?_, fun h1 => ?_⟩
  · refine ⟨(by have := show ((yset g 90 5 (yw ((g 90 5) - 1))) 90 5) = (yw ((g 90 5) - 1)) from (by simp [yset_ap, ycpy_ap]); have := yw_s ((g 90 5) - 1); have := hp1 (Int.toNat (g 90 5 - 1)); omega), ?_⟩
    refine ⟨(by have := show ((yset g 90 5 (yw ((g 90 5) - 1))) 90 5) = (yw ((g 90 5) - 1)) from (by simp [yset_ap, ycpy_ap]); have := yw_s ((g 90 5) - 1); have := hp1 (Int.toNat (g 90 5 - 1)); omega), ?_⟩
    refine ⟨(by rw [show ((yset g 90 5 (yw ((g 90 5) - 1))) 92 (Int.toNat ((yset g 90 5 (yw ((g 90 5) - 1))) 90 5))) = (g 92 (Int.toNat ((yset g 90 5 (yw ((g 90 5) - 1))) 90 5))) from by simp [yset_ap, ycpy_ap]]; rw [show ((yset g 90 5 (yw ((g 90 5) - 1))) 90 5) = (yw ((g 90 5) - 1)) from by simp [yset_ap, ycpy_ap]]; rw [show (yw ((g 90 5) - 1)) = ((g 90 5) - 1) from by have := yw_s ((g 90 5) - 1); omega]; have := show ((yset g 90 5 (yw ((g 90 5) - 1))) 90 5) = (yw ((g 90 5) - 1)) from (by simp [yset_ap, ycpy_ap]); have := show ((yset g 90 5 (yw ((g 90 5) - 1))) 92 (Int.toNat ((yset g 90 5 (yw ((g 90 5) - 1))) 90 5))) = (g 92 (Int.toNat ((yset g 90 5 (yw ((g 90 5) - 1))) 90 5))) from (by simp [yset_ap, ycpy_ap]); have := yw_s ((g 90 5) - 1); have := hp1 (Int.toNat (g 90 5 - 1)); omega), ?_⟩
    have := show ((yset g 90 5 (yw ((g 90 5) - 1))) 90 5) = (yw ((g 90 5) - 1)) from (by simp [yset_ap, ycpy_ap])
    have := show ((yset g 90 5 (yw ((g 90 5) - 1))) 92 (Int.toNat ((yset g 90 5 (yw ((g 90 5) - 1))) 90 5))) = (g 92 (Int.toNat ((yset g 90 5 (yw ((g 90 5) - 1))) 90 5))) from (by simp [yset_ap, ycpy_ap])
    have := show ((yset g 90 5 (yw ((g 90 5) - 1))) 93 (Int.toNat ((yset g 90 5 (yw ((g 90 5) - 1))) 90 5))) = (g 93 (Int.toNat ((yset g 90 5 (yw ((g 90 5) - 1))) 90 5))) from (by simp [yset_ap, ycpy_ap])
    have := show ((yset (yset g 90 5 (yw ((g 90 5) - 1))) 91 (Int.toNat ((yset g 90 5 (yw ((g 90 5) - 1))) 92 (Int.toNat ((yset g 90 5 (yw ((g 90 5) - 1))) 90 5)))) ((yset g 90 5 (yw ((g 90 5) - 1))) 93 (Int.toNat ((yset g 90 5 (yw ((g 90 5) - 1))) 90 5)))) 90 5) = (yw ((g 90 5) - 1)) from (by simp [yset_ap, ycpy_ap])
    have := yw_s ((g 90 5) - 1)
    have := hp1 (Int.toNat (g 90 5 - 1))
    rw [show ((yset (yset g 90 5 (yw ((g 90 5) - 1))) 91 (Int.toNat ((yset g 90 5 (yw ((g 90 5) - 1))) 92 (Int.toNat ((yset g 90 5 (yw ((g 90 5) - 1))) 90 5)))) ((yset g 90 5 (yw ((g 90 5) - 1))) 93 (Int.toNat ((yset g 90 5 (yw ((g 90 5) - 1))) 90 5)))) 90 5) = (yw ((g 90 5) - 1)) from by simp [yset_ap, ycpy_ap]]
    rw [show ((yset g 90 5 (yw ((g 90 5) - 1))) 92 (Int.toNat ((yset g 90 5 (yw ((g 90 5) - 1))) 90 5))) = (g 92 (Int.toNat ((yset g 90 5 (yw ((g 90 5) - 1))) 90 5))) from by simp [yset_ap, ycpy_ap]]
    rw [show ((yset g 90 5 (yw ((g 90 5) - 1))) 93 (Int.toNat ((yset g 90 5 (yw ((g 90 5) - 1))) 90 5))) = (g 93 (Int.toNat ((yset g 90 5 (yw ((g 90 5) - 1))) 90 5))) from by simp [yset_ap, ycpy_ap]]
    rw [show ((yset g 90 5 (yw ((g 90 5) - 1))) 90 5) = (yw ((g 90 5) - 1)) from by simp [yset_ap, ycpy_ap]]
    rw [show (yw ((g 90 5) - 1)) = ((g 90 5) - 1) from by have := yw_s ((g 90 5) - 1); omega]
    exact hK _ _ (by first | omega | exact fun _ => rfl | exact fun h => absurd h (by omega) | exact rfl | exact fun _ _ => rfl | exact fun h _ => absurd h (by omega) | exact fun _ h => absurd h (by omega)) (by first | omega | exact fun _ => rfl | exact fun h => absurd h (by omega) | exact rfl | exact fun _ _ => rfl | exact fun h _ => absurd h (by omega) | exact fun _ h => absurd h (by omega)) (by first | omega | exact fun _ => rfl | exact fun h => absurd h (by omega) | exact rfl | exact fun _ _ => rfl | exact fun h _ => absurd h (by omega) | exact fun _ h => absurd h (by omega))
  · have := hp1 (Int.toNat (g 90 5 - 1))
    exact hK _ _ (by first | omega | exact fun _ => rfl | exact fun h => absurd h (by omega) | exact rfl | exact fun _ _ => rfl | exact fun h _ => absurd h (by omega) | exact fun _ h => absurd h (by omega)) (by first | omega | exact fun _ => rfl | exact fun h => absurd h (by omega) | exact rfl | exact fun _ _ => rfl | exact fun h _ => absurd h (by omega) | exact fun _ h => absurd h (by omega)) (by first | omega | exact fun _ => rfl | exact fun h => absurd h (by omega) | exact rfl | exact fun _ _ => rfl | exact fun h _ => absurd h (by omega) | exact fun _ h => absurd h (by omega))
theorem yM_MUN {l : Launch} {Ts : List Cond} {cl : List vw_C} {RO : zRO} (H : zHyp Ts cl RO) : yMet l Ts cl zpZ RO zpMT yC_MUN := ymet_of2 H.1 H.2.1 zpDj H.2.2.1 yRb H.p12 ymets_nil (zrc1 rfl) (plainFor_of_name zpy12) zpDk207 (fun as g K Y h hA hY => by
  obtain ⟨rfl, hp0, hp1, hK⟩ := h
  exact yv_MUN hY  hp0 hp1 hK)
def yP_MRE : yPT := fun as g K => as = [(3, 90)] ∧ (0 ≤ g 90 5 ∧ g 90 5 ≤ g 90 4 ∧ g 90 4 ≤ 40) ∧ (∀ k : Nat, k < 40 → 0 ≤ g 92 k ∧ g 92 k < 53) ∧ (∀ (r : Int) (g' : yM), ((r = -5 ∧ g 90 5 = g 90 4) ∨ (r = g 90 4 - (g 90 5 + 1) ∧ g 90 5 < g 90 4)) → (g 90 5 = g 90 4 → g' = g) → (g 90 5 < g 90 4 → g' = yset (yset g 91 (Int.toNat (g 92 (Int.toNat (g 90 5)))) (g 94 (Int.toNat (g 90 5)))) 90 5 (g 90 5 + 1)) → K [(1, r)] g')
def yC_MRE : yC := (191, (1, 40), yP_MRE)
set_option maxRecDepth 8000 in
theorem yv_MRE {K : List yV → yM → Prop} {Y : yNx} {g : yM} (hY : yCl zpD191 (zpZ, zpRS, zpP12, zpMT, [], (1, 40), 1) K Y) (hp0 : 0 ≤ g 90 5 ∧ g 90 5 ≤ g 90 4 ∧ g 90 4 ≤ 40) (hp1 : ∀ k : Nat, k < 40 → 0 ≤ g 92 k ∧ g 92 k < 53) (hK : ∀ (r : Int) (g' : yM), ((r = -5 ∧ g 90 5 = g 90 4) ∨ (r = g 90 4 - (g 90 5 + 1) ∧ g 90 5 < g 90 4)) → (g 90 5 = g 90 4 → g' = g) → (g 90 5 < g 90 4 → g' = yset (yset g 91 (Int.toNat (g 92 (Int.toNat (g 90 5)))) (g 94 (Int.toNat (g 90 5)))) 90 5 (g 90 5 + 1)) → K [(1, r)] g') : Y 0 [(3, 90)] [] g := by
  refine yrun_ok (sp := fun pc => false) hY 30 0 _ [] g ?_
  show (((g 90 5) ≠ (g 90 4) → (((0 : Int) ≤ (g 90 5) ∧ (g 90 5) < ((40 : Nat) : Int)) ∧ (((0 : Int) ≤ (g 90 5) ∧ (g 90 5) < ((40 : Nat) : Int)) ∧ (((0 : Int) ≤ (g 92 (Int.toNat (g 90 5))) ∧ (g 92 (Int.toNat (g 90 5))) < ((53 : Nat) : Int)) ∧ (K [(1, (yw (((yset (yset g 91 (Int.toNat (g 92 (Int.toNat (g 90 5)))) (g 94 (Int.toNat (g 90 5)))) 90 5 (yw (((yset g 91 (Int.toNat (g 92 (Int.toNat (g 90 5)))) (g 94 (Int.toNat (g 90 5)))) 90 5) + 1))) 90 4) - ((yset (yset g 91 (Int.toNat (g 92 (Int.toNat (g 90 5)))) (g 94 (Int.toNat (g 90 5)))) 90 5 (yw (((yset g 91 (Int.toNat (g 92 (Int.toNat (g 90 5)))) (g 94 (Int.toNat (g 90 5)))) 90 5) + 1))) 90 5))))] (yset (yset g 91 (Int.toNat (g 92 (Int.toNat (g 90 5)))) (g 94 (Int.toNat (g 90 5)))) 90 5 (yw (((yset g 91 (Int.toNat (g 92 (Int.toNat (g 90 5)))) (g 94 (Int.toNat (g 90 5)))) 90 5) + 1)))))))) ∧ (¬ ((g 90 5) ≠ (g 90 4)) → (K [(1, (-5))] g)))
  refine ⟨fun h1 => ?_, fun h1 => ?_⟩
  · refine ⟨(by have := hp1 (Int.toNat (g 90 5)); omega), ?_⟩
    refine ⟨(by have := hp1 (Int.toNat (g 90 5)); omega), ?_⟩
    refine ⟨(by have := hp1 (Int.toNat (g 90 5)); omega), ?_⟩
    have := show ((yset g 91 (Int.toNat (g 92 (Int.toNat (g 90 5)))) (g 94 (Int.toNat (g 90 5)))) 90 5) = (g 90 5) from (by simp [yset_ap, ycpy_ap])
    have := show ((yset (yset g 91 (Int.toNat (g 92 (Int.toNat (g 90 5)))) (g 94 (Int.toNat (g 90 5)))) 90 5 (yw (((yset g 91 (Int.toNat (g 92 (Int.toNat (g 90 5)))) (g 94 (Int.toNat (g 90 5)))) 90 5) + 1))) 90 4) = (g 90 4) from (by simp [yset_ap, ycpy_ap])
    have := show ((yset (yset g 91 (Int.toNat (g 92 (Int.toNat (g 90 5)))) (g 94 (Int.toNat (g 90 5)))) 90 5 (yw (((yset g 91 (Int.toNat (g 92 (Int.toNat (g 90 5)))) (g 94 (Int.toNat (g 90 5)))) 90 5) + 1))) 90 5) = (yw (((yset g 91 (Int.toNat (g 92 (Int.toNat (g 90 5)))) (g 94 (Int.toNat (g 90 5)))) 90 5) + 1)) from (by simp [yset_ap, ycpy_ap])
    have := yw_s (((yset g 91 (Int.toNat (g 92 (Int.toNat (g 90 5)))) (g 94 (Int.toNat (g 90 5)))) 90 5) + 1)
    have := hp1 (Int.toNat (g 90 5))
    rw [show ((yset (yset g 91 (Int.toNat (g 92 (Int.toNat (g 90 5)))) (g 94 (Int.toNat (g 90 5)))) 90 5 (yw (((yset g 91 (Int.toNat (g 92 (Int.toNat (g 90 5)))) (g 94 (Int.toNat (g 90 5)))) 90 5) + 1))) 90 4) = (g 90 4) from by simp [yset_ap, ycpy_ap]]
    rw [show ((yset (yset g 91 (Int.toNat (g 92 (Int.toNat (g 90 5)))) (g 94 (Int.toNat (g 90 5)))) 90 5 (yw (((yset g 91 (Int.toNat (g 92 (Int.toNat (g 90 5)))) (g 94 (Int.toNat (g 90 5)))) 90 5) + 1))) 90 5) = (yw (((yset g 91 (Int.toNat (g 92 (Int.toNat (g 90 5)))) (g 94 (Int.toNat (g 90 5)))) 90 5) + 1)) from by simp [yset_ap, ycpy_ap]]
    rw [show ((yset g 91 (Int.toNat (g 92 (Int.toNat (g 90 5)))) (g 94 (Int.toNat (g 90 5)))) 90 5) = (g 90 5) from by simp [yset_ap, ycpy_ap]]
    rw [show (yw ((g 90 4) - (yw ((g 90 5) + 1)))) = ((g 90 4) - ((g 90 5) + 1)) from by have := yw_s ((g 90 4) - (yw ((g 90 5) + 1))); have := yw_s ((g 90 5) + 1); omega]
    rw [show (yw ((g 90 5) + 1)) = ((g 90 5) + 1) from by have := yw_s ((g 90 5) + 1); omega]
    exact hK _ _ (by first | omega | exact fun _ => rfl | exact fun h => absurd h (by omega) | exact rfl | exact fun _ _ => rfl | exact fun h _ => absurd h (by omega) | exact fun _ h => absurd h (by omega)) (by first | omega | exact fun _ => rfl | exact fun h => absurd h (by omega) | exact rfl | exact fun _ _ => rfl | exact fun h _ => absurd h (by omega) | exact fun _ h => absurd h (by omega)) (by first | omega | exact fun _ => rfl | exact fun h => absurd h (by omega) | exact rfl | exact fun _ _ => rfl | exact fun h _ => absurd h (by omega) | exact fun _ h => absurd h (by omega))
  · have := hp1 (Int.toNat (g 90 5))
    exact hK _ _ (by first | omega | exact fun _ => rfl | exact fun h => absurd h (by omega) | exact rfl | exact fun _ _ => rfl | exact fun h _ => absurd h (by omega) | exact fun _ h => absurd h (by omega)) (by first | omega | exact fun _ => rfl | exact fun h => absurd h (by omega) | exact rfl | exact fun _ _ => rfl | exact fun h _ => absurd h (by omega) | exact fun _ h => absurd h (by omega)) (by first | omega | exact fun _ => rfl | exact fun h => absurd h (by omega) | exact rfl | exact fun _ _ => rfl | exact fun h _ => absurd h (by omega) | exact fun _ h => absurd h (by omega))
theorem yM_MRE {l : Launch} {Ts : List Cond} {cl : List vw_C} {RO : zRO} (H : zHyp Ts cl RO) : yMet l Ts cl zpZ RO zpMT yC_MRE := ymet_of2 H.1 H.2.1 zpDj H.2.2.1 yRb H.p12 ymets_nil (zrc1 rfl) (plainFor_of_name zpy12) zpDk191 (fun as g K Y h hA hY => by
  obtain ⟨rfl, hp0, hp1, hK⟩ := h
  exact yv_MRE hY  hp0 hp1 hK)
def yP_MMA : yPT := fun as g K => ∃ (a b v : Int), as = [(3, 90), (1, a), (1, b), (1, v)] ∧ (0 ≤ g 90 5 ∧ g 90 5 ≤ 40) ∧ (∀ (r : Int) (g' : yM), (¬ (0 ≤ a ∧ a < 6 ∧ 0 ≤ b ∧ b ≤ 1 ∧ 1 ≤ v ∧ v ≤ 99 ∧ (b = 0 → v ≤ g 91 (Int.toNat (46 + a))) ∧ (b = 1 → g 91 (Int.toNat (40 + a)) ≤ v)) → r = -1 ∧ g' = g) → ((0 ≤ a ∧ a < 6 ∧ 0 ≤ b ∧ b ≤ 1 ∧ 1 ≤ v ∧ v ≤ 99 ∧ (b = 0 → v ≤ g 91 (Int.toNat (46 + a))) ∧ (b = 1 → g 91 (Int.toNat (40 + a)) ≤ v)) → b = 0 → r = g 91 (Int.toNat (40 + a)) ∧ (g 91 (Int.toNat (40 + a)) = v → g' = g) ∧ (g 91 (Int.toNat (40 + a)) ≠ v → g' = ybec g (40 + a) v)) → ((0 ≤ a ∧ a < 6 ∧ 0 ≤ b ∧ b ≤ 1 ∧ 1 ≤ v ∧ v ≤ 99 ∧ (b = 0 → v ≤ g 91 (Int.toNat (46 + a))) ∧ (b = 1 → g 91 (Int.toNat (40 + a)) ≤ v)) → b = 1 → r = g 91 (Int.toNat (46 + a)) ∧ (g 91 (Int.toNat (46 + a)) = v → g' = g) ∧ (g 91 (Int.toNat (46 + a)) ≠ v → g' = ybec g (46 + a) v)) → K [(1, r)] g')
def yC_MMA : yC := (177, (2, 65), yP_MMA)
set_option maxRecDepth 8000 in
theorem yv_MMA {K : List yV → yM → Prop} {Y : yNx} {g : yM} {a b v : Int} (hY : yCl zpD177 (zpZ, zpRS, zpP12, zpMT, [yC_WM, yC_BE], (2, 65), 1) K Y) (hr_a : -2147483648 ≤ a ∧ a ≤ 2147483647) (hr_b : -2147483648 ≤ b ∧ b ≤ 2147483647) (hr_v : -2147483648 ≤ v ∧ v ≤ 2147483647) (hp0 : 0 ≤ g 90 5 ∧ g 90 5 ≤ 40) (hK : ∀ (r : Int) (g' : yM), (¬ (0 ≤ a ∧ a < 6 ∧ 0 ≤ b ∧ b ≤ 1 ∧ 1 ≤ v ∧ v ≤ 99 ∧ (b = 0 → v ≤ g 91 (Int.toNat (46 + a))) ∧ (b = 1 → g 91 (Int.toNat (40 + a)) ≤ v)) → r = -1 ∧ g' = g) → ((0 ≤ a ∧ a < 6 ∧ 0 ≤ b ∧ b ≤ 1 ∧ 1 ≤ v ∧ v ≤ 99 ∧ (b = 0 → v ≤ g 91 (Int.toNat (46 + a))) ∧ (b = 1 → g 91 (Int.toNat (40 + a)) ≤ v)) → b = 0 → r = g 91 (Int.toNat (40 + a)) ∧ (g 91 (Int.toNat (40 + a)) = v → g' = g) ∧ (g 91 (Int.toNat (40 + a)) ≠ v → g' = ybec g (40 + a) v)) → ((0 ≤ a ∧ a < 6 ∧ 0 ≤ b ∧ b ≤ 1 ∧ 1 ≤ v ∧ v ≤ 99 ∧ (b = 0 → v ≤ g 91 (Int.toNat (46 + a))) ∧ (b = 1 → g 91 (Int.toNat (40 + a)) ≤ v)) → b = 1 → r = g 91 (Int.toNat (46 + a)) ∧ (g 91 (Int.toNat (46 + a)) = v → g' = g) ∧ (g 91 (Int.toNat (46 + a)) ≠ v → g' = ybec g (46 + a) v)) → K [(1, r)] g') : Y 0 [(3, 90), (1, a), (1, b), (1, v), (0, 0)] [] g := by
  refine yrun_ok (sp := fun pc => false) hY 44 0 _ [] g ?_
  show (∃ (v1 a2 b3 : Int), [(2, a), (2, 0), (2, 5)] = [(2, v1), (2, a2), (2, b3)] ∧ (∀ (r4 : Int), ((r4 = 1 ∧ a2 ≤ v1 ∧ v1 ≤ b3) ∨ (r4 = 0 ∧ (v1 < a2 ∨ b3 < v1))) → ((r4 = 0 → (K [(1, (-1))] g)) ∧ (¬ (r4 = 0) → (∃ (v7 a8 b9 : Int), [(2, b), (2, 0), (2, 1)] = [(2, v7), (2, a8), (2, b9)] ∧ (∀ (r10 : Int), ((r10 = 1 ∧ a8 ≤ v7 ∧ v7 ≤ b9) ∨ (r10 = 0 ∧ (v7 < a8 ∨ b9 < v7))) → ((r10 = 0 → (K [(1, (-1))] g)) ∧ (¬ (r10 = 0) → (∃ (v13 a14 b15 : Int), [(2, v), (2, 1), (2, 99)] = [(2, v13), (2, a14), (2, b15)] ∧ (∀ (r16 : Int), ((r16 = 1 ∧ a14 ≤ v13 ∧ v13 ≤ b15) ∨ (r16 = 0 ∧ (v13 < a14 ∨ b15 < v13))) → ((r16 ≠ 0 → ((b ≠ 0 → (((0 : Int) ≤ (yw (40 + a)) ∧ (yw (40 + a)) < ((53 : Nat) : Int)) ∧ ((v < (g 91 (Int.toNat (yw (40 + a)))) → (((0 : Int) = 0 → (K [(1, (-1))] g)) ∧ (¬ (0 : Int) = 0 → _))) ∧ (¬ (v < (g 91 (Int.toNat (yw (40 + a))))) → (((1 : Int) = 0 → _) ∧ (¬ (1 : Int) = 0 → ((b ≠ 0 → (∃ (w24 v25 : Int), [(3, 90), (1, (yw (46 + a))), (1, v)] = [(3, 90), (1, w24), (1, v25)] ∧ (0 ≤ w24 ∧ w24 < 53) ∧ (0 ≤ g 90 5 ∧ g 90 5 ≤ 40) ∧ (∀ (r26 : Int) (g27 : yM), (r26 = g 91 (Int.toNat w24)) → (g 91 (Int.toNat w24) = v25 → g27 = g) → (g 91 (Int.toNat w24) ≠ v25 → g27 = ybec g w24 v25) → (K [(1, r26)] g27)))) ∧ (¬ (b ≠ 0) → (∃ (w29 v30 : Int), [(3, 90), (1, (yw (40 + a))), (1, v)] = [(3, 90), (1, w29), (1, v30)] ∧ (0 ≤ w29 ∧ w29 < 53) ∧ (0 ≤ g 90 5 ∧ g 90 5 ≤ 40) ∧ (∀ (r31 : Int) (g32 : yM), (r31 = g 91 (Int.toNat w29)) → (g 91 (Int.toNat w29) = v30 → g32 = g) → (g 91 (Int.toNat w29) ≠ v30 → g32 = ybec g w29 v30) → (K [(1, r31)] g32))))))))))) ∧ (¬ (b ≠ 0) → (((0 : Int) ≤ (yw (46 + a)) ∧ (yw (46 + a)) < ((53 : Nat) : Int)) ∧ (((g 91 (Int.toNat (yw (46 + a)))) < v → (((0 : Int) = 0 → (K [(1, (-1))] g)) ∧ (¬ (0 : Int) = 0 → _))) ∧ (¬ ((g 91 (Int.toNat (yw (46 + a)))) < v) → (((1 : Int) = 0 → _) ∧ (¬ (1 : Int) = 0 → ((b ≠ 0 → (∃ (w38 v39 : Int), [(3, 90), (1, (yw (46 + a))), (1, v)] = [(3, 90), (1, w38), (1, v39)] ∧ (0 ≤ w38 ∧ w38 < 53) ∧ (0 ≤ g 90 5 ∧ g 90 5 ≤ 40) ∧ (∀ (r40 : Int) (g41 : yM), (r40 = g 91 (Int.toNat w38)) → (g 91 (Int.toNat w38) = v39 → g41 = g) → (g 91 (Int.toNat w38) ≠ v39 → g41 = ybec g w38 v39) → (K [(1, r40)] g41)))) ∧ (¬ (b ≠ 0) → (∃ (w43 v44 : Int), [(3, 90), (1, (yw (40 + a))), (1, v)] = [(3, 90), (1, w43), (1, v44)] ∧ (0 ≤ w43 ∧ w43 < 53) ∧ (0 ≤ g 90 5 ∧ g 90 5 ≤ 40) ∧ (∀ (r45 : Int) (g46 : yM), (r45 = g 91 (Int.toNat w43)) → (g 91 (Int.toNat w43) = v44 → g46 = g) → (g 91 (Int.toNat w43) ≠ v44 → g46 = ybec g w43 v44) → (K [(1, r45)] g46))))))))))))) ∧ (¬ (r16 ≠ 0) → (K [(1, (-1))] g)))))))))))))
  refine ⟨_, _, _, rfl, ?_⟩
  intro r4 p50
  refine ⟨fun h6 => ?_, fun h6 => ?_⟩
  · exact hK _ _ (fun _ => ⟨rfl, rfl⟩) (fun h => absurd h (by omega)) (fun h => absurd h (by omega))
  · refine ⟨_, _, _, rfl, ?_⟩
    intro r10 p110
    refine ⟨fun h12 => ?_, fun h12 => ?_⟩
    · exact hK _ _ (fun _ => ⟨rfl, rfl⟩) (fun h => absurd h (by omega)) (fun h => absurd h (by omega))
    · refine ⟨_, _, _, rfl, ?_⟩
      intro r16 p170
      refine ⟨fun h18 => ?_, fun h18 => ?_⟩
      · refine ⟨fun h19 => ?_, fun h19 => ?_⟩
        · refine ⟨(by have := yw_s (40 + a); omega), ?_⟩
          refine ⟨fun h20 => ?_, fun h20 => ?_⟩
          · refine ⟨fun _ => ?_, fun h21 => absurd (by decide) h21⟩
            rw [show (yw (40 + a)) = (40 + a) from by have := yw_s (40 + a); omega] at h20
            have := yw_s (40 + a)
            exact hK _ _ (fun _ => ⟨rfl, rfl⟩) (fun h => absurd h (by omega)) (fun h => absurd h (by omega))
          · refine ⟨fun h22 => absurd h22 (by decide), fun _ => ?_⟩
            refine ⟨fun h23 => ?_, fun h23 => ?_⟩
            · refine ⟨_, _, rfl, (by rw [show (yw (40 + a)) = (40 + a) from by have := yw_s (40 + a); omega] at h20; have := yw_s (40 + a); have := yw_s (46 + a); omega), (by rw [show (yw (40 + a)) = (40 + a) from by have := yw_s (40 + a); omega] at h20; have := yw_s (40 + a); omega), ?_⟩
              intro r26 g27 p280 p281 p282
              rw [show (yw (40 + a)) = (40 + a) from by have := yw_s (40 + a); omega] at h20
              rw [show (yw (46 + a)) = (46 + a) from by have := yw_s (46 + a); omega] at p280
              rw [show (yw (46 + a)) = (46 + a) from by have := yw_s (46 + a); omega] at p281
              rw [show (yw (46 + a)) = (46 + a) from by have := yw_s (46 + a); omega] at p282
              have := yw_s (40 + a)
              have := yw_s (46 + a)
              exact hK _ _ (fun h => absurd (by omega) h) (fun _ h => absurd h (by omega)) (fun _ _ => ⟨p280, p281, p282⟩)
            · refine ⟨_, _, rfl, (by rw [show (yw (40 + a)) = (40 + a) from by have := yw_s (40 + a); omega] at h20; have := yw_s (40 + a); omega), (by rw [show (yw (40 + a)) = (40 + a) from by have := yw_s (40 + a); omega] at h20; have := yw_s (40 + a); omega), ?_⟩
              intro r31 g32 p330 p331 p332
              rw [show (yw (40 + a)) = (40 + a) from by have := yw_s (40 + a); omega] at h20
              rw [show (yw (40 + a)) = (40 + a) from by have := yw_s (40 + a); omega] at p330
              rw [show (yw (40 + a)) = (40 + a) from by have := yw_s (40 + a); omega] at p331
              rw [show (yw (40 + a)) = (40 + a) from by have := yw_s (40 + a); omega] at p332
              have := yw_s (40 + a)
              exact hK _ _ (fun h => absurd (by omega) h) (fun _ _ => ⟨p330, p331, p332⟩) (fun _ h => absurd h (by omega))
        · refine ⟨(by have := yw_s (46 + a); omega), ?_⟩
          refine ⟨fun h34 => ?_, fun h34 => ?_⟩
          · refine ⟨fun _ => ?_, fun h35 => absurd (by decide) h35⟩
            rw [show (yw (46 + a)) = (46 + a) from by have := yw_s (46 + a); omega] at h34
            have := yw_s (46 + a)
            exact hK _ _ (fun _ => ⟨rfl, rfl⟩) (fun h => absurd h (by omega)) (fun h => absurd h (by omega))
          · refine ⟨fun h36 => absurd h36 (by decide), fun _ => ?_⟩
            refine ⟨fun h37 => ?_, fun h37 => ?_⟩
            · refine ⟨_, _, rfl, (by rw [show (yw (46 + a)) = (46 + a) from by have := yw_s (46 + a); omega] at h34; have := yw_s (46 + a); omega), (by rw [show (yw (46 + a)) = (46 + a) from by have := yw_s (46 + a); omega] at h34; have := yw_s (46 + a); omega), ?_⟩
              intro r40 g41 p420 p421 p422
              rw [show (yw (46 + a)) = (46 + a) from by have := yw_s (46 + a); omega] at h34
              rw [show (yw (46 + a)) = (46 + a) from by have := yw_s (46 + a); omega] at p420
              rw [show (yw (46 + a)) = (46 + a) from by have := yw_s (46 + a); omega] at p421
              rw [show (yw (46 + a)) = (46 + a) from by have := yw_s (46 + a); omega] at p422
              have := yw_s (46 + a)
              exact hK _ _ (fun h => absurd (by omega) h) (fun _ h => absurd h (by omega)) (fun _ _ => ⟨p420, p421, p422⟩)
            · refine ⟨_, _, rfl, (by rw [show (yw (46 + a)) = (46 + a) from by have := yw_s (46 + a); omega] at h34; have := yw_s (46 + a); have := yw_s (40 + a); omega), (by rw [show (yw (46 + a)) = (46 + a) from by have := yw_s (46 + a); omega] at h34; have := yw_s (46 + a); omega), ?_⟩
              intro r45 g46 p470 p471 p472
              rw [show (yw (46 + a)) = (46 + a) from by have := yw_s (46 + a); omega] at h34
              rw [show (yw (40 + a)) = (40 + a) from by have := yw_s (40 + a); omega] at p470
              rw [show (yw (40 + a)) = (40 + a) from by have := yw_s (40 + a); omega] at p471
              rw [show (yw (40 + a)) = (40 + a) from by have := yw_s (40 + a); omega] at p472
              have := yw_s (46 + a)
              have := yw_s (40 + a)
              exact hK _ _ (fun h => absurd (by omega) h) (fun _ _ => ⟨p470, p471, p472⟩) (fun _ h => absurd h (by omega))
      · exact hK _ _ (fun _ => ⟨rfl, rfl⟩) (fun h => absurd h (by omega)) (fun h => absurd h (by omega))
theorem yM_MMA {l : Launch} {Ts : List Cond} {cl : List vw_C} {RO : zRO} (H : zHyp Ts cl RO) : yMet l Ts cl zpZ RO zpMT yC_MMA := ymet_of2 H.1 H.2.1 zpDj H.2.2.1 yRb H.p12 (ymets_cons (yM_WM H) (ymets_cons (yM_BE H) ymets_nil)) (zrc1 rfl) (plainFor_of_name zpy12) zpDk177 (fun as g K Y h hA hY => by
  obtain ⟨a, b, v, rfl, hp0, hK⟩ := h
  exact yv_MMA hY (yAr1 hA (by simp)) (yAr1 hA (by simp)) (yAr1 hA (by simp)) hp0 hK)
def yP_MYA : yPT := fun as g K => ∃ (a v : Int), as = [(3, 90), (1, a), (1, v)] ∧ (0 ≤ g 90 5 ∧ g 90 5 ≤ 40) ∧ (∀ (r : Int) (g' : yM), (¬ (0 ≤ a ∧ a ≤ 2 ∧ 0 ≤ v ∧ v ≤ 30 ∧ (a = 0 → v ≤ 3) ∧ (a = 2 → v ≤ 1)) → r = -1 ∧ g' = g) → ((0 ≤ a ∧ a ≤ 2 ∧ 0 ≤ v ∧ v ≤ 30 ∧ (a = 0 → v ≤ 3) ∧ (a = 2 → v ≤ 1)) → a = 0 → r = g 90 10 ∧ g' = yset g 90 10 v) → ((0 ≤ a ∧ a ≤ 2 ∧ 0 ≤ v ∧ v ≤ 30 ∧ (a = 0 → v ≤ 3) ∧ (a = 2 → v ≤ 1)) → a = 2 → r = g 90 11 ∧ g' = yset g 90 11 v) → ((0 ≤ a ∧ a ≤ 2 ∧ 0 ≤ v ∧ v ≤ 30 ∧ (a = 0 → v ≤ 3) ∧ (a = 2 → v ≤ 1)) → a = 1 → r = g 91 52 ∧ (g 91 52 = v → g' = g) ∧ (g 91 52 ≠ v → g' = ybec g 52 v)) → K [(1, r)] g')
def yC_MYA : yC := (215, (2, 65), yP_MYA)
set_option maxRecDepth 8000 in
theorem yv_MYA {K : List yV → yM → Prop} {Y : yNx} {g : yM} {a v : Int} (hY : yCl zpD215 (zpZ, zpRS, zpP12, zpMT, [yC_WM, yC_BE], (2, 65), 1) K Y) (hr_a : -2147483648 ≤ a ∧ a ≤ 2147483647) (hr_v : -2147483648 ≤ v ∧ v ≤ 2147483647) (hp0 : 0 ≤ g 90 5 ∧ g 90 5 ≤ 40) (hK : ∀ (r : Int) (g' : yM), (¬ (0 ≤ a ∧ a ≤ 2 ∧ 0 ≤ v ∧ v ≤ 30 ∧ (a = 0 → v ≤ 3) ∧ (a = 2 → v ≤ 1)) → r = -1 ∧ g' = g) → ((0 ≤ a ∧ a ≤ 2 ∧ 0 ≤ v ∧ v ≤ 30 ∧ (a = 0 → v ≤ 3) ∧ (a = 2 → v ≤ 1)) → a = 0 → r = g 90 10 ∧ g' = yset g 90 10 v) → ((0 ≤ a ∧ a ≤ 2 ∧ 0 ≤ v ∧ v ≤ 30 ∧ (a = 0 → v ≤ 3) ∧ (a = 2 → v ≤ 1)) → a = 2 → r = g 90 11 ∧ g' = yset g 90 11 v) → ((0 ≤ a ∧ a ≤ 2 ∧ 0 ≤ v ∧ v ≤ 30 ∧ (a = 0 → v ≤ 3) ∧ (a = 2 → v ≤ 1)) → a = 1 → r = g 91 52 ∧ (g 91 52 = v → g' = g) ∧ (g 91 52 ≠ v → g' = ybec g 52 v)) → K [(1, r)] g') : Y 0 [(3, 90), (1, a), (1, v), (0, 0)] [] g := by
  refine yrun_ok (sp := fun pc => false) hY 35 0 _ [] g ?_
  show (∃ (v1 a2 b3 : Int), [(2, a), (2, 0), (2, 2)] = [(2, v1), (2, a2), (2, b3)] ∧ (∀ (r4 : Int), ((r4 = 1 ∧ a2 ≤ v1 ∧ v1 ≤ b3) ∨ (r4 = 0 ∧ (v1 < a2 ∨ b3 < v1))) → ((r4 = 0 → (K [(1, (-1))] g)) ∧ (¬ (r4 = 0) → ((a ≠ 0 → ((a ≠ 1 → (∃ (v9 a10 b11 : Int), [(2, v), (2, 0), (2, 1)] = [(2, v9), (2, a10), (2, b11)] ∧ (∀ (r12 : Int), ((r12 = 1 ∧ a10 ≤ v9 ∧ v9 ≤ b11) ∨ (r12 = 0 ∧ (v9 < a10 ∨ b11 < v9))) → ((r12 ≠ 0 → ((a ≠ 0 → ((a ≠ 1 → ((a ≠ 0 → (K [(1, (g 90 11))] (yset g 90 11 v))) ∧ (¬ (a ≠ 0) → (K [(1, (g 90 11))] (yset g 90 10 v))))) ∧ (¬ (a ≠ 1) → (∃ (w18 v19 : Int), [(3, 90), (1, 52), (1, v)] = [(3, 90), (1, w18), (1, v19)] ∧ (0 ≤ w18 ∧ w18 < 53) ∧ (0 ≤ g 90 5 ∧ g 90 5 ≤ 40) ∧ (∀ (r20 : Int) (g21 : yM), (r20 = g 91 (Int.toNat w18)) → (g 91 (Int.toNat w18) = v19 → g21 = g) → (g 91 (Int.toNat w18) ≠ v19 → g21 = ybec g w18 v19) → (K [(1, r20)] g21)))))) ∧ (¬ (a ≠ 0) → ((a ≠ 1 → ((a ≠ 0 → (K [(1, (g 90 10))] (yset g 90 11 v))) ∧ (¬ (a ≠ 0) → (K [(1, (g 90 10))] (yset g 90 10 v))))) ∧ (¬ (a ≠ 1) → (∃ (w25 v26 : Int), [(3, 90), (1, 52), (1, v)] = [(3, 90), (1, w25), (1, v26)] ∧ (0 ≤ w25 ∧ w25 < 53) ∧ (0 ≤ g 90 5 ∧ g 90 5 ≤ 40) ∧ (∀ (r27 : Int) (g28 : yM), (r27 = g 91 (Int.toNat w25)) → (g 91 (Int.toNat w25) = v26 → g28 = g) → (g 91 (Int.toNat w25) ≠ v26 → g28 = ybec g w25 v26) → (K [(1, r27)] g28)))))))) ∧ (¬ (r12 ≠ 0) → (K [(1, (-1))] g)))))) ∧ (¬ (a ≠ 1) → (∃ (v30 a31 b32 : Int), [(2, v), (2, 0), (2, 30)] = [(2, v30), (2, a31), (2, b32)] ∧ (∀ (r33 : Int), ((r33 = 1 ∧ a31 ≤ v30 ∧ v30 ≤ b32) ∨ (r33 = 0 ∧ (v30 < a31 ∨ b32 < v30))) → ((r33 ≠ 0 → ((a ≠ 0 → ((a ≠ 1 → ((a ≠ 0 → (K [(1, (g 90 11))] (yset g 90 11 v))) ∧ (¬ (a ≠ 0) → (K [(1, (g 90 11))] (yset g 90 10 v))))) ∧ (¬ (a ≠ 1) → (∃ (w39 v40 : Int), [(3, 90), (1, 52), (1, v)] = [(3, 90), (1, w39), (1, v40)] ∧ (0 ≤ w39 ∧ w39 < 53) ∧ (0 ≤ g 90 5 ∧ g 90 5 ≤ 40) ∧ (∀ (r41 : Int) (g42 : yM), (r41 = g 91 (Int.toNat w39)) → (g 91 (Int.toNat w39) = v40 → g42 = g) → (g 91 (Int.toNat w39) ≠ v40 → g42 = ybec g w39 v40) → (K [(1, r41)] g42)))))) ∧ (¬ (a ≠ 0) → ((a ≠ 1 → ((a ≠ 0 → (K [(1, (g 90 10))] (yset g 90 11 v))) ∧ (¬ (a ≠ 0) → (K [(1, (g 90 10))] (yset g 90 10 v))))) ∧ (¬ (a ≠ 1) → (∃ (w46 v47 : Int), [(3, 90), (1, 52), (1, v)] = [(3, 90), (1, w46), (1, v47)] ∧ (0 ≤ w46 ∧ w46 < 53) ∧ (0 ≤ g 90 5 ∧ g 90 5 ≤ 40) ∧ (∀ (r48 : Int) (g49 : yM), (r48 = g 91 (Int.toNat w46)) → (g 91 (Int.toNat w46) = v47 → g49 = g) → (g 91 (Int.toNat w46) ≠ v47 → g49 = ybec g w46 v47) → (K [(1, r48)] g49)))))))) ∧ (¬ (r33 ≠ 0) → (K [(1, (-1))] g)))))))) ∧ (¬ (a ≠ 0) → (∃ (v51 a52 b53 : Int), [(2, v), (2, 0), (2, 3)] = [(2, v51), (2, a52), (2, b53)] ∧ (∀ (r54 : Int), ((r54 = 1 ∧ a52 ≤ v51 ∧ v51 ≤ b53) ∨ (r54 = 0 ∧ (v51 < a52 ∨ b53 < v51))) → ((r54 ≠ 0 → ((a ≠ 0 → ((a ≠ 1 → ((a ≠ 0 → (K [(1, (g 90 11))] (yset g 90 11 v))) ∧ (¬ (a ≠ 0) → (K [(1, (g 90 11))] (yset g 90 10 v))))) ∧ (¬ (a ≠ 1) → (∃ (w60 v61 : Int), [(3, 90), (1, 52), (1, v)] = [(3, 90), (1, w60), (1, v61)] ∧ (0 ≤ w60 ∧ w60 < 53) ∧ (0 ≤ g 90 5 ∧ g 90 5 ≤ 40) ∧ (∀ (r62 : Int) (g63 : yM), (r62 = g 91 (Int.toNat w60)) → (g 91 (Int.toNat w60) = v61 → g63 = g) → (g 91 (Int.toNat w60) ≠ v61 → g63 = ybec g w60 v61) → (K [(1, r62)] g63)))))) ∧ (¬ (a ≠ 0) → ((a ≠ 1 → ((a ≠ 0 → (K [(1, (g 90 10))] (yset g 90 11 v))) ∧ (¬ (a ≠ 0) → (K [(1, (g 90 10))] (yset g 90 10 v))))) ∧ (¬ (a ≠ 1) → (∃ (w67 v68 : Int), [(3, 90), (1, 52), (1, v)] = [(3, 90), (1, w67), (1, v68)] ∧ (0 ≤ w67 ∧ w67 < 53) ∧ (0 ≤ g 90 5 ∧ g 90 5 ≤ 40) ∧ (∀ (r69 : Int) (g70 : yM), (r69 = g 91 (Int.toNat w67)) → (g 91 (Int.toNat w67) = v68 → g70 = g) → (g 91 (Int.toNat w67) ≠ v68 → g70 = ybec g w67 v68) → (K [(1, r69)] g70)))))))) ∧ (¬ (r54 ≠ 0) → (K [(1, (-1))] g)))))))))))
  refine ⟨_, _, _, rfl, ?_⟩
  intro r4 p50
  refine ⟨fun h6 => ?_, fun h6 => ?_⟩
  · exact hK _ _ (fun _ => ⟨rfl, rfl⟩) (fun h => absurd h (by omega)) (fun h => absurd h (by omega)) (fun h => absurd h (by omega))
  · refine ⟨fun h7 => ?_, fun h7 => ?_⟩
    · refine ⟨fun h8 => ?_, fun h8 => ?_⟩
      · refine ⟨_, _, _, rfl, ?_⟩
        intro r12 p130
        refine ⟨fun h14 => ?_, fun h14 => ?_⟩
        · refine ⟨fun h15 => ?_, fun h15 => ?_⟩
          · refine ⟨fun h16 => ?_, fun h16 => ?_⟩
            · refine ⟨fun h17 => ?_, fun h17 => ?_⟩
              · exact hK _ _ (fun h => absurd (by omega) h) (fun _ h => absurd h (by omega)) (fun _ _ => ⟨rfl, rfl⟩) (fun _ h => absurd h (by omega))
              · omega
            · refine ⟨_, _, rfl, (by omega), (by omega), ?_⟩
              intro r20 g21 p220 p221 p222
              exact hK _ _ (fun h => absurd (by omega) h) (fun _ h => absurd h (by omega)) (fun _ h => absurd h (by omega)) (fun _ _ => ⟨p220, p221, p222⟩)
          · refine ⟨fun h23 => ?_, fun h23 => ?_⟩
            · refine ⟨fun h24 => ?_, fun h24 => ?_⟩
              · omega
              · exact hK _ _ (fun h => absurd (by omega) h) (fun _ _ => ⟨rfl, rfl⟩) (fun _ h => absurd h (by omega)) (fun _ h => absurd h (by omega))
            · refine ⟨_, _, rfl, (by omega), (by omega), ?_⟩
              intro r27 g28 p290 p291 p292
              exact hK _ _ (fun h => absurd (by omega) h) (fun _ h => absurd h (by omega)) (fun _ h => absurd h (by omega)) (fun _ _ => ⟨p290, p291, p292⟩)
        · exact hK _ _ (fun _ => ⟨rfl, rfl⟩) (fun h => absurd h (by omega)) (fun h => absurd h (by omega)) (fun h => absurd h (by omega))
      · refine ⟨_, _, _, rfl, ?_⟩
        intro r33 p340
        refine ⟨fun h35 => ?_, fun h35 => ?_⟩
        · refine ⟨fun h36 => ?_, fun h36 => ?_⟩
          · refine ⟨fun h37 => ?_, fun h37 => ?_⟩
            · refine ⟨fun h38 => ?_, fun h38 => ?_⟩
              · exact hK _ _ (fun h => absurd (by omega) h) (fun _ h => absurd h (by omega)) (fun _ _ => ⟨rfl, rfl⟩) (fun _ h => absurd h (by omega))
              · omega
            · refine ⟨_, _, rfl, (by omega), (by omega), ?_⟩
              intro r41 g42 p430 p431 p432
              exact hK _ _ (fun h => absurd (by omega) h) (fun _ h => absurd h (by omega)) (fun _ h => absurd h (by omega)) (fun _ _ => ⟨p430, p431, p432⟩)
          · refine ⟨fun h44 => ?_, fun h44 => ?_⟩
            · refine ⟨fun h45 => ?_, fun h45 => ?_⟩
              · omega
              · exact hK _ _ (fun h => absurd (by omega) h) (fun _ _ => ⟨rfl, rfl⟩) (fun _ h => absurd h (by omega)) (fun _ h => absurd h (by omega))
            · refine ⟨_, _, rfl, (by omega), (by omega), ?_⟩
              intro r48 g49 p500 p501 p502
              exact hK _ _ (fun h => absurd (by omega) h) (fun _ h => absurd h (by omega)) (fun _ h => absurd h (by omega)) (fun _ _ => ⟨p500, p501, p502⟩)
        · exact hK _ _ (fun _ => ⟨rfl, rfl⟩) (fun h => absurd h (by omega)) (fun h => absurd h (by omega)) (fun h => absurd h (by omega))
    · refine ⟨_, _, _, rfl, ?_⟩
      intro r54 p550
      refine ⟨fun h56 => ?_, fun h56 => ?_⟩
      · refine ⟨fun h57 => ?_, fun h57 => ?_⟩
        · refine ⟨fun h58 => ?_, fun h58 => ?_⟩
          · refine ⟨fun h59 => ?_, fun h59 => ?_⟩
            · exact hK _ _ (fun h => absurd (by omega) h) (fun _ h => absurd h (by omega)) (fun _ _ => ⟨rfl, rfl⟩) (fun _ h => absurd h (by omega))
            · omega
          · refine ⟨_, _, rfl, (by omega), (by omega), ?_⟩
            intro r62 g63 p640 p641 p642
            exact hK _ _ (fun h => absurd (by omega) h) (fun _ h => absurd h (by omega)) (fun _ h => absurd h (by omega)) (fun _ _ => ⟨p640, p641, p642⟩)
        · refine ⟨fun h65 => ?_, fun h65 => ?_⟩
          · refine ⟨fun h66 => ?_, fun h66 => ?_⟩
            · omega
            · exact hK _ _ (fun h => absurd (by omega) h) (fun _ _ => ⟨rfl, rfl⟩) (fun _ h => absurd h (by omega)) (fun _ h => absurd h (by omega))
          · refine ⟨_, _, rfl, (by omega), (by omega), ?_⟩
            intro r69 g70 p710 p711 p712
            exact hK _ _ (fun h => absurd (by omega) h) (fun _ h => absurd h (by omega)) (fun _ h => absurd h (by omega)) (fun _ _ => ⟨p710, p711, p712⟩)
      · exact hK _ _ (fun _ => ⟨rfl, rfl⟩) (fun h => absurd h (by omega)) (fun h => absurd h (by omega)) (fun h => absurd h (by omega))
theorem yM_MYA {l : Launch} {Ts : List Cond} {cl : List vw_C} {RO : zRO} (H : zHyp Ts cl RO) : yMet l Ts cl zpZ RO zpMT yC_MYA := ymet_of2 H.1 H.2.1 zpDj H.2.2.1 yRb H.p12 (ymets_cons (yM_WM H) (ymets_cons (yM_BE H) ymets_nil)) (zrc1 rfl) (plainFor_of_name zpy12) zpDk215 (fun as g K Y h hA hY => by
  obtain ⟨a, v, rfl, hp0, hK⟩ := h
  exact yv_MYA hY (yAr1 hA (by simp)) (yAr1 hA (by simp)) hp0 hK)
def yP_MIC : yPT := fun as g K => ∃ (w : Int), as = [(3, 90), (1, w)] ∧ (0 ≤ g 90 22 ∧ g 90 22 ≤ 40) ∧ (∀ (r : Int), ((r = 1 ∧ 0 ≤ w ∧ w < g 90 22) ∨ (r = 0 ∧ (w < 0 ∨ g 90 22 ≤ w))) → K [(1, r)] g)
def yC_MIC : yC := (164, (2, 65), yP_MIC)
set_option maxRecDepth 8000 in
theorem yv_MIC {K : List yV → yM → Prop} {Y : yNx} {g : yM} {w : Int} (hY : yCl zpD164 (zpZ, zpRS, zpP12, zpMT, [yC_WM], (2, 65), 2) K Y) (hr_w : -2147483648 ≤ w ∧ w ≤ 2147483647) (hp0 : 0 ≤ g 90 22 ∧ g 90 22 ≤ 40) (hK : ∀ (r : Int), ((r = 1 ∧ 0 ≤ w ∧ w < g 90 22) ∨ (r = 0 ∧ (w < 0 ∨ g 90 22 ≤ w))) → K [(1, r)] g) : Y 0 [(3, 90), (1, w)] [] g := by
  refine yrun_ok (sp := fun pc => false) hY 10 0 _ [] g ?_
  show (∃ (v1 a2 b3 : Int), [(2, w), (2, 0), (2, (yw ((g 90 22) - 1)))] = [(2, v1), (2, a2), (2, b3)] ∧ (∀ (r4 : Int), ((r4 = 1 ∧ a2 ≤ v1 ∧ v1 ≤ b3) ∨ (r4 = 0 ∧ (v1 < a2 ∨ b3 < v1))) → (((0 : Int) ≤ r4 ∧ r4 ≤ (1 : Int)) ∧ (K [(1, r4)] g))))
  refine ⟨_, _, _, rfl, ?_⟩
  intro r4 p50
  refine ⟨(by have := yw_s ((g 90 22) - 1); omega), ?_⟩
  have := yw_s ((g 90 22) - 1)
  exact hK _ (by first | omega | exact fun _ => rfl | exact fun h => absurd h (by omega) | exact rfl | exact fun _ _ => rfl | exact fun h _ => absurd h (by omega) | exact fun _ h => absurd h (by omega))
theorem yM_MIC {l : Launch} {Ts : List Cond} {cl : List vw_C} {RO : zRO} (H : zHyp Ts cl RO) : yMet l Ts cl zpZ RO zpMT yC_MIC := ymet_of2 H.1 H.2.1 zpDj H.2.2.1 yRb H.p12 (ymets_cons (yM_WM H) ymets_nil) (zrc2 rfl) (plainFor_of_name zpy12) zpDk164 (fun as g K Y h hA hY => by
  obtain ⟨w, rfl, hp0, hK⟩ := h
  exact yv_MIC hY (yAr1 hA (by simp)) hp0 hK)
def yP_MCA : yPT := fun as g K => ∃ (w v : Int), as = [(3, 90), (1, w), (1, v)] ∧ (0 ≤ g 90 5 ∧ g 90 5 ≤ 40) ∧ (0 ≤ g 90 22 ∧ g 90 22 ≤ 40) ∧ (∀ (r : Int) (g' : yM), (¬ (0 ≤ w ∧ w < g 90 22 ∧ 0 ≤ v ∧ v < g 102 (Int.toNat w)) → r = -1 ∧ g' = g) → ((0 ≤ w ∧ w < g 90 22 ∧ 0 ≤ v ∧ v < g 102 (Int.toNat w)) → r = g 91 (Int.toNat (w)) ∧ (g 91 (Int.toNat (w)) = v → g' = g) ∧ (g 91 (Int.toNat (w)) ≠ v → g' = ybec g (w) v)) → K [(1, r)] g')
def yC_MCA : yC := (143, (3, 86), yP_MCA)
set_option maxRecDepth 8000 in
theorem yv_MCA {K : List yV → yM → Prop} {Y : yNx} {g : yM} {w v : Int} (hY : yCl zpD143 (zpZ, zpRS, zpP12, zpMT, [yC_MIC, yC_BE], (3, 86), 1) K Y) (hr_w : -2147483648 ≤ w ∧ w ≤ 2147483647) (hr_v : -2147483648 ≤ v ∧ v ≤ 2147483647) (hp0 : 0 ≤ g 90 5 ∧ g 90 5 ≤ 40) (hp1 : 0 ≤ g 90 22 ∧ g 90 22 ≤ 40) (hK : ∀ (r : Int) (g' : yM), (¬ (0 ≤ w ∧ w < g 90 22 ∧ 0 ≤ v ∧ v < g 102 (Int.toNat w)) → r = -1 ∧ g' = g) → ((0 ≤ w ∧ w < g 90 22 ∧ 0 ≤ v ∧ v < g 102 (Int.toNat w)) → r = g 91 (Int.toNat (w)) ∧ (g 91 (Int.toNat (w)) = v → g' = g) ∧ (g 91 (Int.toNat (w)) ≠ v → g' = ybec g (w) v)) → K [(1, r)] g') : Y 0 [(3, 90), (1, w), (1, v)] [] g := by
  refine yrun_ok (sp := fun pc => false) hY 18 0 _ [] g ?_
  show (∃ (w1 : Int), [(3, 90), (1, w)] = [(3, 90), (1, w1)] ∧ (0 ≤ g 90 22 ∧ g 90 22 ≤ 40) ∧ (∀ (r2 : Int), ((r2 = 1 ∧ 0 ≤ w1 ∧ w1 < g 90 22) ∨ (r2 = 0 ∧ (w1 < 0 ∨ g 90 22 ≤ w1))) → ((r2 = 0 → (K [(1, (-1))] g)) ∧ (¬ (r2 = 0) → ((v < 0 → (K [(1, (-1))] g)) ∧ (¬ (v < 0) → (((0 : Int) ≤ w ∧ w < ((40 : Nat) : Int)) ∧ (((g 102 (Int.toNat w)) ≤ v → (K [(1, (-1))] g)) ∧ (¬ ((g 102 (Int.toNat w)) ≤ v) → (∃ (w7 v8 : Int), [(3, 90), (1, w), (1, v)] = [(3, 90), (1, w7), (1, v8)] ∧ (0 ≤ w7 ∧ w7 < 53) ∧ (0 ≤ g 90 5 ∧ g 90 5 ≤ 40) ∧ (∀ (r9 : Int) (g10 : yM), (r9 = g 91 (Int.toNat w7)) → (g 91 (Int.toNat w7) = v8 → g10 = g) → (g 91 (Int.toNat w7) ≠ v8 → g10 = ybec g w7 v8) → (K [(1, r9)] g10))))))))))))
  refine ⟨_, rfl, (by omega), ?_⟩
  intro r2 p30
  refine ⟨fun h4 => ?_, fun h4 => ?_⟩
  · exact hK _ _ (fun _ => ⟨rfl, rfl⟩) (fun h => absurd h (by omega))
  · refine ⟨fun h5 => ?_, fun h5 => ?_⟩
    · exact hK _ _ (fun _ => ⟨rfl, rfl⟩) (fun h => absurd h (by omega))
    · refine ⟨(by omega), ?_⟩
      refine ⟨fun h6 => ?_, fun h6 => ?_⟩
      · exact hK _ _ (fun _ => ⟨rfl, rfl⟩) (fun h => absurd h (by omega))
      · refine ⟨_, _, rfl, (by omega), (by omega), ?_⟩
        intro r9 g10 p110 p111 p112
        exact hK _ _ (fun h => absurd (by omega) h) (fun _ => ⟨p110, p111, p112⟩)
theorem yM_MCA {l : Launch} {Ts : List Cond} {cl : List vw_C} {RO : zRO} (H : zHyp Ts cl RO) : yMet l Ts cl zpZ RO zpMT yC_MCA := ymet_of2 H.1 H.2.1 zpDj H.2.2.1 yRb H.p12 (ymets_cons (yM_MIC H) (ymets_cons (yM_BE H) ymets_nil)) (zrc1 rfl) (plainFor_of_name zpy12) zpDk143 (fun as g K Y h hA hY => by
  obtain ⟨w, v, rfl, hp0, hp1, hK⟩ := h
  exact yv_MCA hY (yAr1 hA (by simp)) (yAr1 hA (by simp)) hp0 hp1 hK)
