/-! SHIFT OF THE REFERENCE -/
def yP_MS : yPT := fun as g K => ∃ (p i q j n : Int), as = [(3, 90), (1, p), (1, i), (1, q), (1, j), (1, n)] ∧ (∀ p : Int, 0 ≤ p → p < 6 → 0 ≤ g 122 (Int.toNat p) ∧ g 122 (Int.toNat p) ≤ 60) ∧ (∀ (r : Int) (g' : yM), (∃ r0 : Int, ((r0 = -1 ∧ ¬ (0 ≤ p ∧ p < 6 ∧ 0 ≤ q ∧ q < 6)) ∨ ((0 ≤ p ∧ p < 6 ∧ 0 ≤ q ∧ q < 6) ∧ ((r0 = -11 ∧ (g 121 (Int.toNat p) < 0 ∨ g 121 (Int.toNat q) < 0)) ∨ (0 ≤ g 121 (Int.toNat p) ∧ 0 ≤ g 121 (Int.toNat q) ∧ ((r0 = -12 ∧ (g 121 (Int.toNat p) < 20 ∨ g 121 (Int.toNat p) ≠ g 121 (Int.toNat q))) ∨ (20 ≤ g 121 (Int.toNat p) ∧ g 121 (Int.toNat p) = g 121 (Int.toNat q) ∧ ((r0 = -13 ∧ ¬ (0 ≤ n ∧ 0 ≤ i ∧ 0 ≤ j ∧ i + n ≤ g 122 (Int.toNat p) ∧ j + n ≤ g 122 (Int.toNat q))) ∨ (r0 = 0 ∧ (0 ≤ n ∧ 0 ≤ i ∧ 0 ≤ j ∧ i + n ≤ g 122 (Int.toNat p) ∧ j + n ≤ g 122 (Int.toNat q)))))))))) ∧ (r0 ≠ 0 → r = r0 ∧ g' = g) ∧ (r0 = 0 → r = n ∧ g' = ycpy (ycpy g 124 123 (Int.toNat (60 * p + i)) 0 (Int.toNat n)) 123 124 0 (Int.toNat (60 * q + j)) (Int.toNat n))) → K [(1, r)] g')
def yC_MS : yC := (197, (3, 85), yP_MS)
set_option maxRecDepth 8000 in
theorem yl_MS2 {K : List yV → yM → Prop} {Y : yNx} {g : yM} {p i q j n : Int} (hY : yCl zpD197 (zpZ, zpRS, zpP12, zpMT, [yC_IS], (3, 85), 1) K Y) (hb : 0 ≤ p ∧ p < 6 ∧ 0 ≤ q ∧ q < 6 ∧ 0 ≤ n ∧ 0 ≤ i ∧ 0 ≤ j ∧ i + n ≤ 60 ∧ j + n ≤ 60) (hK : K [(1, n)] (ycpy g 123 124 0 (Int.toNat (60 * q + j)) (Int.toNat n))) : ∀ (d : Nat) (t : Int), t + d = n → 0 ≤ t → Y 150 [(3, 90), (1, p), (1, i), (1, q), (1, j), (1, n), (1, t)] [] (ycpy g 123 124 0 (Int.toNat (60 * q + j)) (Int.toNat t)) := by
  intro d
  induction d with
  | zero =>
    intro t hi h0
    refine yrun_ok (sp := fun pc => Nat.beq pc 150) hY 20 150 _ [] (ycpy g 123 124 0 (Int.toNat (60 * q + j)) (Int.toNat t)) ?_
    show ((n ≤ t → (K [(1, n)] (ycpy g 123 124 0 (Int.toNat (60 * q + j)) (Int.toNat t)))) ∧ (¬ (n ≤ t) → (((0 : Int) ≤ t ∧ t < ((60 : Nat) : Int)) ∧ (((0 : Int) ≤ (yw ((yw ((yw (60 * q)) + j)) + t)) ∧ (yw ((yw ((yw (60 * q)) + j)) + t)) < ((360 : Nat) : Int)) ∧ (Y 150 [(3, 90), (1, p), (1, i), (1, q), (1, j), (1, n), (1, (yw (t + 1)))] [] (yset (ycpy g 123 124 0 (Int.toNat (60 * q + j)) (Int.toNat t)) 123 (Int.toNat (yw ((yw ((yw (60 * q)) + j)) + t))) ((ycpy g 123 124 0 (Int.toNat (60 * q + j)) (Int.toNat t)) 124 (Int.toNat t))))))))
    refine ⟨fun h1 => ?_, fun h1 => ?_⟩
    · have e : t = n := by omega
      subst e
      exact hK
    · refine ⟨(by omega), ?_⟩
      refine ⟨(by have := yw_s ((yw ((yw (60 * q)) + j)) + t); have := yw_s ((yw (60 * q)) + j); have := yw_s (60 * q); omega), ?_⟩
      omega
  | succ d ih =>
    intro t hi h0
    refine yrun_ok (sp := fun pc => Nat.beq pc 150) hY 20 150 _ [] (ycpy g 123 124 0 (Int.toNat (60 * q + j)) (Int.toNat t)) ?_
    show ((n ≤ t → (K [(1, n)] (ycpy g 123 124 0 (Int.toNat (60 * q + j)) (Int.toNat t)))) ∧ (¬ (n ≤ t) → (((0 : Int) ≤ t ∧ t < ((60 : Nat) : Int)) ∧ (((0 : Int) ≤ (yw ((yw ((yw (60 * q)) + j)) + t)) ∧ (yw ((yw ((yw (60 * q)) + j)) + t)) < ((360 : Nat) : Int)) ∧ (Y 150 [(3, 90), (1, p), (1, i), (1, q), (1, j), (1, n), (1, (yw (t + 1)))] [] (yset (ycpy g 123 124 0 (Int.toNat (60 * q + j)) (Int.toNat t)) 123 (Int.toNat (yw ((yw ((yw (60 * q)) + j)) + t))) ((ycpy g 123 124 0 (Int.toNat (60 * q + j)) (Int.toNat t)) 124 (Int.toNat t))))))))
    refine ⟨fun h1 => ?_, fun h1 => ?_⟩
    · omega
    · refine ⟨(by omega), ?_⟩
      refine ⟨(by have := yw_s ((yw ((yw (60 * q)) + j)) + t); have := yw_s ((yw (60 * q)) + j); have := yw_s (60 * q); omega), ?_⟩
      rw [show ((ycpy g 123 124 0 (Int.toNat (60 * q + j)) (Int.toNat t)) 124 (Int.toNat t)) = (g 124 (Int.toNat t)) from by simp [yset_ap, ycpy_ap]]
      rw [show (yw (t + 1)) = (t + 1) from by have := yw_s (t + 1); omega]
      rw [show (yw ((yw ((yw (60 * q)) + j)) + t)) = (((60 * q) + j) + t) from by have := yw_s ((yw ((yw (60 * q)) + j)) + t); have := yw_s ((yw (60 * q)) + j); have := yw_s (60 * q); omega]
      have e2 := ycpy_step g 123 124 0 (Int.toNat (60 * q + j)) (Int.toNat t)
      rw [show 0 + Int.toNat t = Int.toNat t by omega, show Int.toNat (60 * q + j) + Int.toNat t = Int.toNat (60 * q + j + t) by omega, show Int.toNat t + 1 = Int.toNat (t + 1) by omega] at e2
      rw [e2]
      exact ih (t + 1) (by omega) (by omega)
set_option maxRecDepth 8000 in
theorem yl_MS1 {K : List yV → yM → Prop} {Y : yNx} {g : yM} {p i q j n : Int} (hY : yCl zpD197 (zpZ, zpRS, zpP12, zpMT, [yC_IS], (3, 85), 1) K Y) (hb : 0 ≤ p ∧ p < 6 ∧ 0 ≤ q ∧ q < 6 ∧ 0 ≤ n ∧ 0 ≤ i ∧ 0 ≤ j ∧ i + n ≤ 60 ∧ j + n ≤ 60) (hK : Y 150 [(3, 90), (1, p), (1, i), (1, q), (1, j), (1, n), (1, 0)] [] (ycpy g 124 123 (Int.toNat (60 * p + i)) 0 (Int.toNat n))) : ∀ (d : Nat) (t : Int), t + d = n → 0 ≤ t → Y 113 [(3, 90), (1, p), (1, i), (1, q), (1, j), (1, n), (1, t)] [] (ycpy g 124 123 (Int.toNat (60 * p + i)) 0 (Int.toNat t)) := by
  intro d
  induction d with
  | zero =>
    intro t hi h0
    refine yrun_ok (sp := fun pc => Nat.beq pc 113 || Nat.beq pc 150) hY 20 113 _ [] (ycpy g 124 123 (Int.toNat (60 * p + i)) 0 (Int.toNat t)) ?_
    show ((n ≤ t → (Y 150 [(3, 90), (1, p), (1, i), (1, q), (1, j), (1, n), (1, 0)] [] (ycpy g 124 123 (Int.toNat (60 * p + i)) 0 (Int.toNat t)))) ∧ (¬ (n ≤ t) → (((0 : Int) ≤ (yw ((yw ((yw (60 * p)) + i)) + t)) ∧ (yw ((yw ((yw (60 * p)) + i)) + t)) < ((360 : Nat) : Int)) ∧ (((0 : Int) ≤ t ∧ t < ((60 : Nat) : Int)) ∧ (Y 113 [(3, 90), (1, p), (1, i), (1, q), (1, j), (1, n), (1, (yw (t + 1)))] [] (yset (ycpy g 124 123 (Int.toNat (60 * p + i)) 0 (Int.toNat t)) 124 (Int.toNat t) ((ycpy g 124 123 (Int.toNat (60 * p + i)) 0 (Int.toNat t)) 123 (Int.toNat (yw ((yw ((yw (60 * p)) + i)) + t))))))))))
    refine ⟨fun h1 => ?_, fun h1 => ?_⟩
    · have e : t = n := by omega
      subst e
      exact hK
    · refine ⟨(by have := yw_s ((yw ((yw (60 * p)) + i)) + t); have := yw_s ((yw (60 * p)) + i); have := yw_s (60 * p); omega), ?_⟩
      refine ⟨(by omega), ?_⟩
      omega
  | succ d ih =>
    intro t hi h0
    refine yrun_ok (sp := fun pc => Nat.beq pc 113 || Nat.beq pc 150) hY 20 113 _ [] (ycpy g 124 123 (Int.toNat (60 * p + i)) 0 (Int.toNat t)) ?_
    show ((n ≤ t → (Y 150 [(3, 90), (1, p), (1, i), (1, q), (1, j), (1, n), (1, 0)] [] (ycpy g 124 123 (Int.toNat (60 * p + i)) 0 (Int.toNat t)))) ∧ (¬ (n ≤ t) → (((0 : Int) ≤ (yw ((yw ((yw (60 * p)) + i)) + t)) ∧ (yw ((yw ((yw (60 * p)) + i)) + t)) < ((360 : Nat) : Int)) ∧ (((0 : Int) ≤ t ∧ t < ((60 : Nat) : Int)) ∧ (Y 113 [(3, 90), (1, p), (1, i), (1, q), (1, j), (1, n), (1, (yw (t + 1)))] [] (yset (ycpy g 124 123 (Int.toNat (60 * p + i)) 0 (Int.toNat t)) 124 (Int.toNat t) ((ycpy g 124 123 (Int.toNat (60 * p + i)) 0 (Int.toNat t)) 123 (Int.toNat (yw ((yw ((yw (60 * p)) + i)) + t))))))))))
    refine ⟨fun h1 => ?_, fun h1 => ?_⟩
    · omega
    · refine ⟨(by have := yw_s ((yw ((yw (60 * p)) + i)) + t); have := yw_s ((yw (60 * p)) + i); have := yw_s (60 * p); omega), ?_⟩
      refine ⟨(by omega), ?_⟩
      rw [show ((ycpy g 124 123 (Int.toNat (60 * p + i)) 0 (Int.toNat t)) 123 (Int.toNat (yw ((yw ((yw (60 * p)) + i)) + t)))) = (g 123 (Int.toNat (yw ((yw ((yw (60 * p)) + i)) + t)))) from by simp [yset_ap, ycpy_ap]]
      rw [show (yw (t + 1)) = (t + 1) from by have := yw_s (t + 1); omega]
      rw [show (yw ((yw ((yw (60 * p)) + i)) + t)) = (((60 * p) + i) + t) from by have := yw_s ((yw ((yw (60 * p)) + i)) + t); have := yw_s ((yw (60 * p)) + i); have := yw_s (60 * p); omega]
      have e2 := ycpy_step g 124 123 (Int.toNat (60 * p + i)) 0 (Int.toNat t)
      rw [show 0 + Int.toNat t = Int.toNat t by omega, show Int.toNat (60 * p + i) + Int.toNat t = Int.toNat (60 * p + i + t) by omega, show Int.toNat t + 1 = Int.toNat (t + 1) by omega] at e2
      rw [e2]
      exact ih (t + 1) (by omega) (by omega)
set_option maxRecDepth 8000 in
theorem yv_MS {K : List yV → yM → Prop} {Y : yNx} {g : yM} {p i q j n : Int} (hY : yCl zpD197 (zpZ, zpRS, zpP12, zpMT, [yC_IS], (3, 85), 1) K Y) (hr_p : -2147483648 ≤ p ∧ p ≤ 2147483647) (hr_i : -2147483648 ≤ i ∧ i ≤ 2147483647) (hr_q : -2147483648 ≤ q ∧ q ≤ 2147483647) (hr_j : -2147483648 ≤ j ∧ j ≤ 2147483647) (hr_n : -2147483648 ≤ n ∧ n ≤ 2147483647) (hp0 : ∀ p : Int, 0 ≤ p → p < 6 → 0 ≤ g 122 (Int.toNat p) ∧ g 122 (Int.toNat p) ≤ 60) (hK : ∀ (r : Int) (g' : yM), (∃ r0 : Int, ((r0 = -1 ∧ ¬ (0 ≤ p ∧ p < 6 ∧ 0 ≤ q ∧ q < 6)) ∨ ((0 ≤ p ∧ p < 6 ∧ 0 ≤ q ∧ q < 6) ∧ ((r0 = -11 ∧ (g 121 (Int.toNat p) < 0 ∨ g 121 (Int.toNat q) < 0)) ∨ (0 ≤ g 121 (Int.toNat p) ∧ 0 ≤ g 121 (Int.toNat q) ∧ ((r0 = -12 ∧ (g 121 (Int.toNat p) < 20 ∨ g 121 (Int.toNat p) ≠ g 121 (Int.toNat q))) ∨ (20 ≤ g 121 (Int.toNat p) ∧ g 121 (Int.toNat p) = g 121 (Int.toNat q) ∧ ((r0 = -13 ∧ ¬ (0 ≤ n ∧ 0 ≤ i ∧ 0 ≤ j ∧ i + n ≤ g 122 (Int.toNat p) ∧ j + n ≤ g 122 (Int.toNat q))) ∨ (r0 = 0 ∧ (0 ≤ n ∧ 0 ≤ i ∧ 0 ≤ j ∧ i + n ≤ g 122 (Int.toNat p) ∧ j + n ≤ g 122 (Int.toNat q)))))))))) ∧ (r0 ≠ 0 → r = r0 ∧ g' = g) ∧ (r0 = 0 → r = n ∧ g' = ycpy (ycpy g 124 123 (Int.toNat (60 * p + i)) 0 (Int.toNat n)) 123 124 0 (Int.toNat (60 * q + j)) (Int.toNat n))) → K [(1, r)] g') : Y 0 [(3, 90), (1, p), (1, i), (1, q), (1, j), (1, n), (0, 0)] [] g := by
  refine yrun_ok (sp := fun pc => Nat.beq pc 113) hY 56 0 _ [] g ?_
  show (∃ (d1 : Int), [(1, p)] = [(1, d1)] ∧ (∀ (r2 : Int), ((r2 = 1 ∧ 0 ≤ d1 ∧ d1 < 6) ∨ (r2 = 0 ∧ (d1 < 0 ∨ 6 ≤ d1))) → ((r2 = 0 → (K [(1, (-1))] g)) ∧ (¬ (r2 = 0) → (∃ (d5 : Int), [(1, q)] = [(1, d5)] ∧ (∀ (r6 : Int), ((r6 = 1 ∧ 0 ≤ d5 ∧ d5 < 6) ∨ (r6 = 0 ∧ (d5 < 0 ∨ 6 ≤ d5))) → ((r6 ≠ 0 → (((0 : Int) ≤ p ∧ p < ((6 : Nat) : Int)) ∧ (((g 121 (Int.toNat p)) < 0 → (K [(1, (-11))] g)) ∧ (¬ ((g 121 (Int.toNat p)) < 0) → (((0 : Int) ≤ q ∧ q < ((6 : Nat) : Int)) ∧ ((0 ≤ (g 121 (Int.toNat q)) → (((0 : Int) ≤ p ∧ p < ((6 : Nat) : Int)) ∧ (((g 121 (Int.toNat p)) < 20 → (K [(1, (-12))] g)) ∧ (¬ ((g 121 (Int.toNat p)) < 20) → (((0 : Int) ≤ p ∧ p < ((6 : Nat) : Int)) ∧ (((0 : Int) ≤ q ∧ q < ((6 : Nat) : Int)) ∧ (((g 121 (Int.toNat p)) = (g 121 (Int.toNat q)) → ((n < 0 → (K [(1, (-13))] g)) ∧ (¬ (n < 0) → ((i < 0 → (K [(1, (-13))] g)) ∧ (¬ (i < 0) → ((j < 0 → (K [(1, (-13))] g)) ∧ (¬ (j < 0) → (((0 : Int) ≤ p ∧ p < ((6 : Nat) : Int)) ∧ (((yw ((g 122 (Int.toNat p)) - n)) < i → (K [(1, (-13))] g)) ∧ (¬ ((yw ((g 122 (Int.toNat p)) - n)) < i) → (((0 : Int) ≤ q ∧ q < ((6 : Nat) : Int)) ∧ ((j ≤ (yw ((g 122 (Int.toNat q)) - n)) → (Y 113 [(3, 90), (1, p), (1, i), (1, q), (1, j), (1, n), (1, 0)] [] g)) ∧ (¬ (j ≤ (yw ((g 122 (Int.toNat q)) - n))) → (K [(1, (-13))] g)))))))))))))) ∧ (¬ ((g 121 (Int.toNat p)) = (g 121 (Int.toNat q))) → (K [(1, (-12))] g))))))))) ∧ (¬ (0 ≤ (g 121 (Int.toNat q))) → (K [(1, (-11))] g)))))))) ∧ (¬ (r6 ≠ 0) → (K [(1, (-1))] g)))))))))
  refine ⟨_, rfl, ?_⟩
  intro r2 p30
  refine ⟨fun h4 => ?_, fun h4 => ?_⟩
  · have := hp0 p
    have := hp0 q
    exact hK _ _ ⟨_, by omega, fun _ => ⟨rfl, rfl⟩, fun h => absurd h (by omega)⟩
  · refine ⟨_, rfl, ?_⟩
    intro r6 p70
    refine ⟨fun h8 => ?_, fun h8 => ?_⟩
    · refine ⟨(by have := hp0 p; have := hp0 q; omega), ?_⟩
      refine ⟨fun h9 => ?_, fun h9 => ?_⟩
      · have := hp0 p
        have := hp0 q
        exact hK _ _ ⟨_, by omega, fun _ => ⟨rfl, rfl⟩, fun h => absurd h (by omega)⟩
      · refine ⟨(by have := hp0 p; have := hp0 q; omega), ?_⟩
        refine ⟨fun h10 => ?_, fun h10 => ?_⟩
        · refine ⟨(by have := hp0 p; have := hp0 q; omega), ?_⟩
          refine ⟨fun h11 => ?_, fun h11 => ?_⟩
          · have := hp0 p
            have := hp0 q
            exact hK _ _ ⟨_, by omega, fun _ => ⟨rfl, rfl⟩, fun h => absurd h (by omega)⟩
          · refine ⟨(by have := hp0 p; have := hp0 q; omega), ?_⟩
            refine ⟨(by have := hp0 p; have := hp0 q; omega), ?_⟩
            refine ⟨fun h12 => ?_, fun h12 => ?_⟩
            · refine ⟨fun h13 => ?_, fun h13 => ?_⟩
              · have := hp0 p
                have := hp0 q
                exact hK _ _ ⟨_, by omega, fun _ => ⟨rfl, rfl⟩, fun h => absurd h (by omega)⟩
              · refine ⟨fun h14 => ?_, fun h14 => ?_⟩
                · have := hp0 p
                  have := hp0 q
                  exact hK _ _ ⟨_, by omega, fun _ => ⟨rfl, rfl⟩, fun h => absurd h (by omega)⟩
                · refine ⟨fun h15 => ?_, fun h15 => ?_⟩
                  · have := hp0 p
                    have := hp0 q
                    exact hK _ _ ⟨_, by omega, fun _ => ⟨rfl, rfl⟩, fun h => absurd h (by omega)⟩
                  · refine ⟨(by have := hp0 p; have := hp0 q; omega), ?_⟩
                    refine ⟨fun h16 => ?_, fun h16 => ?_⟩
                    · have := hp0 p
                      have := hp0 q
                      have := yw_s ((g 122 (Int.toNat p)) - n)
                      exact hK _ _ ⟨_, by omega, fun _ => ⟨rfl, rfl⟩, fun h => absurd h (by omega)⟩
                    · refine ⟨(by have := yw_s ((g 122 (Int.toNat p)) - n); have := hp0 p; have := hp0 q; omega), ?_⟩
                      refine ⟨fun h17 => ?_, fun h17 => ?_⟩
                      · have := hp0 p
                        have := hp0 q
                        have := yw_s ((g 122 (Int.toNat p)) - n)
                        have := yw_s ((g 122 (Int.toNat q)) - n)
                        have hb : 0 ≤ p ∧ p < 6 ∧ 0 ≤ q ∧ q < 6 ∧ 0 ≤ n ∧ 0 ≤ i ∧ 0 ≤ j ∧ i + n ≤ 60 ∧ j + n ≤ 60 := by omega
                        have k2 := yl_MS2 (g := ycpy g 124 123 (Int.toNat (60 * p + i)) 0 (Int.toNat n)) hY hb (hK _ _ ⟨0, by omega, fun h => absurd rfl h, fun _ => ⟨rfl, rfl⟩⟩) (Int.toNat n) 0 (by omega) (by omega)
                        rw [show Int.toNat 0 = 0 from rfl, ycpy_0] at k2
                        have k1 := yl_MS1 hY hb k2 (Int.toNat n) 0 (by omega) (by omega)
                        rw [show Int.toNat 0 = 0 from rfl, ycpy_0] at k1
                        exact k1
                      · have := hp0 p
                        have := hp0 q
                        have := yw_s ((g 122 (Int.toNat p)) - n)
                        have := yw_s ((g 122 (Int.toNat q)) - n)
                        exact hK _ _ ⟨_, by omega, fun _ => ⟨rfl, rfl⟩, fun h => absurd h (by omega)⟩
            · have := hp0 p
              have := hp0 q
              exact hK _ _ ⟨_, by omega, fun _ => ⟨rfl, rfl⟩, fun h => absurd h (by omega)⟩
        · have := hp0 p
          have := hp0 q
          exact hK _ _ ⟨_, by omega, fun _ => ⟨rfl, rfl⟩, fun h => absurd h (by omega)⟩
    · have := hp0 p
      have := hp0 q
      exact hK _ _ ⟨_, by omega, fun _ => ⟨rfl, rfl⟩, fun h => absurd h (by omega)⟩
theorem yM_MS {l : Launch} {Ts : List Cond} {cl : List vw_C} {RO : zRO} (H : zHyp Ts cl RO) : yMet l Ts cl zpZ RO zpMT yC_MS := ymet_of2 H.1 H.2.1 zpDj H.2.2.1 yRb H.p12 (ymets_cons (yM_IS H) ymets_nil) (zrc1 rfl) (plainFor_of_name zpy12) zpDk197 (fun as g K Y h hA hY => by
  obtain ⟨p, i, q, j, n, rfl, hp0, hK⟩ := h
  exact yv_MS hY (yAr1 hA (by simp)) (yAr1 hA (by simp)) (yAr1 hA (by simp)) (yAr1 hA (by simp)) (yAr1 hA (by simp)) hp0 hK)
