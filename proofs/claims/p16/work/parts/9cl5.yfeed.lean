/-! BYTES OF BOTH SIDES -/
theorem yand255 {x : Int} (h : -2147483648 ≤ x ∧ x ≤ 2147483647) : yb (fun x y => x &&& y) x 255 = x % 256 := by
  show (Int32.ofInt x &&& Int32.ofInt 255).toInt = _
  have e : (Int32.ofInt x).toInt = x := zofI h.1 h.2
  have h0 : (Int32.ofInt x &&& Int32.ofInt 255).toBitVec.toNat = (Int32.ofInt x).toBitVec.toNat % 256 := by
    rw [Int32.toBitVec_and, BitVec.toNat_and]
    exact Nat.and_two_pow_sub_one_eq_mod _ 8
  have h1 := znn' (x := Int32.ofInt x &&& Int32.ofInt 255) (by rw [h0]; omega)
  have h2 : (Int32.ofInt x).toInt = (Int32.ofInt x).toBitVec.toInt := rfl
  rw [BitVec.toInt_eq_toNat_cond] at h2
  have hl := (Int32.ofInt x).toBitVec.isLt
  rw [h1, h0]
  split at h2 <;> omega
theorem yshr_d {x : Int} (h : -2147483648 ≤ x ∧ x ≤ 2147483647) {i : Int} (hi : i = 0 ∨ i = 1 ∨ i = 2 ∨ i = 3) : yb (fun x y => x >>> (y &&& 31)) x (8 * i) = x / (if i = 0 then 1 else if i = 1 then 256 else if i = 2 then 65536 else 16777216) := by
  have e : (Int32.ofInt x).toInt = x := zofI h.1 h.2
  have key : ∀ n : Nat, n < 32 → ∀ s : Int32, (s &&& 31).toBitVec.smod 32 = BitVec.ofNat 32 n → (Int32.ofInt x >>> (s &&& 31)).toInt = x / ((2 ^ n : Nat) : Int) := fun n hn s hs => by
    show ((Int32.ofInt x).toBitVec.sshiftRight' ((s &&& 31).toBitVec.smod 32)).toInt = _
    rw [hs]
    show ((Int32.ofInt x).toBitVec.sshiftRight (BitVec.ofNat 32 n).toNat).toInt = _
    rw [BitVec.toInt_sshiftRight, BitVec.toNat_ofNat, Nat.mod_eq_of_lt (by omega), Int.shiftRight_eq_div_pow]
    rw [show (Int32.ofInt x).toBitVec.toInt = x from e]
  rcases hi with rfl | rfl | rfl | rfl
  · exact key 0 (by decide) (Int32.ofInt (8 * 0)) (by decide)
  · exact key 8 (by decide) (Int32.ofInt (8 * 1)) (by decide)
  · exact key 16 (by decide) (Int32.ofInt (8 * 2)) (by decide)
  · exact key 24 (by decide) (Int32.ofInt (8 * 3)) (by decide)
theorem yushr_d {x : Int} (h : -2147483648 ≤ x ∧ x ≤ 2147483647) {i : Int} (hi : i = 0 ∨ i = 1 ∨ i = 2 ∨ i = 3) : yb (fun x y => (x.toUInt32 >>> (y.toUInt32 &&& Int32.toUInt32 31)).toInt32) x (8 * i) % 256 = x / (if i = 0 then 1 else if i = 1 then 256 else if i = 2 then 65536 else 16777216) % 256 := by
  have e : (Int32.ofInt x).toInt = x := zofI h.1 h.2
  have h2 : (Int32.ofInt x).toInt = (Int32.ofInt x).toBitVec.toInt := rfl
  rw [BitVec.toInt_eq_toNat_cond] at h2
  have hl := (Int32.ofInt x).toBitVec.isLt
  have key : ∀ n : Nat, n < 32 → ∀ s : Int32, ((s.toUInt32 &&& Int32.toUInt32 31).toBitVec % 32).toNat = n → ∃ y : Int32, y = ((Int32.ofInt x).toUInt32 >>> (s.toUInt32 &&& Int32.toUInt32 31)).toInt32 ∧ y.toBitVec.toNat = (Int32.ofInt x).toBitVec.toNat / 2 ^ n := fun n hn s hs => by
    refine ⟨_, rfl, ?_⟩
    show ((Int32.ofInt x).toBitVec >>> ((s.toUInt32 &&& Int32.toUInt32 31).toBitVec % 32)).toNat = _
    rw [BitVec.ushiftRight_eq', BitVec.toNat_ushiftRight, hs, Nat.shiftRight_eq_div_pow]
  have fin : ∀ (n : Nat) (y : Int32), n = 1 ∨ n = 256 ∨ n = 65536 ∨ n = 16777216 → y.toBitVec.toNat = (Int32.ofInt x).toBitVec.toNat / n → y.toInt % 256 = x / (n : Int) % 256 := fun n y hn hy => by
    have h3 : y.toInt = y.toBitVec.toInt := rfl
    rw [BitVec.toInt_eq_toNat_cond, hy] at h3
    rcases hn with rfl | rfl | rfl | rfl <;> split at h3 <;> split at h2 <;> omega
  rcases hi with rfl | rfl | rfl | rfl
  · obtain ⟨y, y1, y2⟩ := key 0 (by decide) (Int32.ofInt (8 * 0)) (by decide)
    have := fin 1 y (by omega) y2
    rw [y1] at this
    exact this
  · obtain ⟨y, y1, y2⟩ := key 8 (by decide) (Int32.ofInt (8 * 1)) (by decide)
    have := fin 256 y (by omega) y2
    rw [y1] at this
    exact this
  · obtain ⟨y, y1, y2⟩ := key 16 (by decide) (Int32.ofInt (8 * 2)) (by decide)
    have := fin 65536 y (by omega) y2
    rw [y1] at this
    exact this
  · obtain ⟨y, y1, y2⟩ := key 24 (by decide) (Int32.ofInt (8 * 3)) (by decide)
    have := fin 16777216 y (by omega) y2
    rw [y1] at this
    exact this
/-- the i-th byte of a number: the class's, the reference's -/
def ybc (v : Int) (i : Nat) : Int := Int.bmod (yb (fun x y => (x.toUInt32 >>> (y.toUInt32 &&& Int32.toUInt32 31)).toInt32) v (8 * (i : Int))) 256
def ybm (v : Int) (i : Nat) : Int := yb (fun x y => x &&& y) (yb (fun x y => x >>> (y &&& 31)) v (8 * (i : Int))) 255
theorem ybcm {v : Int} (h : -2147483648 ≤ v ∧ v ≤ 2147483647) {i : Nat} (hi : i < 4) : ybm v i = yb (fun x y => x &&& y) (ybc v i) 255 := by
  have hi : (i : Int) = 0 ∨ (i : Int) = 1 ∨ (i : Int) = 2 ∨ (i : Int) = 3 := by omega
  have h1 := yb_rng (fun x y => x >>> (y &&& 31)) v (8 * (i : Int))
  have h2 : -128 ≤ ybc v i ∧ ybc v i < 128 := by
    unfold ybc
    have a := Int.le_bmod (x := yb (fun x y => (x.toUInt32 >>> (y.toUInt32 &&& Int32.toUInt32 31)).toInt32) v (8 * (i : Int))) (m := 256) (by decide)
    have b := Int.bmod_lt (x := yb (fun x y => (x.toUInt32 >>> (y.toUInt32 &&& Int32.toUInt32 31)).toInt32) v (8 * (i : Int))) (m := 256) (by decide)
    omega
  unfold ybm
  rw [yand255 h1, yand255 ⟨by omega, by omega⟩, yshr_d h hi]
  unfold ybc
  have hb : Int.bmod (yb (fun x y => (x.toUInt32 >>> (y.toUInt32 &&& Int32.toUInt32 31)).toInt32) v (8 * (i : Int))) 256 % 256 = yb (fun x y => (x.toUInt32 >>> (y.toUInt32 &&& Int32.toUInt32 31)).toInt32) v (8 * (i : Int)) % 256 := Int.bmod_emod
  rw [hb]
  exact (yushr_d h hi).symm
/-- so many bytes come: the length stands in q at f, the bytes in t -/
def yfd (q f t : Nat) (b : Nat → Int) : Nat → yM → yM
  | 0, g => g
  | n + 1, g => yset (yset (yfd q f t b n g) t (Int.toNat (yfd q f t b n g q f)) (b n)) q f (yfd q f t b n g q f + 1)
theorem yfd_f {q f t : Nat} {b : Nat → Int} : ∀ (n : Nat) (g : yM), yfd q f t b n g q f = g q f + n
  | 0, g => by show g q f = _; omega
  | n + 1, g => by
    have := yfd_f (q := q) (f := f) (t := t) (b := b) n g
    unfold yfd
    rw [yset_eq, this]
    omega
theorem yfd_nc {q f t : Nat} {b : Nat → Int} {a j : Nat} (h : a ≠ t ∧ ¬ (a = q ∧ j = f)) : ∀ (n : Nat) (g : yM), yfd q f t b n g a j = g a j
  | 0, g => rfl
  | n + 1, g => by
    have := yfd_nc (b := b) h n g
    unfold yfd
    rw [yset_ne h.2, yset_nc h.1, this]
theorem yfd_t {q f t : Nat} {b : Nat → Int} (h : t ≠ q) : ∀ (n : Nat) (g : yM), 0 ≤ g q f → ∀ j : Nat, yfd q f t b n g t j = if Int.toNat (g q f) ≤ j ∧ j < Int.toNat (g q f) + n then b (j - Int.toNat (g q f)) else g t j
  | 0, g, h0, j => by
    rw [if_neg (by omega)]
    rfl
  | n + 1, g, h0, j => by
    have ih := yfd_t (b := b) h n g h0 j
    have hf := yfd_f (q := q) (f := f) (t := t) (b := b) n g
    unfold yfd
    rw [yset_nc h, hf]
    by_cases e : j = Int.toNat (g q f + n)
    · rw [e, yset_eq, if_pos (by omega)]
      congr 1
      omega
    · rw [yset_nj e, ih]
      by_cases c : Int.toNat (g q f) ≤ j ∧ j < Int.toNat (g q f) + n
      · rw [if_pos c, if_pos (by omega)]
      · rw [if_neg c, if_neg (by omega)]
def yP_ADD : yPT := fun as g K => ∃ (n v : Int), as = [(3, 2), (1, n), (1, v)] ∧ (1 ≤ n ∧ n ≤ 4) ∧ (0 ≤ g 2 2) ∧ (g 2 2 + n ≤ 60) ∧ (∀ (g' : yM), (g' = yfd 2 2 18 (ybc v) (Int.toNat n) g) → K [] g')
def yC_ADD : yC := (102, (1, 40), yP_ADD)
set_option maxRecDepth 8000 in
theorem yl_ADD1 {K : List yV → yM → Prop} {Y : yNx} {g : yM} {v : Int} (hY : yCl zpD102 (zpZ, zpRS, zpP9, zpMT, [], (1, 40), 0) K Y) (h0 : 0 ≤ g 2 2) (h1 : g 2 2 + 1 ≤ 60) (hK : K [] (yfd 2 2 18 (ybc v) 1 g)) : Y 2 [(3, 2), (1, 1), (1, v), (1, 0)] [] g := by
  refine yrun_ok (sp := fun pc => false) hY 30 2 _ [] g ?_
  show ((1 ≤ (0 : Int) → _) ∧ (¬ 1 ≤ (0 : Int) → ((60 ≤ (g 2 2) → (K [] g)) ∧ (¬ (60 ≤ (g 2 2)) → (((0 : Int) ≤ (g 2 2) ∧ (g 2 2) < ((60 : Nat) : Int)) ∧ ((1 ≤ (1 : Int) → (K [] (yset (yset g 18 (Int.toNat (g 2 2)) (Int.bmod (Int.bmod (yb (fun x y => (x.toUInt32 >>> (y.toUInt32 &&& Int32.toUInt32 31)).toInt32) v 0) 256) 256)) 2 2 (yw ((g 2 2) + 1))))) ∧ (¬ 1 ≤ (1 : Int) → _)))))))
  refine ⟨fun h1 => absurd h1 (by decide), fun _ => ?_⟩
  refine ⟨fun h2 => ?_, fun h2 => ?_⟩
  · have w1 : yw (g 2 2 + 1) = g 2 2 + 1 := yw_s _ (by omega) (by omega)
    try simp only [Int.bmod_bmod, w1]
    omega
  · refine ⟨(by have w1 : yw (g 2 2 + 1) = g 2 2 + 1 := yw_s _ (by omega) (by omega); (try simp only [Int.bmod_bmod, w1]); omega), ?_⟩
    refine ⟨fun _ => ?_, fun h3 => absurd (by decide) h3⟩
    have w1 : yw (g 2 2 + 1) = g 2 2 + 1 := yw_s _ (by omega) (by omega)
    try simp only [Int.bmod_bmod, w1]
    exact hK
set_option maxRecDepth 8000 in
theorem yl_ADD2 {K : List yV → yM → Prop} {Y : yNx} {g : yM} {v : Int} (hY : yCl zpD102 (zpZ, zpRS, zpP9, zpMT, [], (1, 40), 0) K Y) (h0 : 0 ≤ g 2 2) (h1 : g 2 2 + 2 ≤ 60) (hK : K [] (yfd 2 2 18 (ybc v) 2 g)) : Y 2 [(3, 2), (1, 2), (1, v), (1, 0)] [] g := by
  refine yrun_ok (sp := fun pc => false) hY 56 2 _ [] g ?_
  show ((2 ≤ (0 : Int) → _) ∧ (¬ 2 ≤ (0 : Int) → ((60 ≤ (g 2 2) → (K [] g)) ∧ (¬ (60 ≤ (g 2 2)) → (((0 : Int) ≤ (g 2 2) ∧ (g 2 2) < ((60 : Nat) : Int)) ∧ ((2 ≤ (1 : Int) → _) ∧ (¬ 2 ≤ (1 : Int) → ((60 ≤ (yw ((g 2 2) + 1)) → (K [] (yset (yset g 18 (Int.toNat (g 2 2)) (Int.bmod (Int.bmod (yb (fun x y => (x.toUInt32 >>> (y.toUInt32 &&& Int32.toUInt32 31)).toInt32) v 0) 256) 256)) 2 2 (yw ((g 2 2) + 1))))) ∧ (¬ (60 ≤ (yw ((g 2 2) + 1))) → (((0 : Int) ≤ (yw ((g 2 2) + 1)) ∧ (yw ((g 2 2) + 1)) < ((60 : Nat) : Int)) ∧ ((2 ≤ (2 : Int) → (K [] (yset (yset (yset (yset g 18 (Int.toNat (g 2 2)) (Int.bmod (Int.bmod (yb (fun x y => (x.toUInt32 >>> (y.toUInt32 &&& Int32.toUInt32 31)).toInt32) v 0) 256) 256)) 2 2 (yw ((g 2 2) + 1))) 18 (Int.toNat (yw ((g 2 2) + 1))) (Int.bmod (Int.bmod (yb (fun x y => (x.toUInt32 >>> (y.toUInt32 &&& Int32.toUInt32 31)).toInt32) v 8) 256) 256)) 2 2 (yw ((yw ((g 2 2) + 1)) + 1))))) ∧ (¬ 2 ≤ (2 : Int) → _))))))))))))
  refine ⟨fun h1 => absurd h1 (by decide), fun _ => ?_⟩
  refine ⟨fun h2 => ?_, fun h2 => ?_⟩
  · have w1 : yw (g 2 2 + 1) = g 2 2 + 1 := yw_s _ (by omega) (by omega)
    have w2 : yw ((g 2 2 + 1) + 1) = (g 2 2 + 1) + 1 := yw_s _ (by omega) (by omega)
    try simp only [Int.bmod_bmod, w1, w2]
    omega
  · refine ⟨(by have w1 : yw (g 2 2 + 1) = g 2 2 + 1 := yw_s _ (by omega) (by omega); have w2 : yw ((g 2 2 + 1) + 1) = (g 2 2 + 1) + 1 := yw_s _ (by omega) (by omega); (try simp only [Int.bmod_bmod, w1, w2]); omega), ?_⟩
    refine ⟨fun h3 => absurd h3 (by decide), fun _ => ?_⟩
    refine ⟨fun h4 => ?_, fun h4 => ?_⟩
    · have w1 : yw (g 2 2 + 1) = g 2 2 + 1 := yw_s _ (by omega) (by omega)
      have w2 : yw ((g 2 2 + 1) + 1) = (g 2 2 + 1) + 1 := yw_s _ (by omega) (by omega)
      try simp only [Int.bmod_bmod, w1, w2] at h4 ⊢
      omega
    · refine ⟨(by have w1 : yw (g 2 2 + 1) = g 2 2 + 1 := yw_s _ (by omega) (by omega); have w2 : yw ((g 2 2 + 1) + 1) = (g 2 2 + 1) + 1 := yw_s _ (by omega) (by omega); (try simp only [Int.bmod_bmod, w1, w2] at h4 ⊢); omega), ?_⟩
      refine ⟨fun _ => ?_, fun h5 => absurd (by decide) h5⟩
      have w1 : yw (g 2 2 + 1) = g 2 2 + 1 := yw_s _ (by omega) (by omega)
      have w2 : yw ((g 2 2 + 1) + 1) = (g 2 2 + 1) + 1 := yw_s _ (by omega) (by omega)
      try simp only [Int.bmod_bmod, w1, w2] at h4 ⊢
      exact hK
set_option maxRecDepth 8000 in
theorem yl_ADD3 {K : List yV → yM → Prop} {Y : yNx} {g : yM} {v : Int} (hY : yCl zpD102 (zpZ, zpRS, zpP9, zpMT, [], (1, 40), 0) K Y) (h0 : 0 ≤ g 2 2) (h1 : g 2 2 + 3 ≤ 60) (hK : K [] (yfd 2 2 18 (ybc v) 3 g)) : Y 2 [(3, 2), (1, 3), (1, v), (1, 0)] [] g := by
  refine yrun_ok (sp := fun pc => false) hY 82 2 _ [] g ?_
  show ((3 ≤ (0 : Int) → _) ∧ (¬ 3 ≤ (0 : Int) → ((60 ≤ (g 2 2) → (K [] g)) ∧ (¬ (60 ≤ (g 2 2)) → (((0 : Int) ≤ (g 2 2) ∧ (g 2 2) < ((60 : Nat) : Int)) ∧ ((3 ≤ (1 : Int) → _) ∧ (¬ 3 ≤ (1 : Int) → ((60 ≤ (yw ((g 2 2) + 1)) → (K [] (yset (yset g 18 (Int.toNat (g 2 2)) (Int.bmod (Int.bmod (yb (fun x y => (x.toUInt32 >>> (y.toUInt32 &&& Int32.toUInt32 31)).toInt32) v 0) 256) 256)) 2 2 (yw ((g 2 2) + 1))))) ∧ (¬ (60 ≤ (yw ((g 2 2) + 1))) → (((0 : Int) ≤ (yw ((g 2 2) + 1)) ∧ (yw ((g 2 2) + 1)) < ((60 : Nat) : Int)) ∧ ((3 ≤ (2 : Int) → _) ∧ (¬ 3 ≤ (2 : Int) → ((60 ≤ (yw ((yw ((g 2 2) + 1)) + 1)) → (K [] (yset (yset (yset (yset g 18 (Int.toNat (g 2 2)) (Int.bmod (Int.bmod (yb (fun x y => (x.toUInt32 >>> (y.toUInt32 &&& Int32.toUInt32 31)).toInt32) v 0) 256) 256)) 2 2 (yw ((g 2 2) + 1))) 18 (Int.toNat (yw ((g 2 2) + 1))) (Int.bmod (Int.bmod (yb (fun x y => (x.toUInt32 >>> (y.toUInt32 &&& Int32.toUInt32 31)).toInt32) v 8) 256) 256)) 2 2 (yw ((yw ((g 2 2) + 1)) + 1))))) ∧ (¬ (60 ≤ (yw ((yw ((g 2 2) + 1)) + 1))) → (((0 : Int) ≤ (yw ((yw ((g 2 2) + 1)) + 1)) ∧ (yw ((yw ((g 2 2) + 1)) + 1)) < ((60 : Nat) : Int)) ∧ ((3 ≤ (3 : Int) → (K [] (yset (yset (yset (yset (yset (yset g 18 (Int.toNat (g 2 2)) (Int.bmod (Int.bmod (yb (fun x y => (x.toUInt32 >>> (y.toUInt32 &&& Int32.toUInt32 31)).toInt32) v 0) 256) 256)) 2 2 (yw ((g 2 2) + 1))) 18 (Int.toNat (yw ((g 2 2) + 1))) (Int.bmod (Int.bmod (yb (fun x y => (x.toUInt32 >>> (y.toUInt32 &&& Int32.toUInt32 31)).toInt32) v 8) 256) 256)) 2 2 (yw ((yw ((g 2 2) + 1)) + 1))) 18 (Int.toNat (yw ((yw ((g 2 2) + 1)) + 1))) (Int.bmod (Int.bmod (yb (fun x y => (x.toUInt32 >>> (y.toUInt32 &&& Int32.toUInt32 31)).toInt32) v 16) 256) 256)) 2 2 (yw ((yw ((yw ((g 2 2) + 1)) + 1)) + 1))))) ∧ (¬ 3 ≤ (3 : Int) → _)))))))))))))))))
  refine ⟨fun h1 => absurd h1 (by decide), fun _ => ?_⟩
  refine ⟨fun h2 => ?_, fun h2 => ?_⟩
  · have w1 : yw (g 2 2 + 1) = g 2 2 + 1 := yw_s _ (by omega) (by omega)
    have w2 : yw ((g 2 2 + 1) + 1) = (g 2 2 + 1) + 1 := yw_s _ (by omega) (by omega)
    have w3 : yw (((g 2 2 + 1) + 1) + 1) = ((g 2 2 + 1) + 1) + 1 := yw_s _ (by omega) (by omega)
    try simp only [Int.bmod_bmod, w1, w2, w3]
    omega
  · refine ⟨(by have w1 : yw (g 2 2 + 1) = g 2 2 + 1 := yw_s _ (by omega) (by omega); have w2 : yw ((g 2 2 + 1) + 1) = (g 2 2 + 1) + 1 := yw_s _ (by omega) (by omega); have w3 : yw (((g 2 2 + 1) + 1) + 1) = ((g 2 2 + 1) + 1) + 1 := yw_s _ (by omega) (by omega); (try simp only [Int.bmod_bmod, w1, w2, w3]); omega), ?_⟩
    refine ⟨fun h3 => absurd h3 (by decide), fun _ => ?_⟩
    refine ⟨fun h4 => ?_, fun h4 => ?_⟩
    · have w1 : yw (g 2 2 + 1) = g 2 2 + 1 := yw_s _ (by omega) (by omega)
      have w2 : yw ((g 2 2 + 1) + 1) = (g 2 2 + 1) + 1 := yw_s _ (by omega) (by omega)
      have w3 : yw (((g 2 2 + 1) + 1) + 1) = ((g 2 2 + 1) + 1) + 1 := yw_s _ (by omega) (by omega)
      try simp only [Int.bmod_bmod, w1, w2, w3] at h4 ⊢
      omega
    · refine ⟨(by have w1 : yw (g 2 2 + 1) = g 2 2 + 1 := yw_s _ (by omega) (by omega); have w2 : yw ((g 2 2 + 1) + 1) = (g 2 2 + 1) + 1 := yw_s _ (by omega) (by omega); have w3 : yw (((g 2 2 + 1) + 1) + 1) = ((g 2 2 + 1) + 1) + 1 := yw_s _ (by omega) (by omega); (try simp only [Int.bmod_bmod, w1, w2, w3] at h4 ⊢); omega), ?_⟩
      refine ⟨fun h5 => absurd h5 (by decide), fun _ => ?_⟩
      refine ⟨fun h6 => ?_, fun h6 => ?_⟩
      · have w1 : yw (g 2 2 + 1) = g 2 2 + 1 := yw_s _ (by omega) (by omega)
        have w2 : yw ((g 2 2 + 1) + 1) = (g 2 2 + 1) + 1 := yw_s _ (by omega) (by omega)
        have w3 : yw (((g 2 2 + 1) + 1) + 1) = ((g 2 2 + 1) + 1) + 1 := yw_s _ (by omega) (by omega)
        try simp only [Int.bmod_bmod, w1, w2, w3] at h4 h6 ⊢
        omega
      · refine ⟨(by have w1 : yw (g 2 2 + 1) = g 2 2 + 1 := yw_s _ (by omega) (by omega); have w2 : yw ((g 2 2 + 1) + 1) = (g 2 2 + 1) + 1 := yw_s _ (by omega) (by omega); have w3 : yw (((g 2 2 + 1) + 1) + 1) = ((g 2 2 + 1) + 1) + 1 := yw_s _ (by omega) (by omega); (try simp only [Int.bmod_bmod, w1, w2, w3] at h4 h6 ⊢); omega), ?_⟩
        refine ⟨fun _ => ?_, fun h7 => absurd (by decide) h7⟩
        have w1 : yw (g 2 2 + 1) = g 2 2 + 1 := yw_s _ (by omega) (by omega)
        have w2 : yw ((g 2 2 + 1) + 1) = (g 2 2 + 1) + 1 := yw_s _ (by omega) (by omega)
        have w3 : yw (((g 2 2 + 1) + 1) + 1) = ((g 2 2 + 1) + 1) + 1 := yw_s _ (by omega) (by omega)
        try simp only [Int.bmod_bmod, w1, w2, w3] at h4 h6 ⊢
        exact hK
set_option maxRecDepth 8000 in
theorem yl_ADD4 {K : List yV → yM → Prop} {Y : yNx} {g : yM} {v : Int} (hY : yCl zpD102 (zpZ, zpRS, zpP9, zpMT, [], (1, 40), 0) K Y) (h0 : 0 ≤ g 2 2) (h1 : g 2 2 + 4 ≤ 60) (hK : K [] (yfd 2 2 18 (ybc v) 4 g)) : Y 2 [(3, 2), (1, 4), (1, v), (1, 0)] [] g := by
  refine yrun_ok (sp := fun pc => false) hY 108 2 _ [] g ?_
  show ((4 ≤ (0 : Int) → _) ∧ (¬ 4 ≤ (0 : Int) → ((60 ≤ (g 2 2) → (K [] g)) ∧ (¬ (60 ≤ (g 2 2)) → (((0 : Int) ≤ (g 2 2) ∧ (g 2 2) < ((60 : Nat) : Int)) ∧ ((4 ≤ (1 : Int) → _) ∧ (¬ 4 ≤ (1 : Int) → ((60 ≤ (yw ((g 2 2) + 1)) → (K [] (yset (yset g 18 (Int.toNat (g 2 2)) (Int.bmod (Int.bmod (yb (fun x y => (x.toUInt32 >>> (y.toUInt32 &&& Int32.toUInt32 31)).toInt32) v 0) 256) 256)) 2 2 (yw ((g 2 2) + 1))))) ∧ (¬ (60 ≤ (yw ((g 2 2) + 1))) → (((0 : Int) ≤ (yw ((g 2 2) + 1)) ∧ (yw ((g 2 2) + 1)) < ((60 : Nat) : Int)) ∧ ((4 ≤ (2 : Int) → _) ∧ (¬ 4 ≤ (2 : Int) → ((60 ≤ (yw ((yw ((g 2 2) + 1)) + 1)) → (K [] (yset (yset (yset (yset g 18 (Int.toNat (g 2 2)) (Int.bmod (Int.bmod (yb (fun x y => (x.toUInt32 >>> (y.toUInt32 &&& Int32.toUInt32 31)).toInt32) v 0) 256) 256)) 2 2 (yw ((g 2 2) + 1))) 18 (Int.toNat (yw ((g 2 2) + 1))) (Int.bmod (Int.bmod (yb (fun x y => (x.toUInt32 >>> (y.toUInt32 &&& Int32.toUInt32 31)).toInt32) v 8) 256) 256)) 2 2 (yw ((yw ((g 2 2) + 1)) + 1))))) ∧ (¬ (60 ≤ (yw ((yw ((g 2 2) + 1)) + 1))) → (((0 : Int) ≤ (yw ((yw ((g 2 2) + 1)) + 1)) ∧ (yw ((yw ((g 2 2) + 1)) + 1)) < ((60 : Nat) : Int)) ∧ ((4 ≤ (3 : Int) → _) ∧ (¬ 4 ≤ (3 : Int) → ((60 ≤ (yw ((yw ((yw ((g 2 2) + 1)) + 1)) + 1)) → (K [] (yset (yset (yset (yset (yset (yset g 18 (Int.toNat (g 2 2)) (Int.bmod (Int.bmod (yb (fun x y => (x.toUInt32 >>> (y.toUInt32 &&& Int32.toUInt32 31)).toInt32) v 0) 256) 256)) 2 2 (yw ((g 2 2) + 1))) 18 (Int.toNat (yw ((g 2 2) + 1))) (Int.bmod (Int.bmod (yb (fun x y => (x.toUInt32 >>> (y.toUInt32 &&& Int32.toUInt32 31)).toInt32) v 8) 256) 256)) 2 2 (yw ((yw ((g 2 2) + 1)) + 1))) 18 (Int.toNat (yw ((yw ((g 2 2) + 1)) + 1))) (Int.bmod (Int.bmod (yb (fun x y => (x.toUInt32 >>> (y.toUInt32 &&& Int32.toUInt32 31)).toInt32) v 16) 256) 256)) 2 2 (yw ((yw ((yw ((g 2 2) + 1)) + 1)) + 1))))) ∧ (¬ (60 ≤ (yw ((yw ((yw ((g 2 2) + 1)) + 1)) + 1))) → (((0 : Int) ≤ (yw ((yw ((yw ((g 2 2) + 1)) + 1)) + 1)) ∧ (yw ((yw ((yw ((g 2 2) + 1)) + 1)) + 1)) < ((60 : Nat) : Int)) ∧ ((4 ≤ (4 : Int) → (K [] (yset (yset (yset (yset (yset (yset (yset (yset g 18 (Int.toNat (g 2 2)) (Int.bmod (Int.bmod (yb (fun x y => (x.toUInt32 >>> (y.toUInt32 &&& Int32.toUInt32 31)).toInt32) v 0) 256) 256)) 2 2 (yw ((g 2 2) + 1))) 18 (Int.toNat (yw ((g 2 2) + 1))) (Int.bmod (Int.bmod (yb (fun x y => (x.toUInt32 >>> (y.toUInt32 &&& Int32.toUInt32 31)).toInt32) v 8) 256) 256)) 2 2 (yw ((yw ((g 2 2) + 1)) + 1))) 18 (Int.toNat (yw ((yw ((g 2 2) + 1)) + 1))) (Int.bmod (Int.bmod (yb (fun x y => (x.toUInt32 >>> (y.toUInt32 &&& Int32.toUInt32 31)).toInt32) v 16) 256) 256)) 2 2 (yw ((yw ((yw ((g 2 2) + 1)) + 1)) + 1))) 18 (Int.toNat (yw ((yw ((yw ((g 2 2) + 1)) + 1)) + 1))) (Int.bmod (Int.bmod (yb (fun x y => (x.toUInt32 >>> (y.toUInt32 &&& Int32.toUInt32 31)).toInt32) v 24) 256) 256)) 2 2 (yw ((yw ((yw ((yw ((g 2 2) + 1)) + 1)) + 1)) + 1))))) ∧ (¬ 4 ≤ (4 : Int) → _))))))))))))))))))))))
  refine ⟨fun h1 => absurd h1 (by decide), fun _ => ?_⟩
  refine ⟨fun h2 => ?_, fun h2 => ?_⟩
  · have w1 : yw (g 2 2 + 1) = g 2 2 + 1 := yw_s _ (by omega) (by omega)
    have w2 : yw ((g 2 2 + 1) + 1) = (g 2 2 + 1) + 1 := yw_s _ (by omega) (by omega)
    have w3 : yw (((g 2 2 + 1) + 1) + 1) = ((g 2 2 + 1) + 1) + 1 := yw_s _ (by omega) (by omega)
    have w4 : yw ((((g 2 2 + 1) + 1) + 1) + 1) = (((g 2 2 + 1) + 1) + 1) + 1 := yw_s _ (by omega) (by omega)
    try simp only [Int.bmod_bmod, w1, w2, w3, w4]
    omega
  · refine ⟨(by have w1 : yw (g 2 2 + 1) = g 2 2 + 1 := yw_s _ (by omega) (by omega); have w2 : yw ((g 2 2 + 1) + 1) = (g 2 2 + 1) + 1 := yw_s _ (by omega) (by omega); have w3 : yw (((g 2 2 + 1) + 1) + 1) = ((g 2 2 + 1) + 1) + 1 := yw_s _ (by omega) (by omega); have w4 : yw ((((g 2 2 + 1) + 1) + 1) + 1) = (((g 2 2 + 1) + 1) + 1) + 1 := yw_s _ (by omega) (by omega); (try simp only [Int.bmod_bmod, w1, w2, w3, w4]); omega), ?_⟩
    refine ⟨fun h3 => absurd h3 (by decide), fun _ => ?_⟩
    refine ⟨fun h4 => ?_, fun h4 => ?_⟩
    · have w1 : yw (g 2 2 + 1) = g 2 2 + 1 := yw_s _ (by omega) (by omega)
      have w2 : yw ((g 2 2 + 1) + 1) = (g 2 2 + 1) + 1 := yw_s _ (by omega) (by omega)
      have w3 : yw (((g 2 2 + 1) + 1) + 1) = ((g 2 2 + 1) + 1) + 1 := yw_s _ (by omega) (by omega)
      have w4 : yw ((((g 2 2 + 1) + 1) + 1) + 1) = (((g 2 2 + 1) + 1) + 1) + 1 := yw_s _ (by omega) (by omega)
      try simp only [Int.bmod_bmod, w1, w2, w3, w4] at h4 ⊢
      omega
    · refine ⟨(by have w1 : yw (g 2 2 + 1) = g 2 2 + 1 := yw_s _ (by omega) (by omega); have w2 : yw ((g 2 2 + 1) + 1) = (g 2 2 + 1) + 1 := yw_s _ (by omega) (by omega); have w3 : yw (((g 2 2 + 1) + 1) + 1) = ((g 2 2 + 1) + 1) + 1 := yw_s _ (by omega) (by omega); have w4 : yw ((((g 2 2 + 1) + 1) + 1) + 1) = (((g 2 2 + 1) + 1) + 1) + 1 := yw_s _ (by omega) (by omega); (try simp only [Int.bmod_bmod, w1, w2, w3, w4] at h4 ⊢); omega), ?_⟩
      refine ⟨fun h5 => absurd h5 (by decide), fun _ => ?_⟩
      refine ⟨fun h6 => ?_, fun h6 => ?_⟩
      · have w1 : yw (g 2 2 + 1) = g 2 2 + 1 := yw_s _ (by omega) (by omega)
        have w2 : yw ((g 2 2 + 1) + 1) = (g 2 2 + 1) + 1 := yw_s _ (by omega) (by omega)
        have w3 : yw (((g 2 2 + 1) + 1) + 1) = ((g 2 2 + 1) + 1) + 1 := yw_s _ (by omega) (by omega)
        have w4 : yw ((((g 2 2 + 1) + 1) + 1) + 1) = (((g 2 2 + 1) + 1) + 1) + 1 := yw_s _ (by omega) (by omega)
        try simp only [Int.bmod_bmod, w1, w2, w3, w4] at h4 h6 ⊢
        omega
      · refine ⟨(by have w1 : yw (g 2 2 + 1) = g 2 2 + 1 := yw_s _ (by omega) (by omega); have w2 : yw ((g 2 2 + 1) + 1) = (g 2 2 + 1) + 1 := yw_s _ (by omega) (by omega); have w3 : yw (((g 2 2 + 1) + 1) + 1) = ((g 2 2 + 1) + 1) + 1 := yw_s _ (by omega) (by omega); have w4 : yw ((((g 2 2 + 1) + 1) + 1) + 1) = (((g 2 2 + 1) + 1) + 1) + 1 := yw_s _ (by omega) (by omega); (try simp only [Int.bmod_bmod, w1, w2, w3, w4] at h4 h6 ⊢); omega), ?_⟩
        refine ⟨fun h7 => absurd h7 (by decide), fun _ => ?_⟩
        refine ⟨fun h8 => ?_, fun h8 => ?_⟩
        · have w1 : yw (g 2 2 + 1) = g 2 2 + 1 := yw_s _ (by omega) (by omega)
          have w2 : yw ((g 2 2 + 1) + 1) = (g 2 2 + 1) + 1 := yw_s _ (by omega) (by omega)
          have w3 : yw (((g 2 2 + 1) + 1) + 1) = ((g 2 2 + 1) + 1) + 1 := yw_s _ (by omega) (by omega)
          have w4 : yw ((((g 2 2 + 1) + 1) + 1) + 1) = (((g 2 2 + 1) + 1) + 1) + 1 := yw_s _ (by omega) (by omega)
          try simp only [Int.bmod_bmod, w1, w2, w3, w4] at h4 h6 h8 ⊢
          omega
        · refine ⟨(by have w1 : yw (g 2 2 + 1) = g 2 2 + 1 := yw_s _ (by omega) (by omega); have w2 : yw ((g 2 2 + 1) + 1) = (g 2 2 + 1) + 1 := yw_s _ (by omega) (by omega); have w3 : yw (((g 2 2 + 1) + 1) + 1) = ((g 2 2 + 1) + 1) + 1 := yw_s _ (by omega) (by omega); have w4 : yw ((((g 2 2 + 1) + 1) + 1) + 1) = (((g 2 2 + 1) + 1) + 1) + 1 := yw_s _ (by omega) (by omega); (try simp only [Int.bmod_bmod, w1, w2, w3, w4] at h4 h6 h8 ⊢); omega), ?_⟩
          refine ⟨fun _ => ?_, fun h9 => absurd (by decide) h9⟩
          have w1 : yw (g 2 2 + 1) = g 2 2 + 1 := yw_s _ (by omega) (by omega)
          have w2 : yw ((g 2 2 + 1) + 1) = (g 2 2 + 1) + 1 := yw_s _ (by omega) (by omega)
          have w3 : yw (((g 2 2 + 1) + 1) + 1) = ((g 2 2 + 1) + 1) + 1 := yw_s _ (by omega) (by omega)
          have w4 : yw ((((g 2 2 + 1) + 1) + 1) + 1) = (((g 2 2 + 1) + 1) + 1) + 1 := yw_s _ (by omega) (by omega)
          try simp only [Int.bmod_bmod, w1, w2, w3, w4] at h4 h6 h8 ⊢
          exact hK
set_option maxRecDepth 8000 in
theorem yv_ADD {K : List yV → yM → Prop} {Y : yNx} {g : yM} {n v : Int} (hY : yCl zpD102 (zpZ, zpRS, zpP9, zpMT, [], (1, 40), 0) K Y) (hr_n : -2147483648 ≤ n ∧ n ≤ 2147483647) (hr_v : -2147483648 ≤ v ∧ v ≤ 2147483647) (hp0 : 1 ≤ n ∧ n ≤ 4) (hp1 : 0 ≤ g 2 2) (hp2 : g 2 2 + n ≤ 60) (hK : ∀ (g' : yM), (g' = yfd 2 2 18 (ybc v) (Int.toNat n) g) → K [] g') : Y 0 [(3, 2), (1, n), (1, v), (0, 0)] [] g := by
  refine yrun_ok (sp := fun pc => Nat.beq pc 2) hY 3 0 _ [] g ?_
  show (Y 2 [(3, 2), (1, n), (1, v), (1, 0)] [] g)
  have hn : n = 1 ∨ n = 2 ∨ n = 3 ∨ n = 4 := by omega
  rcases hn with rfl | rfl | rfl | rfl
  · exact yl_ADD1 hY hp1 hp2 (hK _ rfl)
  · exact yl_ADD2 hY hp1 hp2 (hK _ rfl)
  · exact yl_ADD3 hY hp1 hp2 (hK _ rfl)
  · exact yl_ADD4 hY hp1 hp2 (hK _ rfl)
theorem yM_ADD {l : Launch} {Ts : List Cond} {cl : List vw_C} {RO : zRO} (H : zHyp Ts cl RO) : yMet l Ts cl zpZ RO zpMT yC_ADD := ymet_of2 H.1 H.2.1 zpDj H.2.2.1 yRb H.p9 ymets_nil (zrc0 rfl) (plainFor_of_name zpy9) zpDk102 (fun as g K Y h hA hY => by
  obtain ⟨n, v, rfl, hp0, hp1, hp2, hK⟩ := h
  exact yv_ADD hY (yAr1 hA (by simp)) (yAr1 hA (by simp)) hp0 hp1 hp2 hK)
def yP_CFE : yPT := fun as g K => ∃ (n v : Int), as = [(3, 0), (1, n), (1, v)] ∧ (0 ≤ g 2 2 ∧ g 2 2 ≤ 60) ∧ (∀ (r : Int) (g' : yM), ((r = -1 ∧ ¬ (1 ≤ n ∧ n ≤ 4)) ∨ ((1 ≤ n ∧ n ≤ 4) ∧ ((r = -3 ∧ 60 < g 2 2 + n) ∨ (r = g 2 2 + n ∧ g 2 2 + n ≤ 60)))) → (r < 0 → g' = g) → (0 ≤ r → g' = yfd 2 2 18 (ybc v) (Int.toNat n) g) → (-2147483648 ≤ v ∧ v ≤ 2147483647) → K [(1, r)] g')
def yC_CFE : yC := (11, (2, 63), yP_CFE)
set_option maxRecDepth 8000 in
theorem yv_CFE {K : List yV → yM → Prop} {Y : yNx} {g : yM} {n v : Int} (hY : yCl zpD11 (zpZ, zpRS, zpP0, zpMT, [yC_ADD], (2, 63), 1) K Y) (hr_n : -2147483648 ≤ n ∧ n ≤ 2147483647) (hr_v : -2147483648 ≤ v ∧ v ≤ 2147483647) (hp0 : 0 ≤ g 2 2 ∧ g 2 2 ≤ 60) (hK : ∀ (r : Int) (g' : yM), ((r = -1 ∧ ¬ (1 ≤ n ∧ n ≤ 4)) ∨ ((1 ≤ n ∧ n ≤ 4) ∧ ((r = -3 ∧ 60 < g 2 2 + n) ∨ (r = g 2 2 + n ∧ g 2 2 + n ≤ 60)))) → (r < 0 → g' = g) → (0 ≤ r → g' = yfd 2 2 18 (ybc v) (Int.toNat n) g) → (-2147483648 ≤ v ∧ v ≤ 2147483647) → K [(1, r)] g') : Y 0 [(3, 0), (1, n), (1, v)] [] g := by
  refine yrun_ok (sp := fun pc => false) hY 22 0 _ [] g ?_
  show ((n < 1 → (K [(1, (-1))] g)) ∧ (¬ (n < 1) → ((n ≤ 4 → ((n ≤ (yw (60 - (g 2 2))) → (∃ (n4 v5 : Int), [(3, 2), (1, n), (1, v)] = [(3, 2), (1, n4), (1, v5)] ∧ (1 ≤ n4 ∧ n4 ≤ 4) ∧ (0 ≤ g 2 2) ∧ (g 2 2 + n4 ≤ 60) ∧ (∀ (g6 : yM), (g6 = yfd 2 2 18 (ybc v5) (Int.toNat n4) g) → (K [(1, (g6 2 2))] g6)))) ∧ (¬ (n ≤ (yw (60 - (g 2 2)))) → (K [(1, (-3))] g)))) ∧ (¬ (n ≤ 4) → (K [(1, (-1))] g)))))
  refine ⟨fun h1 => ?_, fun h1 => ?_⟩
  · exact hK _ _ (by omega) (fun _ => rfl) (fun h => absurd h (by omega)) hr_v
  · refine ⟨fun h2 => ?_, fun h2 => ?_⟩
    · refine ⟨fun h3 => ?_, fun h3 => ?_⟩
      · refine ⟨_, _, rfl, (by have := yw_s (60 - (g 2 2)); omega), (by have := yw_s (60 - (g 2 2)); omega), (by have := yw_s (60 - (g 2 2)); omega), ?_⟩
        intro g6 p70
        subst p70
        have := yw_s (60 - (g 2 2))
        have e := yfd_f (q := 2) (f := 2) (t := 18) (b := ybc v) (Int.toNat n) g
        exact hK _ _ (by omega) (fun h => absurd h (by omega)) (fun _ => rfl) hr_v
      · have := yw_s (60 - (g 2 2))
        exact hK _ _ (by omega) (fun _ => rfl) (fun h => absurd h (by omega)) hr_v
    · exact hK _ _ (by omega) (fun _ => rfl) (fun h => absurd h (by omega)) hr_v
theorem yM_CFE {l : Launch} {Ts : List Cond} {cl : List vw_C} {RO : zRO} (H : zHyp Ts cl RO) : yMet l Ts cl zpZ RO zpMT yC_CFE := ymet_of2 H.1 H.2.1 zpDj H.2.2.1 yRb H.p0 (ymets_cons (yM_ADD H) ymets_nil) (zrc1 rfl) (plainFor_of_name zpy0) zpDk11 (fun as g K Y h hA hY => by
  obtain ⟨n, v, rfl, hp0, hK⟩ := h
  exact yv_CFE hY (yAr1 hA (by simp)) (yAr1 hA (by simp)) hp0 hK)
def yP_MFE : yPT := fun as g K => ∃ (n v : Int), as = [(3, 90), (1, n), (1, v)] ∧ (0 ≤ g 90 13 ∧ g 90 13 ≤ 60) ∧ (∀ (r : Int) (g' : yM), ((r = -1 ∧ ¬ (1 ≤ n ∧ n ≤ 4)) ∨ ((1 ≤ n ∧ n ≤ 4) ∧ ((r = -3 ∧ 60 < g 90 13 + n) ∨ (r = g 90 13 + n ∧ g 90 13 + n ≤ 60)))) → (r < 0 → g' = g) → (0 ≤ r → g' = yfd 90 13 98 (ybm v) (Int.toNat n) g) → (-2147483648 ≤ v ∧ v ≤ 2147483647) → K [(1, r)] g')
def yC_MFE : yC := (156, (2, 65), yP_MFE)
set_option maxRecDepth 8000 in
theorem yl_MFE1 {K : List yV → yM → Prop} {Y : yNx} {g : yM} {v : Int} (hY : yCl zpD156 (zpZ, zpRS, zpP12, zpMT, [yC_WM], (2, 65), 1) K Y) (h0 : 0 ≤ g 90 13) (h1 : g 90 13 + 1 ≤ 60) (hK : K [(1, (g 90 13 + 1))] (yfd 90 13 98 (ybm v) 1 g)) : Y 30 [(3, 90), (1, 1), (1, v), (1, 0)] [] g := by
  refine yrun_ok (sp := fun pc => false) hY 29 30 _ [] g ?_
  show ((1 ≤ (0 : Int) → _) ∧ (¬ 1 ≤ (0 : Int) → (((0 : Int) ≤ (g 90 13) ∧ (g 90 13) < ((60 : Nat) : Int)) ∧ ((1 ≤ (1 : Int) → (K [(1, (yw ((g 90 13) + 1)))] (yset (yset g 98 (Int.toNat (g 90 13)) (yb (fun x y => x &&& y) (yb (fun x y => x >>> (y &&& 31)) v 0) 255)) 90 13 (yw ((g 90 13) + 1))))) ∧ (¬ 1 ≤ (1 : Int) → _)))))
  refine ⟨fun h1 => absurd h1 (by decide), fun _ => ?_⟩
  refine ⟨(by have w1 : yw (g 90 13 + 1) = g 90 13 + 1 := yw_s _ (by omega) (by omega); (try simp only [w1]); omega), ?_⟩
  refine ⟨fun _ => ?_, fun h2 => absurd (by decide) h2⟩
  have w1 : yw (g 90 13 + 1) = g 90 13 + 1 := yw_s _ (by omega) (by omega)
  try simp only [w1]
  exact hK
set_option maxRecDepth 8000 in
theorem yl_MFE2 {K : List yV → yM → Prop} {Y : yNx} {g : yM} {v : Int} (hY : yCl zpD156 (zpZ, zpRS, zpP12, zpMT, [yC_WM], (2, 65), 1) K Y) (h0 : 0 ≤ g 90 13) (h1 : g 90 13 + 2 ≤ 60) (hK : K [(1, ((g 90 13 + 1) + 1))] (yfd 90 13 98 (ybm v) 2 g)) : Y 30 [(3, 90), (1, 2), (1, v), (1, 0)] [] g := by
  refine yrun_ok (sp := fun pc => false) hY 52 30 _ [] g ?_
  show ((2 ≤ (0 : Int) → _) ∧ (¬ 2 ≤ (0 : Int) → (((0 : Int) ≤ (g 90 13) ∧ (g 90 13) < ((60 : Nat) : Int)) ∧ ((2 ≤ (1 : Int) → _) ∧ (¬ 2 ≤ (1 : Int) → (((0 : Int) ≤ (yw ((g 90 13) + 1)) ∧ (yw ((g 90 13) + 1)) < ((60 : Nat) : Int)) ∧ ((2 ≤ (2 : Int) → (K [(1, (yw ((yw ((g 90 13) + 1)) + 1)))] (yset (yset (yset (yset g 98 (Int.toNat (g 90 13)) (yb (fun x y => x &&& y) (yb (fun x y => x >>> (y &&& 31)) v 0) 255)) 90 13 (yw ((g 90 13) + 1))) 98 (Int.toNat (yw ((g 90 13) + 1))) (yb (fun x y => x &&& y) (yb (fun x y => x >>> (y &&& 31)) v 8) 255)) 90 13 (yw ((yw ((g 90 13) + 1)) + 1))))) ∧ (¬ 2 ≤ (2 : Int) → _))))))))
  refine ⟨fun h1 => absurd h1 (by decide), fun _ => ?_⟩
  refine ⟨(by have w1 : yw (g 90 13 + 1) = g 90 13 + 1 := yw_s _ (by omega) (by omega); have w2 : yw ((g 90 13 + 1) + 1) = (g 90 13 + 1) + 1 := yw_s _ (by omega) (by omega); (try simp only [w1, w2]); omega), ?_⟩
  refine ⟨fun h2 => absurd h2 (by decide), fun _ => ?_⟩
  refine ⟨(by have w1 : yw (g 90 13 + 1) = g 90 13 + 1 := yw_s _ (by omega) (by omega); have w2 : yw ((g 90 13 + 1) + 1) = (g 90 13 + 1) + 1 := yw_s _ (by omega) (by omega); (try simp only [w1, w2]); omega), ?_⟩
  refine ⟨fun _ => ?_, fun h3 => absurd (by decide) h3⟩
  have w1 : yw (g 90 13 + 1) = g 90 13 + 1 := yw_s _ (by omega) (by omega)
  have w2 : yw ((g 90 13 + 1) + 1) = (g 90 13 + 1) + 1 := yw_s _ (by omega) (by omega)
  try simp only [w1, w2]
  exact hK
set_option maxRecDepth 8000 in
theorem yl_MFE3 {K : List yV → yM → Prop} {Y : yNx} {g : yM} {v : Int} (hY : yCl zpD156 (zpZ, zpRS, zpP12, zpMT, [yC_WM], (2, 65), 1) K Y) (h0 : 0 ≤ g 90 13) (h1 : g 90 13 + 3 ≤ 60) (hK : K [(1, (((g 90 13 + 1) + 1) + 1))] (yfd 90 13 98 (ybm v) 3 g)) : Y 30 [(3, 90), (1, 3), (1, v), (1, 0)] [] g := by
  refine yrun_ok (sp := fun pc => false) hY 75 30 _ [] g ?_
  show ((3 ≤ (0 : Int) → _) ∧ (¬ 3 ≤ (0 : Int) → (((0 : Int) ≤ (g 90 13) ∧ (g 90 13) < ((60 : Nat) : Int)) ∧ ((3 ≤ (1 : Int) → _) ∧ (¬ 3 ≤ (1 : Int) → (((0 : Int) ≤ (yw ((g 90 13) + 1)) ∧ (yw ((g 90 13) + 1)) < ((60 : Nat) : Int)) ∧ ((3 ≤ (2 : Int) → _) ∧ (¬ 3 ≤ (2 : Int) → (((0 : Int) ≤ (yw ((yw ((g 90 13) + 1)) + 1)) ∧ (yw ((yw ((g 90 13) + 1)) + 1)) < ((60 : Nat) : Int)) ∧ ((3 ≤ (3 : Int) → (K [(1, (yw ((yw ((yw ((g 90 13) + 1)) + 1)) + 1)))] (yset (yset (yset (yset (yset (yset g 98 (Int.toNat (g 90 13)) (yb (fun x y => x &&& y) (yb (fun x y => x >>> (y &&& 31)) v 0) 255)) 90 13 (yw ((g 90 13) + 1))) 98 (Int.toNat (yw ((g 90 13) + 1))) (yb (fun x y => x &&& y) (yb (fun x y => x >>> (y &&& 31)) v 8) 255)) 90 13 (yw ((yw ((g 90 13) + 1)) + 1))) 98 (Int.toNat (yw ((yw ((g 90 13) + 1)) + 1))) (yb (fun x y => x &&& y) (yb (fun x y => x >>> (y &&& 31)) v 16) 255)) 90 13 (yw ((yw ((yw ((g 90 13) + 1)) + 1)) + 1))))) ∧ (¬ 3 ≤ (3 : Int) → _)))))))))))
  refine ⟨fun h1 => absurd h1 (by decide), fun _ => ?_⟩
  refine ⟨(by have w1 : yw (g 90 13 + 1) = g 90 13 + 1 := yw_s _ (by omega) (by omega); have w2 : yw ((g 90 13 + 1) + 1) = (g 90 13 + 1) + 1 := yw_s _ (by omega) (by omega); have w3 : yw (((g 90 13 + 1) + 1) + 1) = ((g 90 13 + 1) + 1) + 1 := yw_s _ (by omega) (by omega); (try simp only [w1, w2, w3]); omega), ?_⟩
  refine ⟨fun h2 => absurd h2 (by decide), fun _ => ?_⟩
  refine ⟨(by have w1 : yw (g 90 13 + 1) = g 90 13 + 1 := yw_s _ (by omega) (by omega); have w2 : yw ((g 90 13 + 1) + 1) = (g 90 13 + 1) + 1 := yw_s _ (by omega) (by omega); have w3 : yw (((g 90 13 + 1) + 1) + 1) = ((g 90 13 + 1) + 1) + 1 := yw_s _ (by omega) (by omega); (try simp only [w1, w2, w3]); omega), ?_⟩
  refine ⟨fun h3 => absurd h3 (by decide), fun _ => ?_⟩
  refine ⟨(by have w1 : yw (g 90 13 + 1) = g 90 13 + 1 := yw_s _ (by omega) (by omega); have w2 : yw ((g 90 13 + 1) + 1) = (g 90 13 + 1) + 1 := yw_s _ (by omega) (by omega); have w3 : yw (((g 90 13 + 1) + 1) + 1) = ((g 90 13 + 1) + 1) + 1 := yw_s _ (by omega) (by omega); (try simp only [w1, w2, w3]); omega), ?_⟩
  refine ⟨fun _ => ?_, fun h4 => absurd (by decide) h4⟩
  have w1 : yw (g 90 13 + 1) = g 90 13 + 1 := yw_s _ (by omega) (by omega)
  have w2 : yw ((g 90 13 + 1) + 1) = (g 90 13 + 1) + 1 := yw_s _ (by omega) (by omega)
  have w3 : yw (((g 90 13 + 1) + 1) + 1) = ((g 90 13 + 1) + 1) + 1 := yw_s _ (by omega) (by omega)
  try simp only [w1, w2, w3]
  exact hK
set_option maxRecDepth 8000 in
theorem yl_MFE4 {K : List yV → yM → Prop} {Y : yNx} {g : yM} {v : Int} (hY : yCl zpD156 (zpZ, zpRS, zpP12, zpMT, [yC_WM], (2, 65), 1) K Y) (h0 : 0 ≤ g 90 13) (h1 : g 90 13 + 4 ≤ 60) (hK : K [(1, ((((g 90 13 + 1) + 1) + 1) + 1))] (yfd 90 13 98 (ybm v) 4 g)) : Y 30 [(3, 90), (1, 4), (1, v), (1, 0)] [] g := by
  refine yrun_ok (sp := fun pc => false) hY 98 30 _ [] g ?_
  show ((4 ≤ (0 : Int) → _) ∧ (¬ 4 ≤ (0 : Int) → (((0 : Int) ≤ (g 90 13) ∧ (g 90 13) < ((60 : Nat) : Int)) ∧ ((4 ≤ (1 : Int) → _) ∧ (¬ 4 ≤ (1 : Int) → (((0 : Int) ≤ (yw ((g 90 13) + 1)) ∧ (yw ((g 90 13) + 1)) < ((60 : Nat) : Int)) ∧ ((4 ≤ (2 : Int) → _) ∧ (¬ 4 ≤ (2 : Int) → (((0 : Int) ≤ (yw ((yw ((g 90 13) + 1)) + 1)) ∧ (yw ((yw ((g 90 13) + 1)) + 1)) < ((60 : Nat) : Int)) ∧ ((4 ≤ (3 : Int) → _) ∧ (¬ 4 ≤ (3 : Int) → (((0 : Int) ≤ (yw ((yw ((yw ((g 90 13) + 1)) + 1)) + 1)) ∧ (yw ((yw ((yw ((g 90 13) + 1)) + 1)) + 1)) < ((60 : Nat) : Int)) ∧ ((4 ≤ (4 : Int) → (K [(1, (yw ((yw ((yw ((yw ((g 90 13) + 1)) + 1)) + 1)) + 1)))] (yset (yset (yset (yset (yset (yset (yset (yset g 98 (Int.toNat (g 90 13)) (yb (fun x y => x &&& y) (yb (fun x y => x >>> (y &&& 31)) v 0) 255)) 90 13 (yw ((g 90 13) + 1))) 98 (Int.toNat (yw ((g 90 13) + 1))) (yb (fun x y => x &&& y) (yb (fun x y => x >>> (y &&& 31)) v 8) 255)) 90 13 (yw ((yw ((g 90 13) + 1)) + 1))) 98 (Int.toNat (yw ((yw ((g 90 13) + 1)) + 1))) (yb (fun x y => x &&& y) (yb (fun x y => x >>> (y &&& 31)) v 16) 255)) 90 13 (yw ((yw ((yw ((g 90 13) + 1)) + 1)) + 1))) 98 (Int.toNat (yw ((yw ((yw ((g 90 13) + 1)) + 1)) + 1))) (yb (fun x y => x &&& y) (yb (fun x y => x >>> (y &&& 31)) v 24) 255)) 90 13 (yw ((yw ((yw ((yw ((g 90 13) + 1)) + 1)) + 1)) + 1))))) ∧ (¬ 4 ≤ (4 : Int) → _))))))))))))))
  refine ⟨fun h1 => absurd h1 (by decide), fun _ => ?_⟩
  refine ⟨(by have w1 : yw (g 90 13 + 1) = g 90 13 + 1 := yw_s _ (by omega) (by omega); have w2 : yw ((g 90 13 + 1) + 1) = (g 90 13 + 1) + 1 := yw_s _ (by omega) (by omega); have w3 : yw (((g 90 13 + 1) + 1) + 1) = ((g 90 13 + 1) + 1) + 1 := yw_s _ (by omega) (by omega); have w4 : yw ((((g 90 13 + 1) + 1) + 1) + 1) = (((g 90 13 + 1) + 1) + 1) + 1 := yw_s _ (by omega) (by omega); (try simp only [w1, w2, w3, w4]); omega), ?_⟩
  refine ⟨fun h2 => absurd h2 (by decide), fun _ => ?_⟩
  refine ⟨(by have w1 : yw (g 90 13 + 1) = g 90 13 + 1 := yw_s _ (by omega) (by omega); have w2 : yw ((g 90 13 + 1) + 1) = (g 90 13 + 1) + 1 := yw_s _ (by omega) (by omega); have w3 : yw (((g 90 13 + 1) + 1) + 1) = ((g 90 13 + 1) + 1) + 1 := yw_s _ (by omega) (by omega); have w4 : yw ((((g 90 13 + 1) + 1) + 1) + 1) = (((g 90 13 + 1) + 1) + 1) + 1 := yw_s _ (by omega) (by omega); (try simp only [w1, w2, w3, w4]); omega), ?_⟩
  refine ⟨fun h3 => absurd h3 (by decide), fun _ => ?_⟩
  refine ⟨(by have w1 : yw (g 90 13 + 1) = g 90 13 + 1 := yw_s _ (by omega) (by omega); have w2 : yw ((g 90 13 + 1) + 1) = (g 90 13 + 1) + 1 := yw_s _ (by omega) (by omega); have w3 : yw (((g 90 13 + 1) + 1) + 1) = ((g 90 13 + 1) + 1) + 1 := yw_s _ (by omega) (by omega); have w4 : yw ((((g 90 13 + 1) + 1) + 1) + 1) = (((g 90 13 + 1) + 1) + 1) + 1 := yw_s _ (by omega) (by omega); (try simp only [w1, w2, w3, w4]); omega), ?_⟩
  refine ⟨fun h4 => absurd h4 (by decide), fun _ => ?_⟩
  refine ⟨(by have w1 : yw (g 90 13 + 1) = g 90 13 + 1 := yw_s _ (by omega) (by omega); have w2 : yw ((g 90 13 + 1) + 1) = (g 90 13 + 1) + 1 := yw_s _ (by omega) (by omega); have w3 : yw (((g 90 13 + 1) + 1) + 1) = ((g 90 13 + 1) + 1) + 1 := yw_s _ (by omega) (by omega); have w4 : yw ((((g 90 13 + 1) + 1) + 1) + 1) = (((g 90 13 + 1) + 1) + 1) + 1 := yw_s _ (by omega) (by omega); (try simp only [w1, w2, w3, w4]); omega), ?_⟩
  refine ⟨fun _ => ?_, fun h5 => absurd (by decide) h5⟩
  have w1 : yw (g 90 13 + 1) = g 90 13 + 1 := yw_s _ (by omega) (by omega)
  have w2 : yw ((g 90 13 + 1) + 1) = (g 90 13 + 1) + 1 := yw_s _ (by omega) (by omega)
  have w3 : yw (((g 90 13 + 1) + 1) + 1) = ((g 90 13 + 1) + 1) + 1 := yw_s _ (by omega) (by omega)
  have w4 : yw ((((g 90 13 + 1) + 1) + 1) + 1) = (((g 90 13 + 1) + 1) + 1) + 1 := yw_s _ (by omega) (by omega)
  try simp only [w1, w2, w3, w4]
  exact hK
set_option maxRecDepth 8000 in
theorem yv_MFE {K : List yV → yM → Prop} {Y : yNx} {g : yM} {n v : Int} (hY : yCl zpD156 (zpZ, zpRS, zpP12, zpMT, [yC_WM], (2, 65), 1) K Y) (hr_n : -2147483648 ≤ n ∧ n ≤ 2147483647) (hr_v : -2147483648 ≤ v ∧ v ≤ 2147483647) (hp0 : 0 ≤ g 90 13 ∧ g 90 13 ≤ 60) (hK : ∀ (r : Int) (g' : yM), ((r = -1 ∧ ¬ (1 ≤ n ∧ n ≤ 4)) ∨ ((1 ≤ n ∧ n ≤ 4) ∧ ((r = -3 ∧ 60 < g 90 13 + n) ∨ (r = g 90 13 + n ∧ g 90 13 + n ≤ 60)))) → (r < 0 → g' = g) → (0 ≤ r → g' = yfd 90 13 98 (ybm v) (Int.toNat n) g) → (-2147483648 ≤ v ∧ v ≤ 2147483647) → K [(1, r)] g') : Y 0 [(3, 90), (1, n), (1, v), (0, 0)] [] g := by
  refine yrun_ok (sp := fun pc => Nat.beq pc 30) hY 15 0 _ [] g ?_
  show (∃ (v1 a2 b3 : Int), [(2, n), (2, 1), (2, 4)] = [(2, v1), (2, a2), (2, b3)] ∧ (∀ (r4 : Int), ((r4 = 1 ∧ a2 ≤ v1 ∧ v1 ≤ b3) ∨ (r4 = 0 ∧ (v1 < a2 ∨ b3 < v1))) → ((r4 ≠ 0 → (((yw ((g 90 13) + n)) ≤ 60 → (Y 30 [(3, 90), (1, n), (1, v), (1, 0)] [] g)) ∧ (¬ ((yw ((g 90 13) + n)) ≤ 60) → (K [(1, (-3))] g)))) ∧ (¬ (r4 ≠ 0) → (K [(1, (-1))] g)))))
  refine ⟨_, _, _, rfl, ?_⟩
  intro r4 p50
  refine ⟨fun h6 => ?_, fun h6 => ?_⟩
  · refine ⟨fun h7 => ?_, fun h7 => ?_⟩
    · have := yw_s ((g 90 13) + n)
      have hn : n = 1 ∨ n = 2 ∨ n = 3 ∨ n = 4 := by omega
      rcases hn with rfl | rfl | rfl | rfl
      · exact yl_MFE1 hY hp0.1 (by omega) (hK _ _ (by omega) (fun h => absurd h (by omega)) (fun _ => rfl) hr_v)
      · exact yl_MFE2 hY hp0.1 (by omega) (hK _ _ (by omega) (fun h => absurd h (by omega)) (fun _ => rfl) hr_v)
      · exact yl_MFE3 hY hp0.1 (by omega) (hK _ _ (by omega) (fun h => absurd h (by omega)) (fun _ => rfl) hr_v)
      · exact yl_MFE4 hY hp0.1 (by omega) (hK _ _ (by omega) (fun h => absurd h (by omega)) (fun _ => rfl) hr_v)
    · have := yw_s ((g 90 13) + n)
      exact hK _ _ (by omega) (fun _ => rfl) (fun h => absurd h (by omega)) hr_v
  · exact hK _ _ (by omega) (fun _ => rfl) (fun h => absurd h (by omega)) hr_v
theorem yM_MFE {l : Launch} {Ts : List Cond} {cl : List vw_C} {RO : zRO} (H : zHyp Ts cl RO) : yMet l Ts cl zpZ RO zpMT yC_MFE := ymet_of2 H.1 H.2.1 zpDj H.2.2.1 yRb H.p12 (ymets_cons (yM_WM H) ymets_nil) (zrc1 rfl) (plainFor_of_name zpy12) zpDk156 (fun as g K Y h hA hY => by
  obtain ⟨n, v, rfl, hp0, hK⟩ := h
  exact yv_MFE hY (yAr1 hA (by simp)) (yAr1 hA (by simp)) hp0 hK)
