/-! NUMBERS: what an operation gives, as a name with an offset or as a new name's intervals -/
theorem zrng (x : Int32) : -2147483648 ≤ x.toInt ∧ x.toInt ≤ 2147483647 := by
  have h1 := Int32.le_toInt x
  have h2 := Int32.toInt_lt x
  omega
theorem zrngL (x : Int64) : -9223372036854775808 ≤ x.toInt ∧ x.toInt ≤ 9223372036854775807 := by
  have h1 := Int64.le_toInt x
  have h2 := Int64.toInt_lt x
  omega
theorem zbmod {z : Int} (h1 : -2147483648 ≤ z) (h2 : z ≤ 2147483647) : z.bmod (2 ^ 32) = z := by
  rw [Int.bmod_eq_of_le (by omega) (by omega)]
theorem zbmodL {z : Int} (h1 : -9223372036854775808 ≤ z) (h2 : z ≤ 9223372036854775807) : z.bmod (2 ^ 64) = z := by
  rw [Int.bmod_eq_of_le (by omega) (by omega)]
theorem zofI {z : Int} (h1 : -2147483648 ≤ z) (h2 : z ≤ 2147483647) : (Int32.ofInt z).toInt = z := by
  rw [Int32.toInt_ofInt, zbmod h1 h2]
theorem zofL {z : Int} (h1 : -9223372036854775808 ≤ z) (h2 : z ≤ 9223372036854775807) : (Int64.ofInt z).toInt = z := by
  rw [Int64.toInt_ofInt, zbmodL h1 h2]
def zFull : zIv := [(-2147483648, 2147483647)]
def zFullL : zIv := [(-9223372036854775808, 9223372036854775807)]
theorem zFull_in (x : Int32) : zInIv x.toInt zFull := ⟨_, List.mem_cons_self, (zrng x).1, (zrng x).2⟩
theorem zFullL_in (x : Int64) : zInIv x.toInt zFullL := ⟨_, List.mem_cons_self, (zrngL x).1, (zrngL x).2⟩
abbrev zRes : Type := (Nat × Int) ⊕ zIv
def zRok (nu : List Int) (r : zRes) (z : Int) : Prop := match r with
  | .inl a => zV nu a.1 a.2 z
  | .inr iv => zInIv z iv
def zI32 (lo hi : Int) : Bool := decide (-2147483648 ≤ lo) && decide (hi ≤ 2147483647)
def zI64 (lo hi : Int) : Bool := decide (-9223372036854775808 ≤ lo) && decide (hi ≤ 9223372036854775807)
def zcst (env : List zIv) (a : Nat × Int) : Bool := decide (zlo env a.1 = zhi env a.1)
theorem zcst_ok {env : List zIv} {nu : List Int} {a : Nat × Int} {z : Int} (h : zcst env a = true) (he : zEnv env nu) (hz : zV nu a.1 a.2 z) : z = zlo env a.1 + a.2 := by
  have := hz.bd he
  unfold zcst at h
  rw [decide_eq_true_eq] at h
  omega
/-- sums; 'ok' says whether the bounds are the type's -/
def zadd (ok : Int → Int → Bool) (full : zIv) (env : List zIv) (a b : Nat × Int) : zRes :=
  if ok (zlo env a.1 + a.2 + (zlo env b.1 + b.2)) (zhi env a.1 + a.2 + (zhi env b.1 + b.2)) = true then
    (if zcst env b = true then .inl (a.1, a.2 + (zlo env b.1 + b.2)) else if zcst env a = true then .inl (b.1, b.2 + (zlo env a.1 + a.2)) else .inr [(zlo env a.1 + a.2 + (zlo env b.1 + b.2), zhi env a.1 + a.2 + (zhi env b.1 + b.2))])
  else .inr full
theorem zadd_ok {ok : Int → Int → Bool} {full : zIv} {env : List zIv} {nu : List Int} {a b : Nat × Int} {x y z : Int} (he : zEnv env nu) (hx : zV nu a.1 a.2 x) (hy : zV nu b.1 b.2 y)
    (h1 : ok (zlo env a.1 + a.2 + (zlo env b.1 + b.2)) (zhi env a.1 + a.2 + (zhi env b.1 + b.2)) = true → z = x + y) (h2 : zInIv z full) : zRok nu (zadd ok full env a b) z := by
  have bx := hx.bd he
  have by' := hy.bd he
  unfold zadd
  by_cases h : ok (zlo env a.1 + a.2 + (zlo env b.1 + b.2)) (zhi env a.1 + a.2 + (zhi env b.1 + b.2)) = true
  · rw [if_pos h]
    have e := h1 h
    by_cases hb : zcst env b = true
    · rw [if_pos hb]
      have := zcst_ok hb he hy
      obtain ⟨u, hu, rfl⟩ := hx
      exact ⟨u, hu, by show z = u + (a.2 + (zlo env b.1 + b.2)); omega⟩
    · rw [if_neg hb]
      by_cases ha : zcst env a = true
      · rw [if_pos ha]
        have := zcst_ok ha he hx
        obtain ⟨u, hu, rfl⟩ := hy
        exact ⟨u, hu, by show z = u + (b.2 + (zlo env a.1 + a.2)); omega⟩
      · rw [if_neg ha]
        exact ⟨_, List.mem_cons_self, by show zlo env a.1 + a.2 + (zlo env b.1 + b.2) ≤ z; omega, by show z ≤ zhi env a.1 + a.2 + (zhi env b.1 + b.2); omega⟩
  · rw [if_neg h]
    exact h2
def zsub (env : List zIv) (a b : Nat × Int) : zRes :=
  if a.1 = b.1 ∧ zI32 (a.2 - b.2) (a.2 - b.2) = true then .inl (0, a.2 - b.2)
  else if zI32 (zlo env a.1 + a.2 - (zhi env b.1 + b.2)) (zhi env a.1 + a.2 - (zlo env b.1 + b.2)) = true then
    (if zcst env b = true then .inl (a.1, a.2 - (zlo env b.1 + b.2)) else .inr [(zlo env a.1 + a.2 - (zhi env b.1 + b.2), zhi env a.1 + a.2 - (zlo env b.1 + b.2))])
  else .inr zFull
theorem zsub_ok {env : List zIv} {nu : List Int} {a b : Nat × Int} {x y : Int32} (h0 : nu[0]? = some 0) (he : zEnv env nu) (hx : zV nu a.1 a.2 x.toInt) (hy : zV nu b.1 b.2 y.toInt) : zRok nu (zsub env a b) (x - y).toInt := by
  have bx := hx.bd he
  have by' := hy.bd he
  unfold zsub
  by_cases h1 : a.1 = b.1 ∧ zI32 (a.2 - b.2) (a.2 - b.2) = true
  · rw [if_pos h1]
    obtain ⟨u, hu, eu⟩ := hx
    obtain ⟨v, hv, ev⟩ := hy
    rw [← h1.1, hu] at hv
    cases hv
    have h2 := h1.2
    unfold zI32 at h2
    rw [Bool.and_eq_true, decide_eq_true_eq, decide_eq_true_eq] at h2
    exact ⟨0, h0, by rw [Int32.toInt_sub, zbmod (by omega) (by omega)]; show x.toInt - y.toInt = 0 + (a.2 - b.2); omega⟩
  · rw [if_neg h1]
    by_cases h : zI32 (zlo env a.1 + a.2 - (zhi env b.1 + b.2)) (zhi env a.1 + a.2 - (zlo env b.1 + b.2)) = true
    · rw [if_pos h]
      unfold zI32 at h
      rw [Bool.and_eq_true, decide_eq_true_eq, decide_eq_true_eq] at h
      have e : (x - y).toInt = x.toInt - y.toInt := by rw [Int32.toInt_sub, zbmod (by omega) (by omega)]
      by_cases hb : zcst env b = true
      · rw [if_pos hb]
        have := zcst_ok hb he hy
        obtain ⟨u, hu, eu⟩ := hx
        exact ⟨u, hu, by show (x - y).toInt = u + (a.2 - (zlo env b.1 + b.2)); omega⟩
      · rw [if_neg hb]
        exact ⟨_, List.mem_cons_self, by show zlo env a.1 + a.2 - (zhi env b.1 + b.2) ≤ _; omega, by show _ ≤ zhi env a.1 + a.2 - (zlo env b.1 + b.2); omega⟩
    · rw [if_neg h]
      exact zFull_in _
def zaddI (env : List zIv) (a b : Nat × Int) : zRes := zadd zI32 zFull env a b
theorem zaddI_ok {env : List zIv} {nu : List Int} {a b : Nat × Int} {x y : Int32} (he : zEnv env nu) (hx : zV nu a.1 a.2 x.toInt) (hy : zV nu b.1 b.2 y.toInt) : zRok nu (zaddI env a b) (x + y).toInt := by
  refine zadd_ok he hx hy (fun h => ?_) (zFull_in _)
  have bx := hx.bd he
  have by' := hy.bd he
  unfold zI32 at h
  rw [Bool.and_eq_true, decide_eq_true_eq, decide_eq_true_eq] at h
  rw [Int32.toInt_add, zbmod (by omega) (by omega)]
def zaddL (env : List zIv) (a b : Nat × Int) : zRes := zadd zI64 zFullL env a b
theorem zaddL_ok {env : List zIv} {nu : List Int} {a b : Nat × Int} {x y : Int64} (he : zEnv env nu) (hx : zV nu a.1 a.2 x.toInt) (hy : zV nu b.1 b.2 y.toInt) : zRok nu (zaddL env a b) (x + y).toInt := by
  refine zadd_ok he hx hy (fun h => ?_) (zFullL_in _)
  have bx := hx.bd he
  have by' := hy.bd he
  unfold zI64 at h
  rw [Bool.and_eq_true, decide_eq_true_eq, decide_eq_true_eq] at h
  rw [Int64.toInt_add, zbmodL (by omega) (by omega)]
def zmulC (env : List zIv) (a : Nat × Int) (c : Int) : zRes :=
  if 0 ≤ c ∧ zI32 ((zlo env a.1 + a.2) * c) ((zhi env a.1 + a.2) * c) = true then (if zcst env a = true then .inl (0, (zlo env a.1 + a.2) * c) else .inr [((zlo env a.1 + a.2) * c, (zhi env a.1 + a.2) * c)]) else .inr zFull
def zmul (env : List zIv) (a b : Nat × Int) : zRes := if zcst env b = true then zmulC env a (zlo env b.1 + b.2) else if zcst env a = true then zmulC env b (zlo env a.1 + a.2) else .inr zFull
theorem zmulC_ok {env : List zIv} {nu : List Int} {a : Nat × Int} {x : Int} {c z : Int} (h0 : nu[0]? = some 0) (he : zEnv env nu) (hx : zV nu a.1 a.2 x) (hz : zInIv z zFull) (e : z = (x * c).bmod (2 ^ 32)) : zRok nu (zmulC env a c) z := by
  have bx := hx.bd he
  unfold zmulC
  by_cases h : 0 ≤ c ∧ zI32 ((zlo env a.1 + a.2) * c) ((zhi env a.1 + a.2) * c) = true
  · rw [if_pos h]
    have h2 := h.2
    unfold zI32 at h2
    rw [Bool.and_eq_true, decide_eq_true_eq, decide_eq_true_eq] at h2
    have m1 := Int.mul_le_mul_of_nonneg_right bx.1 h.1
    have m2 := Int.mul_le_mul_of_nonneg_right bx.2 h.1
    rw [zbmod (by omega) (by omega)] at e
    by_cases hc : zcst env a = true
    · rw [if_pos hc]
      have := zcst_ok hc he hx
      exact ⟨0, h0, by show z = 0 + (zlo env a.1 + a.2) * c; rw [e, this]; omega⟩
    · rw [if_neg hc]
      exact ⟨_, List.mem_cons_self, by show (zlo env a.1 + a.2) * c ≤ z; omega, by show z ≤ (zhi env a.1 + a.2) * c; omega⟩
  · rw [if_neg h]
    exact hz
theorem zmul_ok {env : List zIv} {nu : List Int} {a b : Nat × Int} {x y : Int32} (h0 : nu[0]? = some 0) (he : zEnv env nu) (hx : zV nu a.1 a.2 x.toInt) (hy : zV nu b.1 b.2 y.toInt) : zRok nu (zmul env a b) (x * y).toInt := by
  unfold zmul
  by_cases hb : zcst env b = true
  · rw [if_pos hb]
    have := zcst_ok hb he hy
    exact zmulC_ok h0 he hx (zFull_in _) (by rw [Int32.toInt_mul, ← this])
  · rw [if_neg hb]
    by_cases ha : zcst env a = true
    · rw [if_pos ha]
      have := zcst_ok ha he hx
      exact zmulC_ok h0 he hy (zFull_in _) (by rw [Int32.toInt_mul, ← this, Int.mul_comm])
    · rw [if_neg ha]
      exact zFull_in _
/-- the divisor isn't 0 -/
def znz (env : List zIv) (b : Nat × Int) : Bool := (zE env b.1).all (fun p => decide (p.2 + b.2 < 0) || decide (0 < p.1 + b.2))
theorem znz_ok {env : List zIv} {nu : List Int} {b : Nat × Int} {y : Int32} (h : znz env b = true) (he : zEnv env nu) (hy : zV nu b.1 b.2 y.toInt) : ¬ y = 0 := by
  rintro rfl
  obtain ⟨u, hu, eu⟩ := hy
  obtain ⟨p, hp, h1, h2⟩ := he.at hu
  have h3 := List.all_eq_true.mp h p hp
  rw [Bool.or_eq_true, decide_eq_true_eq, decide_eq_true_eq] at h3
  rw [Int32.toInt_zero] at eu
  omega
theorem zdivI {x y : Int32} (h : 0 < y.toInt) : (x / y).toInt = x.toInt.tdiv y.toInt := by
  refine Int32.toInt_div_of_ne_right x y (fun q => ?_)
  rw [q] at h
  exact absurd h (by decide)
theorem ztm {a c : Int} (hc : 0 < c) : a = c * a.tdiv c + a.tmod c := (Int.mul_tdiv_add_tmod a c).symm
theorem zremI {x y : Int32} (h : 0 < y.toInt) : (x - x / y * y).toInt = x.toInt.tmod y.toInt := by
  have e1 := zdivI (x := x) h
  have e2 := ztm (a := x.toInt) h
  have e3 := tmod_bounds (a := x.toInt) h
  have r1 := zrng x
  have r2 := zrng y
  rw [Int32.toInt_sub, Int32.toInt_mul, e1]
  rw [Int.sub_bmod_bmod, Int.mul_comm, show x.toInt - y.toInt * x.toInt.tdiv y.toInt = x.toInt.tmod y.toInt by omega]
  exact zbmod (by omega) (by omega)
theorem ztdiv_bd {a c : Int} (hc : 0 < c) : (0 ≤ a → 0 ≤ a.tdiv c ∧ a.tdiv c ≤ a) ∧ (a ≤ 0 → a ≤ a.tdiv c ∧ a.tdiv c ≤ 0) := by
  refine ⟨fun h => ⟨Int.tdiv_nonneg h (by omega), Int.tdiv_le_self _ h⟩, fun h => ?_⟩
  have e : a.tdiv c = -((-a).tdiv c) := by rw [Int.neg_tdiv, Int.neg_neg]
  have h1 : 0 ≤ (-a).tdiv c := Int.tdiv_nonneg (by omega) (by omega)
  have h2 : (-a).tdiv c ≤ -a := Int.tdiv_le_self _ (by omega)
  omega
theorem ztmod_bd {a c : Int} (hc : 0 < c) : 0 ≤ a → 0 ≤ a.tmod c ∧ a.tmod c < c := fun h => ⟨Int.tmod_nonneg _ h, Int.tmod_lt_of_pos _ hc⟩
/-- bounds of a quotient by a constant above 0 -/
def zdivB (lo hi c : Int) : zIv := if 0 ≤ lo then [(lo.tdiv c, hi.tdiv c)] else [(lo, if 0 ≤ hi then hi else 0)]
theorem ztd_mono {a b c : Int} (hc : 0 < c) (h0 : 0 ≤ a) (h : a ≤ b) : a.tdiv c ≤ b.tdiv c := by
  rw [Int.tdiv_eq_ediv_of_nonneg h0, Int.tdiv_eq_ediv_of_nonneg (by omega)]
  exact Int.ediv_le_ediv hc h
theorem zdivB_ok {a c lo hi : Int} (hc : 0 < c) (h1 : lo ≤ a) (h2 : a ≤ hi) : zInIv (a.tdiv c) (zdivB lo hi c) := by
  unfold zdivB
  by_cases hl : 0 ≤ lo
  · rw [if_pos hl]
    exact ⟨_, List.mem_cons_self, ztd_mono hc hl h1, ztd_mono hc (by omega) h2⟩
  · rw [if_neg hl]
    have b := ztdiv_bd (a := a) hc
    refine ⟨_, List.mem_cons_self, ?_, ?_⟩
    · show lo ≤ a.tdiv c
      rcases Int.le_total 0 a with q | q
      · have := b.1 q; omega
      · have := b.2 q; omega
    · show a.tdiv c ≤ (if 0 ≤ hi then hi else 0)
      rcases Int.le_total 0 a with q | q
      · have := b.1 q; split <;> omega
      · have := b.2 q; split <;> omega
/-- bounds of a rest: the dividend's least, the divisor's most -/
def zremB (lo hy : Int) : zIv := [(if 0 ≤ lo then 0 else 1 - hy, hy - 1)]
theorem zremB_ok {a c lo hy : Int} (hc : 0 < c) (h1 : lo ≤ a) (h2 : c ≤ hy) : zInIv (a.tmod c) (zremB lo hy) := by
  have b := tmod_bounds (a := a) hc
  refine ⟨_, List.mem_cons_self, ?_, by show a.tmod c ≤ hy - 1; omega⟩
  show (if 0 ≤ lo then 0 else 1 - hy) ≤ a.tmod c
  split
  · exact Int.tmod_nonneg _ (by omega)
  · omega
/-- and: one that is not below 0 bounds it -/
theorem znn {x : Int32} (h : 0 ≤ x.toInt) : x.toInt = (x.toBitVec.toNat : Int) := by
  have h1 : x.toInt = x.toBitVec.toInt := rfl
  rw [h1, BitVec.toInt_eq_toNat_cond] at h ⊢
  have := x.toBitVec.isLt
  split at h
  · rw [if_pos (by assumption)]
  · omega
theorem znn' {x : Int32} (h : x.toBitVec.toNat < 2147483648) : x.toInt = (x.toBitVec.toNat : Int) := by
  have h1 : x.toInt = x.toBitVec.toInt := rfl
  rw [h1, BitVec.toInt_eq_toNat_cond, if_pos (by omega)]
theorem zandI {x y : Int32} (h : 0 ≤ y.toInt) : 0 ≤ (x &&& y).toInt ∧ (x &&& y).toInt ≤ y.toInt := by
  have e := znn h
  have r := zrng y
  have h1 : (x &&& y).toBitVec.toNat ≤ y.toBitVec.toNat := by
    rw [Int32.toBitVec_and, BitVec.toNat_and]
    exact Nat.and_le_right
  have h2 := znn' (x := x &&& y) (by omega)
  omega
def zand (env : List zIv) (a b : Nat × Int) : zRes :=
  if 0 ≤ zlo env b.1 + b.2 then .inr [(0, zhi env b.1 + b.2)] else if 0 ≤ zlo env a.1 + a.2 then .inr [(0, zhi env a.1 + a.2)] else .inr zFull
theorem zand_ok {env : List zIv} {nu : List Int} {a b : Nat × Int} {x y : Int32} (he : zEnv env nu) (hx : zV nu a.1 a.2 x.toInt) (hy : zV nu b.1 b.2 y.toInt) : zRok nu (zand env a b) (x &&& y).toInt := by
  have bx := hx.bd he
  have by' := hy.bd he
  unfold zand
  by_cases h : 0 ≤ zlo env b.1 + b.2
  · rw [if_pos h]
    have := zandI (x := x) (y := y) (by omega)
    exact ⟨_, List.mem_cons_self, by show 0 ≤ _; omega, by show _ ≤ zhi env b.1 + b.2; omega⟩
  · rw [if_neg h]
    by_cases h2 : 0 ≤ zlo env a.1 + a.2
    · rw [if_pos h2]
      have := zandI (x := y) (y := x) (by omega)
      rw [Int32.and_comm] at this
      exact ⟨_, List.mem_cons_self, by show 0 ≤ _; omega, by show _ ≤ zhi env a.1 + a.2; omega⟩
    · rw [if_neg h2]
      exact zFull_in _
/-- 1 shifted by 0 to 30 -/
def zpow (n : Int) : Int := ((2 ^ n.toNat : Nat) : Int)
def zshl (env : List zIv) (a b : Nat × Int) : zRes :=
  if zcst env a = true ∧ zlo env a.1 + a.2 = 1 ∧ 0 ≤ zlo env b.1 + b.2 ∧ zhi env b.1 + b.2 ≤ 30 then .inr [(zpow (zlo env b.1 + b.2), zpow (zhi env b.1 + b.2))] else .inr zFull
theorem zshl1 : ∀ k, k < 31 → ((1 : Int32) <<< (Int32.ofNat k &&& 31)).toInt = ((2 ^ k : Nat) : Int) := by decide +kernel
theorem zshl_ok {env : List zIv} {nu : List Int} {a b : Nat × Int} {x y : Int32} (he : zEnv env nu) (hx : zV nu a.1 a.2 x.toInt) (hy : zV nu b.1 b.2 y.toInt) : zRok nu (zshl env a b) (x <<< (y &&& 31)).toInt := by
  have by' := hy.bd he
  unfold zshl
  by_cases h : zcst env a = true ∧ zlo env a.1 + a.2 = 1 ∧ 0 ≤ zlo env b.1 + b.2 ∧ zhi env b.1 + b.2 ≤ 30
  · rw [if_pos h]
    have hx1 := zcst_ok h.1 he hx
    have e1 : x = 1 := Int32.toInt_inj.mp (by rw [hx1, h.2.1]; decide)
    obtain ⟨k, hk⟩ := Int.eq_ofNat_of_zero_le (show 0 ≤ y.toInt by omega)
    have e2 : y = Int32.ofNat k := Int32.toInt_inj.mp (by rw [hk, Int32.toInt_ofNat_of_lt (by omega)])
    rw [e1, e2]
    show zInIv _ [_]
    rw [zshl1 k (by omega)]
    refine ⟨_, List.mem_cons_self, ?_, ?_⟩
    · exact Int.ofNat_le.mpr (Nat.pow_le_pow_right (by omega) (by omega))
    · exact Int.ofNat_le.mpr (Nat.pow_le_pow_right (by omega) (by omega))
  · rw [if_neg h]
    exact zFull_in _
/-- shifted right, without sign, by a constant -/
def zushr (env : List zIv) (b : Nat × Int) : zRes := if zcst env b = true ∧ 1 ≤ zlo env b.1 + b.2 ∧ zlo env b.1 + b.2 ≤ 31 then .inr [(0, zpow (32 - (zlo env b.1 + b.2)) - 1)] else .inr zFull
theorem zushrA : ∀ k, k < 32 → (((Int32.ofNat k).toUInt32 &&& Int32.toUInt32 31).toBitVec % 32).toNat = k := by decide +kernel
theorem zushr_ok {env : List zIv} {nu : List Int} {b : Nat × Int} {x y : Int32} (he : zEnv env nu) (hy : zV nu b.1 b.2 y.toInt) : zRok nu (zushr env b) ((x.toUInt32 >>> (y.toUInt32 &&& Int32.toUInt32 31)).toInt32).toInt := by
  unfold zushr
  by_cases h : zcst env b = true ∧ 1 ≤ zlo env b.1 + b.2 ∧ zlo env b.1 + b.2 ≤ 31
  · rw [if_pos h]
    have hy1 := zcst_ok h.1 he hy
    obtain ⟨k, hk⟩ := Int.eq_ofNat_of_zero_le (show 0 ≤ y.toInt by omega)
    have e2 : y = Int32.ofNat k := Int32.toInt_inj.mp (by rw [hk, Int32.toInt_ofNat_of_lt (by omega)])
    have e := pk_ushr x y k (by rw [e2]; exact zushrA k (by omega))
    have hl := x.toBitVec.isLt
    have hp : (2 : Nat) ^ 32 = 2 ^ (32 - k) * 2 ^ k := by rw [← Nat.pow_add]; congr 1; omega
    have h3 : x.toBitVec.toNat / 2 ^ k < 2 ^ (32 - k) := by
      rw [Nat.div_lt_iff_lt_mul (Nat.two_pow_pos k), ← hp]
      exact hl
    have h4 : (2 : Nat) ^ (32 - k) ≤ 2 ^ 31 := Nat.pow_le_pow_right (by omega) (by omega)
    have h5 := znn' (x := (x.toUInt32 >>> (y.toUInt32 &&& Int32.toUInt32 31)).toInt32) (by rw [e]; omega)
    refine ⟨_, List.mem_cons_self, by show 0 ≤ _; omega, ?_⟩
    show _ ≤ zpow (32 - (zlo env b.1 + b.2)) - 1
    have h6 : zpow (32 - (zlo env b.1 + b.2)) = ((2 ^ (32 - k) : Nat) : Int) := by
      unfold zpow
      rw [show (32 - (zlo env b.1 + b.2)).toNat = 32 - k by omega]
    rw [h6, h5, e]
    omega
  · rw [if_neg h]
    exact zFull_in _
theorem zb_rng (x : Int32) : zInIv x.toInt8.toInt32.toInt [(-128, 127)] := by
  rw [Int8.toInt_toInt32]
  have h1 := Int8.le_toInt x.toInt8
  have h2 := Int8.toInt_lt x.toInt8
  exact ⟨_, List.mem_cons_self, by show (-128 : Int) ≤ _; omega, by show _ ≤ (127 : Int); omega⟩
theorem zs_rng (x : Int32) : zInIv x.toInt16.toInt32.toInt [(-32768, 32767)] := by
  rw [Int16.toInt_toInt32]
  have h1 := Int16.le_toInt x.toInt16
  have h2 := Int16.toInt_lt x.toInt16
  exact ⟨_, List.mem_cons_self, by show (-32768 : Int) ≤ _; omega, by show _ ≤ (32767 : Int); omega⟩
theorem zc_rng (x : Int32) : zInIv ((x.toUInt32 % 65536).toInt32).toInt [(0, 65535)] := by
  rw [pk_char x]
  have h : x.toBitVec.toNat % 65536 < 65536 := Nat.mod_lt _ (by omega)
  rw [nI_toInt (by omega)]
  exact ⟨_, List.mem_cons_self, by show (0 : Int) ≤ _; omega, by show _ ≤ (65535 : Int); omega⟩
