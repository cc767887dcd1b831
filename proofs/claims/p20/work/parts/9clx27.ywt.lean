/-! TEXTS: WHAT THEY ARE WORTH, THE CLASS -/
theorem yWk_g {S : Nat → Int × Int} {n a : Int} {N : Nat → Int} {f : Nat} {st : List Int} {c : Int × Int} (hc : S (Int.toNat a) = c) (h : a < n) (h1 : c.1 = 59 → st = []) (h2 : c.1 = 63 → st = []) : yWk S n N (f + 1) a st = yWk S n N f (a + 1) (yXs N c st) := by
  subst hc
  exact (if_pos h).trans ((if_neg (fun z => z.2 (h1 z.1))).trans (if_neg (fun z => z.2 (h2 z.1))))
theorem yWk_V {S : Nat → Int × Int} {n a : Int} {N : Nat → Int} {f : Nat} {st : List Int} {s k : Int} (hc : S (Int.toNat a) = (s, k)) (h : a < n) (hs : s = 86) : yWk S n N (f + 1) a st = yWk S n N f (a + 1) (k :: st) := by
  subst hs
  exact yWk_g hc h (fun z => absurd z (show ¬ (86 : Int) = 59 by decide)) (fun z => absurd z (show ¬ (86 : Int) = 63 by decide))
theorem yWk_N {S : Nat → Int × Int} {n a : Int} {N : Nat → Int} {f : Nat} {st : List Int} {s k : Int} (hc : S (Int.toNat a) = (s, k)) (h : a < n) (hs : s = 78) : yWk S n N (f + 1) a st = yWk S n N f (a + 1) (N (Int.toNat k) :: st) := by
  subst hs
  exact yWk_g hc h (fun z => absurd z (show ¬ (78 : Int) = 59 by decide)) (fun z => absurd z (show ¬ (78 : Int) = 63 by decide))
theorem yWk_M {S : Nat → Int × Int} {n a x : Int} {N : Nat → Int} {f : Nat} {st : List Int} {s k : Int} (hc : S (Int.toNat a) = (s, k)) (h : a < n) (hs : s = 77) : yWk S n N (f + 1) a (x :: st) = yWk S n N f (a + 1) (yw (-x) :: st) := by
  subst hs
  exact yWk_g hc h (fun z => absurd z (show ¬ (77 : Int) = 59 by decide)) (fun z => absurd z (show ¬ (77 : Int) = 63 by decide))
theorem yWk_n {S : Nat → Int × Int} {n a x : Int} {N : Nat → Int} {f : Nat} {st : List Int} {s k : Int} (hc : S (Int.toNat a) = (s, k)) (h : a < n) (hs : s = 33) : yWk S n N (f + 1) a (x :: st) = yWk S n N f (a + 1) ((if x = 0 then 1 else 0) :: st) := by
  subst hs
  exact yWk_g hc h (fun z => absurd z (show ¬ (33 : Int) = 59 by decide)) (fun z => absurd z (show ¬ (33 : Int) = 63 by decide))
theorem yWk_B {S : Nat → Int × Int} {n a x y : Int} {N : Nat → Int} {f : Nat} {st : List Int} {s k : Int} (hc : S (Int.toNat a) = (s, k)) (h : a < n) (h1 : s ≠ 86) (h2 : s ≠ 78) (h3 : s ≠ 77) (h4 : s ≠ 33) (h5 : s ≠ 59) (h6 : s ≠ 63) : yWk S n N (f + 1) a (y :: x :: st) = yWk S n N f (a + 1) (yJn s x y :: st) := by
  rw [yWk_g hc h (fun z => absurd z h5) (fun z => absurd z h6)]
  have e : yXs N (s, k) (y :: x :: st) = yJn s x y :: st := by
    unfold yXs
    rw [if_neg h1, if_neg h2, if_neg h3, if_neg h4]
  rw [e]
theorem yWk_0 {S : Nat → Int × Int} {n a : Int} {N : Nat → Int} {f : Nat} {s k : Int} (hc : S (Int.toNat a) = (s, k)) (h : a < n) (h1 : s ≠ 86) (h2 : s ≠ 78) : yWk S n N (f + 1) a [] = yWk S n N f (a + 1) [] := by
  rw [yWk_g hc h (fun _ => rfl) (fun _ => rfl)]
  have e : yXs N (s, k) [] = [] := by
    by_cases e1 : s = 77
    · exact (if_neg h1).trans ((if_neg h2).trans (if_pos e1))
    · by_cases e2 : s = 33
      · exact (if_neg h1).trans ((if_neg h2).trans ((if_neg e1).trans (if_pos e2)))
      · exact (if_neg h1).trans ((if_neg h2).trans ((if_neg e1).trans (if_neg e2)))
  rw [e]
theorem yWk_1 {S : Nat → Int × Int} {n a x : Int} {N : Nat → Int} {f : Nat} {s k : Int} (hc : S (Int.toNat a) = (s, k)) (h : a < n) (h1 : s ≠ 86) (h2 : s ≠ 78) (h3 : s ≠ 77) (h4 : s ≠ 33) (h5 : s ≠ 59) (h6 : s ≠ 63) : yWk S n N (f + 1) a [x] = yWk S n N f (a + 1) [x] := by
  rw [yWk_g hc h (fun z => absurd z h5) (fun z => absurd z h6)]
  have e : yXs N (s, k) [x] = [x] := by
    unfold yXs
    rw [if_neg h1, if_neg h2, if_neg h3, if_neg h4]
  rw [e]
theorem yWk_E {S : Nat → Int × Int} {n a v : Int} {N : Nat → Int} {f : Nat} {st : List Int} {s k : Int} (hc : S (Int.toNat a) = (s, k)) (h : a < n) (hs : s = 59) : yWk S n N (f + 1) a (v :: st) = v := yWk_end h (by rw [hc]; exact hs)
theorem yWk_C {S : Nat → Int × Int} {n a v : Int} {N : Nat → Int} {f : Nat} {st : List Int} {s k : Int} (hc : S (Int.toNat a) = (s, k)) (h : a < n) (hs : s = 63) : yWk S n N (f + 1) a (v :: st) = yWk S n N f (if v = 0 then k else a + 1) st := by
  rw [yWk_cond h (by rw [hc]; exact hs), hc]
/-- a stack: the last one first -/
def ySk (S : Nat → Int) : List Int → Prop
  | [] => True
  | x :: r => S r.length = x ∧ ySk S r
theorem ySk.w {S S' : Nat → Int} : ∀ {st : List Int}, ySk S st → (∀ j : Nat, j < st.length → S' j = S j) → ySk S' st
  | [], _, _ => trivial
  | x :: r, h, e => ⟨(e r.length (by rw [List.length_cons]; omega)).trans h.1, ySk.w h.2 (fun j hj => e j (by rw [List.length_cons]; omega))⟩
theorem ySk.push {m : yM} {c : Nat} {t v : Int} {st : List Int} (h : ySk (m c) st) (ht : t = (st.length : Int)) : ySk ((yset m c (Int.toNat t) v) c) (v :: st) := by
  have e : Int.toNat t = st.length := by omega
  rw [e]
  exact ⟨yset_eq, h.w (fun j hj => yset_nj (by omega))⟩
theorem ySk.top {m : yM} {c : Nat} {t x : Int} {st : List Int} (h : ySk (m c) (x :: st)) (ht : t = (st.length : Int) + 1) : m c (Int.toNat (t - 1)) = x := by
  rw [show Int.toNat (t - 1) = st.length by omega]
  exact h.1
theorem ySk.set {m : yM} {c : Nat} {t x v : Int} {st : List Int} (h : ySk (m c) (x :: st)) (ht : t = (st.length : Int) + 1) : ySk ((yset m c (Int.toNat (t - 1)) v) c) (v :: st) := by
  rw [show Int.toNat (t - 1) = st.length by omega]
  exact ⟨yset_eq, h.2.w (fun j hj => yset_nj (by omega))⟩
theorem ySk.top2 {m : yM} {c : Nat} {t x y : Int} {st : List Int} (h : ySk (m c) (y :: x :: st)) (ht : t = (st.length : Int) + 2) : m c (Int.toNat (t - 1)) = y ∧ m c (Int.toNat (t - 2)) = x := by
  rw [show Int.toNat (t - 1) = st.length + 1 by omega, show Int.toNat (t - 2) = st.length by omega]
  exact ⟨h.1, h.2.1⟩
theorem ySk.set2 {m : yM} {c : Nat} {t x y v : Int} {st : List Int} (h : ySk (m c) (y :: x :: st)) (ht : t = (st.length : Int) + 2) : ySk ((yset m c (Int.toNat (t - 2)) v) c) (v :: st) := by
  rw [show Int.toNat (t - 2) = st.length by omega]
  exact ⟨yset_eq, h.2.2.w (fun j hj => yset_nj (by omega))⟩
theorem yTy.fI {q : Nat} (hq : q = 31 ∨ q = 32) {g : yM} (h : yTy zpZ g) {j : Nat} (hj : j < 61) : yTI (g q j) (g (q + 2) j) := by
  obtain ⟨gh, hg, hT⟩ := h
  obtain ⟨t1, t2⟩ := hT _ (List.mem_of_getElem? (i := 30) rfl) q (by show 31 ≤ q; omega) (by show q ≤ 32; omega)
  exact t1 j hj
theorem yTy.sW {q j : Nat} (hq : q = 35 ∨ q = 36) {g : yM} {v : Int} (h : yTy zpZ g) (hv : -2147483648 ≤ v ∧ v ≤ 2147483647) : yTy zpZ (yset g q j v) := by
  obtain ⟨gh, hg, hT⟩ := h
  exact ⟨gh, hg, hT.set zpDj (List.mem_of_getElem? (i := 32) rfl) (by show 35 ≤ q; omega) (by show q ≤ 36; omega) ⟨by show 1 ≠ 6; decide, fun e he h e1 e2 e3 => by have := yk6 e he h; omega⟩ ⟨fun ci ln fts ft h1 h2 => (by cases h1), fun k t0 len fts ft h1 h2 h3 => by
    cases h1
    cases h3
    exact hv⟩⟩
theorem yTy.fW {q j : Nat} (hq : q = 35 ∨ q = 36) {g : yM} (h : yTy zpZ g) (hj : j < 61) : -2147483648 ≤ g q j ∧ g q j ≤ 2147483647 := by
  obtain ⟨gh, hg, hT⟩ := h
  exact hT _ (List.mem_of_getElem? (i := 32) rfl) q (by show 35 ≤ q; omega) (by show q ≤ 36; omega) j _ hj rfl
theorem yTy.fRs {q : Nat} (hq : q = 10 ∨ q = 11) {g : yM} (h : yTy zpZ g) : 0 ≤ g q 4 ∧ g q 4 ≤ 61 := by
  obtain ⟨gh, hg, hT⟩ := h
  have z := hT _ (List.mem_of_getElem? (i := 10) rfl) q (by show 10 ≤ q; omega) (by show q ≤ 11; omega) 4 (8, 0, 61) rfl
  exact z.1
/-- numbers in a text are ints -/
def yNr (g : yM) : Prop := ∀ q j : Nat, 33 ≤ q → q ≤ 34 → j < 61 → -2147483648 ≤ g q j ∧ g q j ≤ 2147483647
theorem yNr_of {ad : Nat → Nat} {tys : List (ClassId × FieldType)} {ws : va_W} {g : yM} (h : yMem zpZ ad tys ws g) : yNr g := fun q j h1 h2 hj => by
  obtain ⟨cA, f, -, -, h3⟩ := h _ (List.mem_of_getElem? (i := 31) rfl) q (by show 33 ≤ q; omega) (by show q ≤ 34; omega)
  have e := h3 j hj
  rw [← e]
  have a1 := Int32.le_toInt (f j)
  have a2 := Int32.toInt_lt (f j)
  omega
theorem yw_rg (z : Int) : -2147483648 ≤ yw z ∧ yw z ≤ 2147483647 := by
  unfold yw
  have h1 := Int.le_bmod (x := z) (m := 4294967296) (by decide)
  have h2 := Int.bmod_lt (x := z) (m := 4294967296) (by decide)
  omega
theorem yJn_rng (s x y : Int) : -2147483648 ≤ yJn s x y ∧ yJn s x y ≤ 2147483647 := by
  unfold yJn
  repeat' split
  all_goals first
    | exact yw_rg _
    | exact yb_rng _ _ _
    | decide
def yWtx (q : Nat) (g : yM) (N : Nat → Int) (n : Nat) (a : Int) (st : List Int) : Int := yWk (fun j => (g (q + 21) j, g (q + 23) j)) (g q 4) N n a st
def yP_JN : yPT := fun as g K => ∃ (s x y : Int), as = [(1, s), (1, x), (1, y)] ∧ (∀ (r : Int), (r = yJn s x y) → K [(1, r)] g)
def yC_JN : yC := (109, (1, 40), yP_JN)
set_option maxRecDepth 8000 in
theorem yv_JN {K : List yV → yM → Prop} {Y : yNx} {g : yM} {s x y : Int} (hY : yCl zpD109 (zpZ, zpRS, zpP10, zpMT, [], (1, 40), 1) K Y) (hr_s : -2147483648 ≤ s ∧ s ≤ 2147483647) (hr_x : -2147483648 ≤ x ∧ x ≤ 2147483647) (hr_y : -2147483648 ≤ y ∧ y ≤ 2147483647) (hK : ∀ (r : Int), (r = yJn s x y) → K [(1, r)] g) : Y 0 [(1, s), (1, x), (1, y)] [] g := by
  refine yrun_ok (sp := fun pc => false) hY 9 0 _ [] g ?_
  show (((∀ q ∈ ([(38, 97), (42, 152), (43, 144), (45, 148), (47, 156), (60, 111), (61, 122), (62, 133), (124, 83)] : List (Int × Int)), q.1 ≠ s) → ((y ≠ 0 → ((y : Int) ≠ 0 ∧ (K [(1, (yb (fun x y => x - x / y * y) x y))] g))) ∧ (¬ (y ≠ 0) → (K [(1, 0)] g)))) ∧ (s = 38 → ((x = 0 → (K [(1, 0)] g)) ∧ (¬ (x = 0) → ((y = 0 → (K [(1, 0)] g)) ∧ (¬ (y = 0) → (K [(1, 1)] g)))))) ∧ (s = 42 → (K [(1, (yw (x * y)))] g)) ∧ (s = 43 → (K [(1, (yw (x + y)))] g)) ∧ (s = 45 → (K [(1, (yw (x - y)))] g)) ∧ (s = 47 → ((y ≠ 0 → ((y : Int) ≠ 0 ∧ (K [(1, (yb (fun x y => x / y) x y))] g))) ∧ (¬ (y ≠ 0) → (K [(1, 0)] g)))) ∧ (s = 60 → ((y ≤ x → (K [(1, 0)] g)) ∧ (¬ (y ≤ x) → (K [(1, 1)] g)))) ∧ (s = 61 → ((x ≠ y → (K [(1, 0)] g)) ∧ (¬ (x ≠ y) → (K [(1, 1)] g)))) ∧ (s = 62 → ((x ≤ y → (K [(1, 0)] g)) ∧ (¬ (x ≤ y) → (K [(1, 1)] g)))) ∧ (s = 124 → ((x ≠ 0 → (K [(1, 1)] g)) ∧ (¬ (x ≠ 0) → ((y = 0 → (K [(1, 0)] g)) ∧ (¬ (y = 0) → (K [(1, 1)] g)))))) ∧ True)
  refine ⟨fun h1 => ?_, fun h1 => ?_, fun h1 => ?_, fun h1 => ?_, fun h1 => ?_, fun h1 => ?_, fun h1 => ?_, fun h1 => ?_, fun h1 => ?_, fun h1 => ?_, trivial⟩
  · refine ⟨fun h2 => ?_, fun h2 => ?_⟩
    · refine ⟨(by omega), ?_⟩
      have n38 : s ≠ 38 := fun e => h1 (38, 97) (by simp) e.symm
      have n42 : s ≠ 42 := fun e => h1 (42, 152) (by simp) e.symm
      have n43 : s ≠ 43 := fun e => h1 (43, 144) (by simp) e.symm
      have n45 : s ≠ 45 := fun e => h1 (45, 148) (by simp) e.symm
      have n47 : s ≠ 47 := fun e => h1 (47, 156) (by simp) e.symm
      have n60 : s ≠ 60 := fun e => h1 (60, 111) (by simp) e.symm
      have n61 : s ≠ 61 := fun e => h1 (61, 122) (by simp) e.symm
      have n62 : s ≠ 62 := fun e => h1 (62, 133) (by simp) e.symm
      have n124 : s ≠ 124 := fun e => h1 (124, 83) (by simp) e.symm
      refine hK _ ?_
      unfold yJn
      repeat' split
      all_goals first
        | omega
        | rfl
    · have n38 : s ≠ 38 := fun e => h1 (38, 97) (by simp) e.symm
      have n42 : s ≠ 42 := fun e => h1 (42, 152) (by simp) e.symm
      have n43 : s ≠ 43 := fun e => h1 (43, 144) (by simp) e.symm
      have n45 : s ≠ 45 := fun e => h1 (45, 148) (by simp) e.symm
      have n47 : s ≠ 47 := fun e => h1 (47, 156) (by simp) e.symm
      have n60 : s ≠ 60 := fun e => h1 (60, 111) (by simp) e.symm
      have n61 : s ≠ 61 := fun e => h1 (61, 122) (by simp) e.symm
      have n62 : s ≠ 62 := fun e => h1 (62, 133) (by simp) e.symm
      have n124 : s ≠ 124 := fun e => h1 (124, 83) (by simp) e.symm
      refine hK _ ?_
      unfold yJn
      repeat' split
      all_goals first
        | omega
        | rfl
  · refine ⟨fun h3 => ?_, fun h3 => ?_⟩
    · refine hK _ ?_
      unfold yJn
      repeat' split
      all_goals first
        | omega
        | rfl
    · refine ⟨fun h4 => ?_, fun h4 => ?_⟩
      · refine hK _ ?_
        unfold yJn
        repeat' split
        all_goals first
          | omega
          | rfl
      · refine hK _ ?_
        unfold yJn
        repeat' split
        all_goals first
          | omega
          | rfl
  · refine hK _ ?_
    unfold yJn
    repeat' split
    all_goals first
      | omega
      | rfl
  · refine hK _ ?_
    unfold yJn
    repeat' split
    all_goals first
      | omega
      | rfl
  · refine hK _ ?_
    unfold yJn
    repeat' split
    all_goals first
      | omega
      | rfl
  · refine ⟨fun h5 => ?_, fun h5 => ?_⟩
    · refine ⟨(by omega), ?_⟩
      refine hK _ ?_
      unfold yJn
      repeat' split
      all_goals first
        | omega
        | rfl
    · refine hK _ ?_
      unfold yJn
      repeat' split
      all_goals first
        | omega
        | rfl
  · refine ⟨fun h6 => ?_, fun h6 => ?_⟩
    · refine hK _ ?_
      unfold yJn
      repeat' split
      all_goals first
        | omega
        | rfl
    · refine hK _ ?_
      unfold yJn
      repeat' split
      all_goals first
        | omega
        | rfl
  · refine ⟨fun h7 => ?_, fun h7 => ?_⟩
    · refine hK _ ?_
      unfold yJn
      repeat' split
      all_goals first
        | omega
        | rfl
    · refine hK _ ?_
      unfold yJn
      repeat' split
      all_goals first
        | omega
        | rfl
  · refine ⟨fun h8 => ?_, fun h8 => ?_⟩
    · refine hK _ ?_
      unfold yJn
      repeat' split
      all_goals first
        | omega
        | rfl
    · refine hK _ ?_
      unfold yJn
      repeat' split
      all_goals first
        | omega
        | rfl
  · refine ⟨fun h9 => ?_, fun h9 => ?_⟩
    · refine hK _ ?_
      unfold yJn
      repeat' split
      all_goals first
        | omega
        | rfl
    · refine ⟨fun h10 => ?_, fun h10 => ?_⟩
      · refine hK _ ?_
        unfold yJn
        repeat' split
        all_goals first
          | omega
          | rfl
      · refine hK _ ?_
        unfold yJn
        repeat' split
        all_goals first
          | omega
          | rfl
theorem yM_JN {l : Launch} {Ts : List Cond} {cl : List vw_C} {RO : zRO} (H : zHyp Ts cl RO) : yMet l Ts cl zpZ RO zpMT yC_JN := ymet_of2 H.1 H.2.1 zpDj H.2.2.1 yRb H.p10 ymets_nil (zrc1 rfl) (plainFor_of_name zpy10) zpDk109 (fun as g K Y h hA hY => by
  obtain ⟨s, x, y, rfl, hK⟩ := h
  exact yv_JN hY (yAr1 hA (by simp)) (yAr1 hA (by simp)) (yAr1 hA (by simp)) hK)
def zpD118 (pc : Nat) : Option (Instr × Nat) := bif Nat.ble 254 pc then none else (bif Nat.ble 134 pc then (bif Nat.ble 195 pc then (bif Nat.ble 225 pc then (bif Nat.ble 237 pc then (bif Nat.ble 245 pc then (bif Nat.ble 249 pc then (bif Nat.ble 252 pc then (bif Nat.ble 253 pc then (bif Nat.beq pc 253 then some (.ireturn, 1) else none) else (bif Nat.beq pc 252 then some (.iconst 0, 1) else none)) else (bif Nat.beq pc 249 then some (.goto (-242), 3) else none)) else (bif Nat.ble 246 pc then (bif Nat.beq pc 246 then some (.iinc 4 1, 3) else none) else (bif Nat.beq pc 245 then some (.iastore, 1) else none))) else (bif Nat.ble 241 pc then (bif Nat.ble 242 pc then (bif Nat.beq pc 242 then some (.invokestatic 51, 3) else none) else (bif Nat.beq pc 241 then some (.iaload, 1) else none)) else (bif Nat.ble 240 pc then (bif Nat.beq pc 240 then some (.iload_n 2, 1) else none) else (bif Nat.beq pc 237 then some (.getfield 18, 3) else none)))) else (bif Nat.ble 232 pc then (bif Nat.ble 234 pc then (bif Nat.ble 235 pc then (bif Nat.ble 236 pc then (bif Nat.beq pc 236 then some (.aload_n 0, 1) else none) else (bif Nat.beq pc 235 then some (.iaload, 1) else none)) else (bif Nat.beq pc 234 then some (.isub, 1) else none)) else (bif Nat.ble 233 pc then (bif Nat.beq pc 233 then some (.iconst 1, 1) else none) else (bif Nat.beq pc 232 then some (.iload_n 2, 1) else none))) else (bif Nat.ble 228 pc then (bif Nat.ble 229 pc then (bif Nat.beq pc 229 then some (.getfield 18, 3) else none) else (bif Nat.beq pc 228 then some (.aload_n 0, 1) else none)) else (bif Nat.ble 226 pc then (bif Nat.beq pc 226 then some (.iload 5, 2) else none) else (bif Nat.beq pc 225 then some (.isub, 1) else none))))) else (bif Nat.ble 208 pc then (bif Nat.ble 216 pc then (bif Nat.ble 220 pc then (bif Nat.ble 223 pc then (bif Nat.ble 224 pc then (bif Nat.beq pc 224 then some (.iconst 1, 1) else none) else (bif Nat.beq pc 223 then some (.iload_n 2, 1) else none)) else (bif Nat.beq pc 220 then some (.getfield 18, 3) else none)) else (bif Nat.ble 219 pc then (bif Nat.beq pc 219 then some (.aload_n 0, 1) else none) else (bif Nat.beq pc 216 then some (.iinc 2 (-1), 3) else none))) else (bif Nat.ble 212 pc then (bif Nat.ble 213 pc then (bif Nat.beq pc 213 then some (.if_icmp .le 33, 3) else none) else (bif Nat.beq pc 212 then some (.iconst 1, 1) else none)) else (bif Nat.ble 211 pc then (bif Nat.beq pc 211 then some (.iload_n 2, 1) else none) else (bif Nat.beq pc 208 then some (.goto 38, 3) else none)))) else (bif Nat.ble 199 pc then (bif Nat.ble 203 pc then (bif Nat.ble 206 pc then (bif Nat.ble 207 pc then (bif Nat.beq pc 207 then some (.iastore, 1) else none) else (bif Nat.beq pc 206 then some (.iconst 0, 1) else none)) else (bif Nat.beq pc 203 then some (.goto 4, 3) else none)) else (bif Nat.ble 202 pc then (bif Nat.beq pc 202 then some (.iconst 1, 1) else none) else (bif Nat.beq pc 199 then some (.ifCond .ne 7, 3) else none))) else (bif Nat.ble 197 pc then (bif Nat.ble 198 pc then (bif Nat.beq pc 198 then some (.iaload, 1) else none) else (bif Nat.beq pc 197 then some (.isub, 1) else none)) else (bif Nat.ble 196 pc then (bif Nat.beq pc 196 then some (.iconst 1, 1) else none) else (bif Nat.beq pc 195 then some (.iload_n 2, 1) else none)))))) else (bif Nat.ble 165 pc then (bif Nat.ble 179 pc then (bif Nat.ble 188 pc then (bif Nat.ble 190 pc then (bif Nat.ble 191 pc then (bif Nat.ble 192 pc then (bif Nat.beq pc 192 then some (.getfield 18, 3) else none) else (bif Nat.beq pc 191 then some (.aload_n 0, 1) else none)) else (bif Nat.beq pc 190 then some (.isub, 1) else none)) else (bif Nat.ble 189 pc then (bif Nat.beq pc 189 then some (.iconst 1, 1) else none) else (bif Nat.beq pc 188 then some (.iload_n 2, 1) else none))) else (bif Nat.ble 184 pc then (bif Nat.ble 185 pc then (bif Nat.beq pc 185 then some (.getfield 18, 3) else none) else (bif Nat.beq pc 184 then some (.aload_n 0, 1) else none)) else (bif Nat.ble 181 pc then (bif Nat.beq pc 181 then some (.if_icmp .ne 30, 3) else none) else (bif Nat.beq pc 179 then some (.bipush 33, 2) else none)))) else (bif Nat.ble 169 pc then (bif Nat.ble 173 pc then (bif Nat.ble 174 pc then (bif Nat.ble 177 pc then (bif Nat.beq pc 177 then some (.iload 5, 2) else none) else (bif Nat.beq pc 174 then some (.ifCond .le 37, 3) else none)) else (bif Nat.beq pc 173 then some (.iload_n 2, 1) else none)) else (bif Nat.ble 170 pc then (bif Nat.beq pc 170 then some (.goto 76, 3) else none) else (bif Nat.beq pc 169 then some (.iastore, 1) else none))) else (bif Nat.ble 167 pc then (bif Nat.ble 168 pc then (bif Nat.beq pc 168 then some (.ineg, 1) else none) else (bif Nat.beq pc 167 then some (.iaload, 1) else none)) else (bif Nat.ble 166 pc then (bif Nat.beq pc 166 then some (.isub, 1) else none) else (bif Nat.beq pc 165 then some (.iconst 1, 1) else none))))) else (bif Nat.ble 150 pc then (bif Nat.ble 158 pc then (bif Nat.ble 160 pc then (bif Nat.ble 161 pc then (bif Nat.ble 164 pc then (bif Nat.beq pc 164 then some (.iload_n 2, 1) else none) else (bif Nat.beq pc 161 then some (.getfield 18, 3) else none)) else (bif Nat.beq pc 160 then some (.aload_n 0, 1) else none)) else (bif Nat.ble 159 pc then (bif Nat.beq pc 159 then some (.isub, 1) else none) else (bif Nat.beq pc 158 then some (.iconst 1, 1) else none))) else (bif Nat.ble 154 pc then (bif Nat.ble 157 pc then (bif Nat.beq pc 157 then some (.iload_n 2, 1) else none) else (bif Nat.beq pc 154 then some (.getfield 18, 3) else none)) else (bif Nat.ble 153 pc then (bif Nat.beq pc 153 then some (.aload_n 0, 1) else none) else (bif Nat.beq pc 150 then some (.if_icmp .ne 23, 3) else none)))) else (bif Nat.ble 142 pc then (bif Nat.ble 146 pc then (bif Nat.ble 148 pc then (bif Nat.beq pc 148 then some (.bipush 77, 2) else none) else (bif Nat.beq pc 146 then some (.iload 5, 2) else none)) else (bif Nat.ble 143 pc then (bif Nat.beq pc 143 then some (.ifCond .le 30, 3) else none) else (bif Nat.beq pc 142 then some (.iload_n 2, 1) else none))) else (bif Nat.ble 138 pc then (bif Nat.ble 139 pc then (bif Nat.beq pc 139 then some (.goto 107, 3) else none) else (bif Nat.beq pc 138 then some (.istore_n 3, 1) else none)) else (bif Nat.ble 137 pc then (bif Nat.beq pc 137 then some (.iload_n 3, 1) else none) else (bif Nat.beq pc 134 then some (.goto 4, 3) else none))))))) else (bif Nat.ble 65 pc then (bif Nat.ble 101 pc then (bif Nat.ble 115 pc then (bif Nat.ble 124 pc then (bif Nat.ble 128 pc then (bif Nat.ble 129 pc then (bif Nat.ble 132 pc then (bif Nat.beq pc 132 then some (.iload 6, 2) else none) else (bif Nat.beq pc 129 then some (.ifCond .ne 8, 3) else none)) else (bif Nat.beq pc 128 then some (.iaload, 1) else none)) else (bif Nat.ble 127 pc then (bif Nat.beq pc 127 then some (.iload_n 2, 1) else none) else (bif Nat.beq pc 124 then some (.getfield 18, 3) else none))) else (bif Nat.ble 120 pc then (bif Nat.ble 123 pc then (bif Nat.beq pc 123 then some (.aload_n 0, 1) else none) else (bif Nat.beq pc 120 then some (.iinc 2 (-1), 3) else none)) else (bif Nat.ble 117 pc then (bif Nat.beq pc 117 then some (.if_icmp .ne 25, 3) else none) else (bif Nat.beq pc 115 then some (.bipush 63, 2) else none)))) else (bif Nat.ble 107 pc then (bif Nat.ble 109 pc then (bif Nat.ble 110 pc then (bif Nat.ble 113 pc then (bif Nat.beq pc 113 then some (.iload 5, 2) else none) else (bif Nat.beq pc 110 then some (.ifCond .le 32, 3) else none)) else (bif Nat.beq pc 109 then some (.iload_n 2, 1) else none)) else (bif Nat.ble 108 pc then (bif Nat.beq pc 108 then some (.ireturn, 1) else none) else (bif Nat.beq pc 107 then some (.iaload, 1) else none))) else (bif Nat.ble 105 pc then (bif Nat.ble 106 pc then (bif Nat.beq pc 106 then some (.isub, 1) else none) else (bif Nat.beq pc 105 then some (.iconst 1, 1) else none)) else (bif Nat.ble 104 pc then (bif Nat.beq pc 104 then some (.iload_n 2, 1) else none) else (bif Nat.beq pc 101 then some (.getfield 18, 3) else none))))) else (bif Nat.ble 82 pc then (bif Nat.ble 90 pc then (bif Nat.ble 95 pc then (bif Nat.ble 97 pc then (bif Nat.ble 100 pc then (bif Nat.beq pc 100 then some (.aload_n 0, 1) else none) else (bif Nat.beq pc 97 then some (.if_icmp .ne 12, 3) else none)) else (bif Nat.beq pc 95 then some (.bipush 59, 2) else none)) else (bif Nat.ble 93 pc then (bif Nat.beq pc 93 then some (.iload 5, 2) else none) else (bif Nat.beq pc 90 then some (.ifCond .le 19, 3) else none))) else (bif Nat.ble 86 pc then (bif Nat.ble 89 pc then (bif Nat.beq pc 89 then some (.iload_n 2, 1) else none) else (bif Nat.beq pc 86 then some (.goto 160, 3) else none)) else (bif Nat.ble 83 pc then (bif Nat.beq pc 83 then some (.iinc 2 1, 3) else none) else (bif Nat.beq pc 82 then some (.iastore, 1) else none)))) else (bif Nat.ble 73 pc then (bif Nat.ble 78 pc then (bif Nat.ble 79 pc then (bif Nat.ble 81 pc then (bif Nat.beq pc 81 then some (.iaload, 1) else none) else (bif Nat.beq pc 79 then some (.iload 6, 2) else none)) else (bif Nat.beq pc 78 then some (.aload_n 1, 1) else none)) else (bif Nat.ble 75 pc then (bif Nat.beq pc 75 then some (.goto 7, 3) else none) else (bif Nat.beq pc 73 then some (.iload 6, 2) else none))) else (bif Nat.ble 68 pc then (bif Nat.ble 70 pc then (bif Nat.beq pc 70 then some (.if_icmp .ne 8, 3) else none) else (bif Nat.beq pc 68 then some (.bipush 86, 2) else none)) else (bif Nat.ble 66 pc then (bif Nat.beq pc 66 then some (.iload 5, 2) else none) else (bif Nat.beq pc 65 then some (.iload_n 2, 1) else none)))))) else (bif Nat.ble 28 pc then (bif Nat.ble 44 pc then (bif Nat.ble 54 pc then (bif Nat.ble 58 pc then (bif Nat.ble 61 pc then (bif Nat.ble 62 pc then (bif Nat.beq pc 62 then some (.getfield 18, 3) else none) else (bif Nat.beq pc 61 then some (.aload_n 0, 1) else none)) else (bif Nat.beq pc 58 then some (.if_icmp .ne 31, 3) else none)) else (bif Nat.ble 56 pc then (bif Nat.beq pc 56 then some (.bipush 78, 2) else none) else (bif Nat.beq pc 54 then some (.iload 5, 2) else none))) else (bif Nat.ble 49 pc then (bif Nat.ble 51 pc then (bif Nat.beq pc 51 then some (.if_icmp .eq 10, 3) else none) else (bif Nat.beq pc 49 then some (.bipush 86, 2) else none)) else (bif Nat.ble 47 pc then (bif Nat.beq pc 47 then some (.iload 5, 2) else none) else (bif Nat.beq pc 44 then some (.if_icmp .ge 45, 3) else none)))) else (bif Nat.ble 35 pc then (bif Nat.ble 38 pc then (bif Nat.ble 41 pc then (bif Nat.ble 42 pc then (bif Nat.beq pc 42 then some (.bipush 61, 2) else none) else (bif Nat.beq pc 41 then some (.iload_n 2, 1) else none)) else (bif Nat.beq pc 38 then some (.iinc 3 1, 3) else none)) else (bif Nat.ble 36 pc then (bif Nat.beq pc 36 then some (.istore 6, 2) else none) else (bif Nat.beq pc 35 then some (.iaload, 1) else none))) else (bif Nat.ble 31 pc then (bif Nat.ble 34 pc then (bif Nat.beq pc 34 then some (.iload_n 3, 1) else none) else (bif Nat.beq pc 31 then some (.getfield 15, 3) else none)) else (bif Nat.ble 30 pc then (bif Nat.beq pc 30 then some (.aload_n 0, 1) else none) else (bif Nat.beq pc 28 then some (.istore 5, 2) else none))))) else (bif Nat.ble 11 pc then (bif Nat.ble 19 pc then (bif Nat.ble 23 pc then (bif Nat.ble 26 pc then (bif Nat.ble 27 pc then (bif Nat.beq pc 27 then some (.iaload, 1) else none) else (bif Nat.beq pc 26 then some (.iload_n 3, 1) else none)) else (bif Nat.beq pc 23 then some (.getfield 11, 3) else none)) else (bif Nat.ble 22 pc then (bif Nat.beq pc 22 then some (.aload_n 0, 1) else none) else (bif Nat.beq pc 19 then some (.if_icmp .ge 233, 3) else none))) else (bif Nat.ble 15 pc then (bif Nat.ble 16 pc then (bif Nat.beq pc 16 then some (.getfield 25, 3) else none) else (bif Nat.beq pc 15 then some (.aload_n 0, 1) else none)) else (bif Nat.ble 14 pc then (bif Nat.beq pc 14 then some (.iload_n 3, 1) else none) else (bif Nat.beq pc 11 then some (.if_icmp .ge 241, 3) else none)))) else (bif Nat.ble 4 pc then (bif Nat.ble 7 pc then (bif Nat.ble 9 pc then (bif Nat.beq pc 9 then some (.bipush 61, 2) else none) else (bif Nat.beq pc 7 then some (.iload 4, 2) else none)) else (bif Nat.ble 5 pc then (bif Nat.beq pc 5 then some (.istore 4, 2) else none) else (bif Nat.beq pc 4 then some (.iconst 0, 1) else none))) else (bif Nat.ble 2 pc then (bif Nat.ble 3 pc then (bif Nat.beq pc 3 then some (.istore_n 3, 1) else none) else (bif Nat.beq pc 2 then some (.iconst 0, 1) else none)) else (bif Nat.ble 1 pc then (bif Nat.beq pc 1 then some (.istore_n 2, 1) else none) else (bif Nat.beq pc 0 then some (.iconst 0, 1) else none))))))))
theorem zpDk118 : ∀ (pc : Nat) (q : Instr × Nat), zpD118 pc = some q → decode (zpMT 118).2.1 pc = .ok q := zDok_ok (n := 254) (fun pc h => by unfold zpD118; rw [Nat.ble_eq_true_of_le h]; rfl) (by decide +kernel)
def yP_WT_10 : yPT := fun as g K => as = [(3, 10), (3, 26)] ∧ (yTy zpZ g) ∧ (0 ≤ g 10 4 ∧ g 10 4 ≤ 61) ∧ (yNr g) ∧ (∀ (r : Int) (g' : yM), (r = yWtx 10 g (yN8 (g 26)) 61 0 []) → (yTy zpZ g') → (∀ a b : Nat, a ≠ 35 → g' a b = g a b) → K [(1, r)] g')
def yC_WT_10 : yC := (118, (2, 62), yP_WT_10)
set_option maxRecDepth 8000 in
theorem yp246_WT_10 {K : List yV → yM → Prop} {Y : yNx} {m : yM} {i t a : Int} {w5 w6 : yV} (hY : yCl zpD118 (zpZ, zpRS, zpP10, zpMT, [yC_JN], (2, 62), 1) K Y) (hi : 0 ≤ i ∧ i < 61) (hE : Y 7 [(3, 10), (3, 26), (1, t), (1, a), (1, i + 1), w5, w6] [] m) : Y 246 [(3, 10), (3, 26), (1, t), (1, a), (1, i), w5, w6] [] m := by
  refine yrun_ok (sp := fun pc => Nat.beq pc 7) hY 3 246 _ [] m ?_
  show (Y 7 [(3, 10), (3, 26), (1, t), (1, a), (1, (yw (i + 1))), w5, w6] [] m)
  rw [show yw (i + 1) = i + 1 from yw_s (i + 1) (by omega) (by omega)]
  exact hE
set_option maxRecDepth 8000 in
theorem yp211_WT_10 {K : List yV → yM → Prop} {Y : yNx} {g m : yM} {n : Nat} {i t a b s k : Int} {st : List Int} (hY : yCl zpD118 (zpZ, zpRS, zpP10, zpMT, [yC_JN], (2, 62), 1) K Y) (hT0 : yTy zpZ g) (hq4 : 0 ≤ g 10 4 ∧ g 10 4 ≤ 61) (hK : ∀ (r : Int) (g' : yM), (r = yWtx 10 g (yN8 (g 26)) 61 0 []) → (yTy zpZ g') → (∀ a b : Nat, a ≠ 35 → g' a b = g a b) → K [(1, r)] g') (hi : 0 ≤ i ∧ i < 61) (ht : t = (st.length : Int)) (hti : t ≤ i) (ha : 0 ≤ a ∧ a < g 10 4) (hb : b = a + 1) (hT : yTy zpZ m) (hf : ∀ a b : Nat, a ≠ 35 → m a b = g a b) (hs : ySk (m 35) st) (hW : yWtx 10 g (yN8 (g 26)) 61 0 [] = yWtx 10 g (yN8 (g 26)) (n + 1) a st) (hc : (fun j => (g 31 j, g 33 j)) (Int.toNat a) = (s, k)) (ty : yTI s k) (rk : -2147483648 ≤ k ∧ k ≤ 2147483647) (ih : ∀ (t' a' : Int) (st' : List Int) (m' : yM) (w5 w6 : yV), t' = (st'.length : Int) → t' ≤ i + 1 → 0 ≤ a' → yTy zpZ m' → (∀ a b : Nat, a ≠ 35 → m' a b = g a b) → ySk (m' 35) st' → yWtx 10 g (yN8 (g 26)) 61 0 [] = yWtx 10 g (yN8 (g 26)) n a' st' → Y 7 [(3, 10), (3, 26), (1, t'), (1, a'), (1, i + 1), w5, w6] [] m') (hn : s ≠ 86 ∧ s ≠ 78 ∧ (0 < t → s ≠ 59 ∧ s ≠ 63 ∧ s ≠ 77 ∧ s ≠ 33)) : Y 211 [(3, 10), (3, 26), (1, t), (1, b), (1, i), (1, s), (1, k)] [] m := by
  have y1 : yw (t - 1) = t - 1 := yw_s (t - 1) (by omega) (by omega)
  have y2 : yw (t + (-1)) = t - 1 := by have := yw_s (t + (-1)) (by omega) (by omega); omega
  have y5 : yw (i + 1) = i + 1 := yw_s (i + 1) (by omega) (by omega)
  have y6 : yw (t + 1) = t + 1 := yw_s (t + 1) (by omega) (by omega)
  have y3 : 1 < t → yw (t - 1 - 1) = t - 2 := fun _ => by have := yw_s (t - 1 - 1) (by omega) (by omega); omega
  refine yrun_ok (sp := fun pc => Nat.beq pc 246) hY 23 211 _ [] m ?_
  show ((t ≤ 1 → (Y 246 [(3, 10), (3, 26), (1, t), (1, b), (1, i), (1, s), (1, k)] [] m)) ∧ (¬ (t ≤ 1) → (((0 : Int) ≤ (yw ((yw (t + (-1))) - 1)) ∧ (yw ((yw (t + (-1))) - 1)) < ((61 : Nat) : Int)) ∧ (((0 : Int) ≤ (yw (t + (-1))) ∧ (yw (t + (-1))) < ((61 : Nat) : Int)) ∧ (∃ (s2 x3 y4 : Int), [(1, s), (1, (m 35 (Int.toNat (yw ((yw (t + (-1))) - 1))))), (1, (m 35 (Int.toNat (yw (t + (-1))))))] = [(1, s2), (1, x3), (1, y4)] ∧ (∀ (r5 : Int), (r5 = yJn s2 x3 y4) → (((0 : Int) ≤ (yw ((yw (t + (-1))) - 1)) ∧ (yw ((yw (t + (-1))) - 1)) < ((61 : Nat) : Int)) ∧ (Y 246 [(3, 10), (3, 26), (1, (yw (t + (-1)))), (1, b), (1, i), (1, s), (1, k)] [] (yset m 35 (Int.toNat (yw ((yw (t + (-1))) - 1))) r5)))))))))
  refine ⟨fun h1 => ?_, fun h1 => ?_⟩
  · refine yp246_WT_10 hY hi ?_
    rw [hb]
    rcases st with _ | ⟨x, st⟩
    · have ht0 : t = 0 := ht
      exact ih t (a + 1) ([]) _ _ _ ht (by omega) (by omega) hT hf hs (hW.trans (yWk_0 hc ha.2 (by omega) (by omega)))
    · rcases st with _ | ⟨y, st⟩
      · have ht1 : t = 1 := ht
        exact ih t (a + 1) ([x]) _ _ _ ht (by omega) (by omega) hT hf hs (hW.trans (yWk_1 hc ha.2 (by omega) (by omega) (by omega) (by omega) (by omega) (by omega)))
      · have hl2 : t = (st.length : Int) + 2 := by rw [ht, List.length_cons, List.length_cons]; omega
        omega
  · refine ⟨(by have z1 := yw_s (t - 1); have z2 := yw_s (t + (-1)); have z3 := yw_s (yw (t + (-1)) - 1); omega), ?_⟩
    refine ⟨(by have z1 := yw_s (t - 1); have z2 := yw_s (t + (-1)); have z3 := yw_s (yw (t + (-1)) - 1); omega), ?_⟩
    refine ⟨_, _, _, rfl, ?_⟩
    intro r5 p60
    refine ⟨(by have z1 := yw_s (t - 1); have z2 := yw_s (t + (-1)); have z3 := yw_s (yw (t + (-1)) - 1); omega), ?_⟩
    rcases st with _ | ⟨y, st⟩
    · have ht0 : t = 0 := ht
      omega
    · rcases st with _ | ⟨x, st⟩
      · have ht0 : t = 1 := ht
        omega
      · have hl2 : t = (st.length : Int) + 2 := by rw [ht, List.length_cons, List.length_cons]; omega
        have tp := hs.top2 hl2
        have pj := p60
        rw [y2, y3 (by omega), tp.1, tp.2] at pj
        refine yp246_WT_10 hY hi ?_
        rw [y2, y3 (by omega), pj, hb]
        exact ih (t - 1) (a + 1) (yJn s x y :: st) _ _ _ (by rw [List.length_cons]; omega) (by omega) (by omega) (hT.sW (q := 35) (Or.inl rfl) (yJn_rng _ _ _)) (fun x b hx => (yset_nc hx).trans (hf x b hx)) (hs.set2 hl2) (hW.trans (yWk_B hc ha.2 (by omega) (by omega) (by omega) (by omega) (by omega) (by omega)))
set_option maxRecDepth 8000 in
theorem yp173_WT_10 {K : List yV → yM → Prop} {Y : yNx} {g m : yM} {n : Nat} {i t a b s k : Int} {st : List Int} (hY : yCl zpD118 (zpZ, zpRS, zpP10, zpMT, [yC_JN], (2, 62), 1) K Y) (hT0 : yTy zpZ g) (hq4 : 0 ≤ g 10 4 ∧ g 10 4 ≤ 61) (hK : ∀ (r : Int) (g' : yM), (r = yWtx 10 g (yN8 (g 26)) 61 0 []) → (yTy zpZ g') → (∀ a b : Nat, a ≠ 35 → g' a b = g a b) → K [(1, r)] g') (hi : 0 ≤ i ∧ i < 61) (ht : t = (st.length : Int)) (hti : t ≤ i) (ha : 0 ≤ a ∧ a < g 10 4) (hb : b = a + 1) (hT : yTy zpZ m) (hf : ∀ a b : Nat, a ≠ 35 → m a b = g a b) (hs : ySk (m 35) st) (hW : yWtx 10 g (yN8 (g 26)) 61 0 [] = yWtx 10 g (yN8 (g 26)) (n + 1) a st) (hc : (fun j => (g 31 j, g 33 j)) (Int.toNat a) = (s, k)) (ty : yTI s k) (rk : -2147483648 ≤ k ∧ k ≤ 2147483647) (ih : ∀ (t' a' : Int) (st' : List Int) (m' : yM) (w5 w6 : yV), t' = (st'.length : Int) → t' ≤ i + 1 → 0 ≤ a' → yTy zpZ m' → (∀ a b : Nat, a ≠ 35 → m' a b = g a b) → ySk (m' 35) st' → yWtx 10 g (yN8 (g 26)) 61 0 [] = yWtx 10 g (yN8 (g 26)) n a' st' → Y 7 [(3, 10), (3, 26), (1, t'), (1, a'), (1, i + 1), w5, w6] [] m') (hn : s ≠ 86 ∧ s ≠ 78 ∧ (0 < t → s ≠ 59 ∧ s ≠ 63 ∧ s ≠ 77)) : Y 173 [(3, 10), (3, 26), (1, t), (1, b), (1, i), (1, s), (1, k)] [] m := by
  have y1 : yw (t - 1) = t - 1 := yw_s (t - 1) (by omega) (by omega)
  have y2 : yw (t + (-1)) = t - 1 := by have := yw_s (t + (-1)) (by omega) (by omega); omega
  have y5 : yw (i + 1) = i + 1 := yw_s (i + 1) (by omega) (by omega)
  have y6 : yw (t + 1) = t + 1 := yw_s (t + 1) (by omega) (by omega)
  have y3 : 1 < t → yw (t - 1 - 1) = t - 2 := fun _ => by have := yw_s (t - 1 - 1) (by omega) (by omega); omega
  refine yrun_ok (sp := fun pc => Nat.beq pc 211 || Nat.beq pc 246) hY 22 173 _ [] m ?_
  show ((t ≤ 0 → (Y 211 [(3, 10), (3, 26), (1, t), (1, b), (1, i), (1, s), (1, k)] [] m)) ∧ (¬ (t ≤ 0) → ((s ≠ 33 → (Y 211 [(3, 10), (3, 26), (1, t), (1, b), (1, i), (1, s), (1, k)] [] m)) ∧ (¬ (s ≠ 33) → (((0 : Int) ≤ (yw (t - 1)) ∧ (yw (t - 1)) < ((61 : Nat) : Int)) ∧ (((m 35 (Int.toNat (yw (t - 1)))) ≠ 0 → (((0 : Int) ≤ (yw (t - 1)) ∧ (yw (t - 1)) < ((61 : Nat) : Int)) ∧ (Y 246 [(3, 10), (3, 26), (1, t), (1, b), (1, i), (1, s), (1, k)] [] (yset m 35 (Int.toNat (yw (t - 1))) 0)))) ∧ (¬ ((m 35 (Int.toNat (yw (t - 1)))) ≠ 0) → (((0 : Int) ≤ (yw (t - 1)) ∧ (yw (t - 1)) < ((61 : Nat) : Int)) ∧ (Y 246 [(3, 10), (3, 26), (1, t), (1, b), (1, i), (1, s), (1, k)] [] (yset m 35 (Int.toNat (yw (t - 1))) 1))))))))))
  refine ⟨fun h1 => ?_, fun h1 => ?_⟩
  · exact yp211_WT_10 hY hT0 hq4 hK hi ht hti ha hb hT hf hs hW hc ty rk ih (by omega)
  · refine ⟨fun h2 => ?_, fun h2 => ?_⟩
    · exact yp211_WT_10 hY hT0 hq4 hK hi ht hti ha hb hT hf hs hW hc ty rk ih (by omega)
    · refine ⟨(by have := y3; omega), ?_⟩
      refine ⟨fun h3 => ?_, fun h3 => ?_⟩
      · refine ⟨(by have := y3; omega), ?_⟩
        rcases st with _ | ⟨x, st⟩
        · have ht0 : t = 0 := ht
          omega
        · have hl : t = (st.length : Int) + 1 := by rw [ht, List.length_cons]; omega
          have tp := hs.top hl
          have tp2 : m 35 (Int.toNat (yw (t - 1))) = x := by rw [y1]; exact tp
          have hx : (if x = 0 then (1 : Int) else 0) = 0 := if_neg (by omega)
          have w := yWk_n (S := fun j => (g 31 j, g 33 j)) (a := a) (f := n) (st := st) (x := x) (N := yN8 (g 26)) hc ha.2 (by omega)
          rw [hx] at w
          refine yp246_WT_10 hY hi ?_
          rw [y1, hb]
          exact ih t (a + 1) (0 :: st) _ _ _ (by rw [List.length_cons]; omega) (by omega) (by omega) (hT.sW (q := 35) (Or.inl rfl) ⟨by decide, by decide⟩) (fun x b hx => (yset_nc hx).trans (hf x b hx)) (hs.set hl) (hW.trans w)
      · refine ⟨(by have := y3; omega), ?_⟩
        rcases st with _ | ⟨x, st⟩
        · have ht0 : t = 0 := ht
          omega
        · have hl : t = (st.length : Int) + 1 := by rw [ht, List.length_cons]; omega
          have tp := hs.top hl
          have tp2 : m 35 (Int.toNat (yw (t - 1))) = x := by rw [y1]; exact tp
          have hx : (if x = 0 then (1 : Int) else 0) = 1 := if_pos (by omega)
          have w := yWk_n (S := fun j => (g 31 j, g 33 j)) (a := a) (f := n) (st := st) (x := x) (N := yN8 (g 26)) hc ha.2 (by omega)
          rw [hx] at w
          refine yp246_WT_10 hY hi ?_
          rw [y1, hb]
          exact ih t (a + 1) (1 :: st) _ _ _ (by rw [List.length_cons]; omega) (by omega) (by omega) (hT.sW (q := 35) (Or.inl rfl) ⟨by decide, by decide⟩) (fun x b hx => (yset_nc hx).trans (hf x b hx)) (hs.set hl) (hW.trans w)
set_option maxRecDepth 8000 in
theorem yp142_WT_10 {K : List yV → yM → Prop} {Y : yNx} {g m : yM} {n : Nat} {i t a b s k : Int} {st : List Int} (hY : yCl zpD118 (zpZ, zpRS, zpP10, zpMT, [yC_JN], (2, 62), 1) K Y) (hT0 : yTy zpZ g) (hq4 : 0 ≤ g 10 4 ∧ g 10 4 ≤ 61) (hK : ∀ (r : Int) (g' : yM), (r = yWtx 10 g (yN8 (g 26)) 61 0 []) → (yTy zpZ g') → (∀ a b : Nat, a ≠ 35 → g' a b = g a b) → K [(1, r)] g') (hi : 0 ≤ i ∧ i < 61) (ht : t = (st.length : Int)) (hti : t ≤ i) (ha : 0 ≤ a ∧ a < g 10 4) (hb : b = a + 1) (hT : yTy zpZ m) (hf : ∀ a b : Nat, a ≠ 35 → m a b = g a b) (hs : ySk (m 35) st) (hW : yWtx 10 g (yN8 (g 26)) 61 0 [] = yWtx 10 g (yN8 (g 26)) (n + 1) a st) (hc : (fun j => (g 31 j, g 33 j)) (Int.toNat a) = (s, k)) (ty : yTI s k) (rk : -2147483648 ≤ k ∧ k ≤ 2147483647) (ih : ∀ (t' a' : Int) (st' : List Int) (m' : yM) (w5 w6 : yV), t' = (st'.length : Int) → t' ≤ i + 1 → 0 ≤ a' → yTy zpZ m' → (∀ a b : Nat, a ≠ 35 → m' a b = g a b) → ySk (m' 35) st' → yWtx 10 g (yN8 (g 26)) 61 0 [] = yWtx 10 g (yN8 (g 26)) n a' st' → Y 7 [(3, 10), (3, 26), (1, t'), (1, a'), (1, i + 1), w5, w6] [] m') (hn : s ≠ 86 ∧ s ≠ 78 ∧ (0 < t → s ≠ 59 ∧ s ≠ 63)) : Y 142 [(3, 10), (3, 26), (1, t), (1, b), (1, i), (1, s), (1, k)] [] m := by
  have y1 : yw (t - 1) = t - 1 := yw_s (t - 1) (by omega) (by omega)
  have y2 : yw (t + (-1)) = t - 1 := by have := yw_s (t + (-1)) (by omega) (by omega); omega
  have y5 : yw (i + 1) = i + 1 := yw_s (i + 1) (by omega) (by omega)
  have y6 : yw (t + 1) = t + 1 := yw_s (t + 1) (by omega) (by omega)
  have y3 : 1 < t → yw (t - 1 - 1) = t - 2 := fun _ => by have := yw_s (t - 1 - 1) (by omega) (by omega); omega
  refine yrun_ok (sp := fun pc => Nat.beq pc 173 || Nat.beq pc 211 || Nat.beq pc 246) hY 20 142 _ [] m ?_
  show ((t ≤ 0 → (Y 173 [(3, 10), (3, 26), (1, t), (1, b), (1, i), (1, s), (1, k)] [] m)) ∧ (¬ (t ≤ 0) → ((s ≠ 77 → (Y 173 [(3, 10), (3, 26), (1, t), (1, b), (1, i), (1, s), (1, k)] [] m)) ∧ (¬ (s ≠ 77) → (((0 : Int) ≤ (yw (t - 1)) ∧ (yw (t - 1)) < ((61 : Nat) : Int)) ∧ (((0 : Int) ≤ (yw (t - 1)) ∧ (yw (t - 1)) < ((61 : Nat) : Int)) ∧ (Y 246 [(3, 10), (3, 26), (1, t), (1, b), (1, i), (1, s), (1, k)] [] (yset m 35 (Int.toNat (yw (t - 1))) (yw (-(m 35 (Int.toNat (yw (t - 1))))))))))))))
  refine ⟨fun h1 => ?_, fun h1 => ?_⟩
  · exact yp173_WT_10 hY hT0 hq4 hK hi ht hti ha hb hT hf hs hW hc ty rk ih (by omega)
  · refine ⟨fun h2 => ?_, fun h2 => ?_⟩
    · exact yp173_WT_10 hY hT0 hq4 hK hi ht hti ha hb hT hf hs hW hc ty rk ih (by omega)
    · refine ⟨(by have := y3; omega), ?_⟩
      refine ⟨(by have := y3; omega), ?_⟩
      rcases st with _ | ⟨x, st⟩
      · have ht0 : t = 0 := ht
        omega
      · have hl : t = (st.length : Int) + 1 := by rw [ht, List.length_cons]; omega
        have tp := hs.top hl
        refine yp246_WT_10 hY hi ?_
        rw [y1, tp, hb]
        exact ih t (a + 1) (yw (-x) :: st) _ _ _ (by rw [List.length_cons]; omega) (by omega) (by omega) (hT.sW (q := 35) (Or.inl rfl) (yw_rg _)) (fun x b hx => (yset_nc hx).trans (hf x b hx)) (hs.set hl) (hW.trans (yWk_M hc ha.2 (by omega)))
set_option maxRecDepth 8000 in
theorem yp109_WT_10 {K : List yV → yM → Prop} {Y : yNx} {g m : yM} {n : Nat} {i t a b s k : Int} {st : List Int} (hY : yCl zpD118 (zpZ, zpRS, zpP10, zpMT, [yC_JN], (2, 62), 1) K Y) (hT0 : yTy zpZ g) (hq4 : 0 ≤ g 10 4 ∧ g 10 4 ≤ 61) (hK : ∀ (r : Int) (g' : yM), (r = yWtx 10 g (yN8 (g 26)) 61 0 []) → (yTy zpZ g') → (∀ a b : Nat, a ≠ 35 → g' a b = g a b) → K [(1, r)] g') (hi : 0 ≤ i ∧ i < 61) (ht : t = (st.length : Int)) (hti : t ≤ i) (ha : 0 ≤ a ∧ a < g 10 4) (hb : b = a + 1) (hT : yTy zpZ m) (hf : ∀ a b : Nat, a ≠ 35 → m a b = g a b) (hs : ySk (m 35) st) (hW : yWtx 10 g (yN8 (g 26)) 61 0 [] = yWtx 10 g (yN8 (g 26)) (n + 1) a st) (hc : (fun j => (g 31 j, g 33 j)) (Int.toNat a) = (s, k)) (ty : yTI s k) (rk : -2147483648 ≤ k ∧ k ≤ 2147483647) (ih : ∀ (t' a' : Int) (st' : List Int) (m' : yM) (w5 w6 : yV), t' = (st'.length : Int) → t' ≤ i + 1 → 0 ≤ a' → yTy zpZ m' → (∀ a b : Nat, a ≠ 35 → m' a b = g a b) → ySk (m' 35) st' → yWtx 10 g (yN8 (g 26)) 61 0 [] = yWtx 10 g (yN8 (g 26)) n a' st' → Y 7 [(3, 10), (3, 26), (1, t'), (1, a'), (1, i + 1), w5, w6] [] m') (hn : s ≠ 86 ∧ s ≠ 78 ∧ (0 < t → s ≠ 59)) : Y 109 [(3, 10), (3, 26), (1, t), (1, b), (1, i), (1, s), (1, k)] [] m := by
  have y1 : yw (t - 1) = t - 1 := yw_s (t - 1) (by omega) (by omega)
  have y2 : yw (t + (-1)) = t - 1 := by have := yw_s (t + (-1)) (by omega) (by omega); omega
  have y5 : yw (i + 1) = i + 1 := yw_s (i + 1) (by omega) (by omega)
  have y6 : yw (t + 1) = t + 1 := yw_s (t + 1) (by omega) (by omega)
  have y3 : 1 < t → yw (t - 1 - 1) = t - 2 := fun _ => by have := yw_s (t - 1 - 1) (by omega) (by omega); omega
  refine yrun_ok (sp := fun pc => Nat.beq pc 142 || Nat.beq pc 173 || Nat.beq pc 211 || Nat.beq pc 246) hY 16 109 _ [] m ?_
  show ((t ≤ 0 → (Y 142 [(3, 10), (3, 26), (1, t), (1, b), (1, i), (1, s), (1, k)] [] m)) ∧ (¬ (t ≤ 0) → ((s ≠ 63 → (Y 142 [(3, 10), (3, 26), (1, t), (1, b), (1, i), (1, s), (1, k)] [] m)) ∧ (¬ (s ≠ 63) → (((0 : Int) ≤ (yw (t + (-1))) ∧ (yw (t + (-1))) < ((61 : Nat) : Int)) ∧ (((m 35 (Int.toNat (yw (t + (-1))))) ≠ 0 → (Y 246 [(3, 10), (3, 26), (1, (yw (t + (-1)))), (1, b), (1, i), (1, s), (1, k)] [] m)) ∧ (¬ ((m 35 (Int.toNat (yw (t + (-1))))) ≠ 0) → (Y 246 [(3, 10), (3, 26), (1, (yw (t + (-1)))), (1, k), (1, i), (1, s), (1, k)] [] m))))))))
  refine ⟨fun h1 => ?_, fun h1 => ?_⟩
  · exact yp142_WT_10 hY hT0 hq4 hK hi ht hti ha hb hT hf hs hW hc ty rk ih (by omega)
  · refine ⟨fun h2 => ?_, fun h2 => ?_⟩
    · exact yp142_WT_10 hY hT0 hq4 hK hi ht hti ha hb hT hf hs hW hc ty rk ih (by omega)
    · refine ⟨(by have := y3; omega), ?_⟩
      refine ⟨fun h3 => ?_, fun h3 => ?_⟩
      · rcases st with _ | ⟨x, st⟩
        · have ht0 : t = 0 := ht
          omega
        · have hl : t = (st.length : Int) + 1 := by rw [ht, List.length_cons]; omega
          have tp := hs.top hl
          have w := yWk_C (S := fun j => (g 31 j, g 33 j)) (a := a) (f := n) (st := st) (v := x) (N := yN8 (g 26)) hc ha.2 (by omega)
          have tp2 : m 35 (Int.toNat (yw (t + (-1)))) = x := by rw [y2]; exact tp
          rw [if_neg (by omega)] at w
          refine yp246_WT_10 hY hi ?_
          rw [y2, hb]
          have z := ty.2 (by omega)
          exact ih (t - 1) (a + 1) st _ _ _ (by omega) (by omega) (by omega) hT hf hs.2 (hW.trans w)
      · rcases st with _ | ⟨x, st⟩
        · have ht0 : t = 0 := ht
          omega
        · have hl : t = (st.length : Int) + 1 := by rw [ht, List.length_cons]; omega
          have tp := hs.top hl
          have w := yWk_C (S := fun j => (g 31 j, g 33 j)) (a := a) (f := n) (st := st) (v := x) (N := yN8 (g 26)) hc ha.2 (by omega)
          have tp2 : m 35 (Int.toNat (yw (t + (-1)))) = x := by rw [y2]; exact tp
          rw [if_pos (by omega)] at w
          refine yp246_WT_10 hY hi ?_
          rw [y2]
          have z := ty.2 (by omega)
          exact ih (t - 1) k st _ _ _ (by omega) (by omega) (by omega) hT hf hs.2 (hW.trans w)
set_option maxRecDepth 8000 in
theorem yp89_WT_10 {K : List yV → yM → Prop} {Y : yNx} {g m : yM} {n : Nat} {i t a b s k : Int} {st : List Int} (hY : yCl zpD118 (zpZ, zpRS, zpP10, zpMT, [yC_JN], (2, 62), 1) K Y) (hT0 : yTy zpZ g) (hq4 : 0 ≤ g 10 4 ∧ g 10 4 ≤ 61) (hK : ∀ (r : Int) (g' : yM), (r = yWtx 10 g (yN8 (g 26)) 61 0 []) → (yTy zpZ g') → (∀ a b : Nat, a ≠ 35 → g' a b = g a b) → K [(1, r)] g') (hi : 0 ≤ i ∧ i < 61) (ht : t = (st.length : Int)) (hti : t ≤ i) (ha : 0 ≤ a ∧ a < g 10 4) (hb : b = a + 1) (hT : yTy zpZ m) (hf : ∀ a b : Nat, a ≠ 35 → m a b = g a b) (hs : ySk (m 35) st) (hW : yWtx 10 g (yN8 (g 26)) 61 0 [] = yWtx 10 g (yN8 (g 26)) (n + 1) a st) (hc : (fun j => (g 31 j, g 33 j)) (Int.toNat a) = (s, k)) (ty : yTI s k) (rk : -2147483648 ≤ k ∧ k ≤ 2147483647) (ih : ∀ (t' a' : Int) (st' : List Int) (m' : yM) (w5 w6 : yV), t' = (st'.length : Int) → t' ≤ i + 1 → 0 ≤ a' → yTy zpZ m' → (∀ a b : Nat, a ≠ 35 → m' a b = g a b) → ySk (m' 35) st' → yWtx 10 g (yN8 (g 26)) 61 0 [] = yWtx 10 g (yN8 (g 26)) n a' st' → Y 7 [(3, 10), (3, 26), (1, t'), (1, a'), (1, i + 1), w5, w6] [] m') (hn : s ≠ 86 ∧ s ≠ 78) : Y 89 [(3, 10), (3, 26), (1, t), (1, b), (1, i), (1, s), (1, k)] [] m := by
  have y1 : yw (t - 1) = t - 1 := yw_s (t - 1) (by omega) (by omega)
  have y2 : yw (t + (-1)) = t - 1 := by have := yw_s (t + (-1)) (by omega) (by omega); omega
  have y5 : yw (i + 1) = i + 1 := yw_s (i + 1) (by omega) (by omega)
  have y6 : yw (t + 1) = t + 1 := yw_s (t + 1) (by omega) (by omega)
  have y3 : 1 < t → yw (t - 1 - 1) = t - 2 := fun _ => by have := yw_s (t - 1 - 1) (by omega) (by omega); omega
  refine yrun_ok (sp := fun pc => Nat.beq pc 109 || Nat.beq pc 142 || Nat.beq pc 173 || Nat.beq pc 211 || Nat.beq pc 246) hY 12 89 _ [] m ?_
  show ((t ≤ 0 → (Y 109 [(3, 10), (3, 26), (1, t), (1, b), (1, i), (1, s), (1, k)] [] m)) ∧ (¬ (t ≤ 0) → ((s ≠ 59 → (Y 109 [(3, 10), (3, 26), (1, t), (1, b), (1, i), (1, s), (1, k)] [] m)) ∧ (¬ (s ≠ 59) → (((0 : Int) ≤ (yw (t - 1)) ∧ (yw (t - 1)) < ((61 : Nat) : Int)) ∧ (K [(1, (m 35 (Int.toNat (yw (t - 1)))))] m))))))
  refine ⟨fun h1 => ?_, fun h1 => ?_⟩
  · exact yp109_WT_10 hY hT0 hq4 hK hi ht hti ha hb hT hf hs hW hc ty rk ih (by omega)
  · refine ⟨fun h2 => ?_, fun h2 => ?_⟩
    · exact yp109_WT_10 hY hT0 hq4 hK hi ht hti ha hb hT hf hs hW hc ty rk ih (by omega)
    · refine ⟨(by have := y3; omega), ?_⟩
      rcases st with _ | ⟨x, st⟩
      · have ht0 : t = 0 := ht
        omega
      · have hl : t = (st.length : Int) + 1 := by rw [ht, List.length_cons]; omega
        have tp := hs.top hl
        rw [y1, tp]
        exact hK _ _ (hW.trans (yWk_E hc ha.2 (by omega))).symm hT hf
set_option maxRecDepth 8000 in
theorem yl_WT_10 {K : List yV → yM → Prop} {Y : yNx} {g : yM} (hY : yCl zpD118 (zpZ, zpRS, zpP10, zpMT, [yC_JN], (2, 62), 1) K Y) (hT0 : yTy zpZ g) (hq4 : 0 ≤ g 10 4 ∧ g 10 4 ≤ 61) (hqr : yNr g) (hK : ∀ (r : Int) (g' : yM), (r = yWtx 10 g (yN8 (g 26)) 61 0 []) → (yTy zpZ g') → (∀ a b : Nat, a ≠ 35 → g' a b = g a b) → K [(1, r)] g') : ∀ (n : Nat) (i t a : Int) (st : List Int) (m : yM) (w5 w6 : yV), i + n = 61 → 0 ≤ i → t = (st.length : Int) → t ≤ i → 0 ≤ a → yTy zpZ m → (∀ a b : Nat, a ≠ 35 → m a b = g a b) → ySk (m 35) st → yWtx 10 g (yN8 (g 26)) 61 0 [] = yWtx 10 g (yN8 (g 26)) n a st → Y 7 [(3, 10), (3, 26), (1, t), (1, a), (1, i), w5, w6] [] m := by
  intro n
  induction n with
  | zero =>
    intro i t a st m w5 w6 hd h0 ht hti ha hT hf hs hW
    have e4 : m 10 4 = g 10 4 := hf 10 4 (by decide)
    refine yrun_ok (sp := fun pc => Nat.beq pc 7 || Nat.beq pc 89 || Nat.beq pc 246) hY 40 7 _ [] m ?_
    show ((61 ≤ i → (K [(1, 0)] m)) ∧ (¬ (61 ≤ i) → (((m 10 4) ≤ a → (K [(1, 0)] m)) ∧ (¬ ((m 10 4) ≤ a) → (((0 : Int) ≤ a ∧ a < ((61 : Nat) : Int)) ∧ (((0 : Int) ≤ a ∧ a < ((61 : Nat) : Int)) ∧ ((61 ≤ t → (Y 89 [(3, 10), (3, 26), (1, t), (1, (yw (a + 1))), (1, i), (1, (m 31 (Int.toNat a))), (1, (m 33 (Int.toNat a)))] [] m)) ∧ (¬ (61 ≤ t) → (((m 31 (Int.toNat a)) = 86 → (((m 31 (Int.toNat a)) ≠ 86 → (((0 : Int) ≤ (m 33 (Int.toNat a)) ∧ (m 33 (Int.toNat a)) < ((8 : Nat) : Int)) ∧ (((0 : Int) ≤ t ∧ t < ((61 : Nat) : Int)) ∧ (Y 246 [(3, 10), (3, 26), (1, (yw (t + 1))), (1, (yw (a + 1))), (1, i), (1, (m 31 (Int.toNat a))), (1, (m 33 (Int.toNat a)))] [] (yset m 35 (Int.toNat t) (m 26 (Int.toNat (m 33 (Int.toNat a))))))))) ∧ (¬ ((m 31 (Int.toNat a)) ≠ 86) → (((0 : Int) ≤ t ∧ t < ((61 : Nat) : Int)) ∧ (Y 246 [(3, 10), (3, 26), (1, (yw (t + 1))), (1, (yw (a + 1))), (1, i), (1, (m 31 (Int.toNat a))), (1, (m 33 (Int.toNat a)))] [] (yset m 35 (Int.toNat t) (m 33 (Int.toNat a)))))))) ∧ (¬ ((m 31 (Int.toNat a)) = 86) → (((m 31 (Int.toNat a)) ≠ 78 → (Y 89 [(3, 10), (3, 26), (1, t), (1, (yw (a + 1))), (1, i), (1, (m 31 (Int.toNat a))), (1, (m 33 (Int.toNat a)))] [] m)) ∧ (¬ ((m 31 (Int.toNat a)) ≠ 78) → (((m 31 (Int.toNat a)) ≠ 86 → (((0 : Int) ≤ (m 33 (Int.toNat a)) ∧ (m 33 (Int.toNat a)) < ((8 : Nat) : Int)) ∧ (((0 : Int) ≤ t ∧ t < ((61 : Nat) : Int)) ∧ (Y 246 [(3, 10), (3, 26), (1, (yw (t + 1))), (1, (yw (a + 1))), (1, i), (1, (m 31 (Int.toNat a))), (1, (m 33 (Int.toNat a)))] [] (yset m 35 (Int.toNat t) (m 26 (Int.toNat (m 33 (Int.toNat a))))))))) ∧ (¬ ((m 31 (Int.toNat a)) ≠ 86) → (((0 : Int) ≤ t ∧ t < ((61 : Nat) : Int)) ∧ (Y 246 [(3, 10), (3, 26), (1, (yw (t + 1))), (1, (yw (a + 1))), (1, i), (1, (m 31 (Int.toNat a))), (1, (m 33 (Int.toNat a)))] [] (yset m 35 (Int.toNat t) (m 33 (Int.toNat a)))))))))))))))))))
    refine ⟨fun h1 => ?_, fun h1 => ?_⟩
    · exact hK _ _ hW.symm hT hf
    · refine ⟨fun h2 => ?_, fun h2 => ?_⟩
      · omega
      · refine ⟨(by omega), ?_⟩
        refine ⟨(by omega), ?_⟩
        refine ⟨fun h3 => ?_, fun h3 => ?_⟩
        · omega
        · refine ⟨fun h4 => ?_, fun h4 => ?_⟩
          · refine ⟨fun h5 => ?_, fun h5 => ?_⟩
            · refine ⟨(by omega), ?_⟩
              refine ⟨(by omega), ?_⟩
              omega
            · refine ⟨(by omega), ?_⟩
              omega
          · refine ⟨fun h6 => ?_, fun h6 => ?_⟩
            · omega
            · refine ⟨fun h7 => ?_, fun h7 => ?_⟩
              · refine ⟨(by omega), ?_⟩
                refine ⟨(by omega), ?_⟩
                omega
              · refine ⟨(by omega), ?_⟩
                omega
  | succ n ih =>
    intro i t a st m w5 w6 hd h0 ht hti ha hT hf hs hW
    have e4 : m 10 4 = g 10 4 := hf 10 4 (by decide)
    have es : m 31 (Int.toNat a) = g 31 (Int.toNat a) := hf 31 _ (by decide)
    have en : m 33 (Int.toNat a) = g 33 (Int.toNat a) := hf 33 _ (by decide)
    have ty : a < 61 → yTI (g 31 (Int.toNat a)) (g 33 (Int.toNat a)) := fun z => hT0.fI (q := 31) (Or.inl rfl) (by omega)
    have rn : a < 61 → -2147483648 ≤ g 33 (Int.toNat a) ∧ g 33 (Int.toNat a) ≤ 2147483647 := fun z => hqr 33 _ (by decide) (by decide) (by omega)
    have ih2 : ∀ (t' a' : Int) (st' : List Int) (m' : yM) (w5 w6 : yV), t' = (st'.length : Int) → t' ≤ i + 1 → 0 ≤ a' → yTy zpZ m' → (∀ a b : Nat, a ≠ 35 → m' a b = g a b) → ySk (m' 35) st' → yWtx 10 g (yN8 (g 26)) 61 0 [] = yWtx 10 g (yN8 (g 26)) n a' st' → Y 7 [(3, 10), (3, 26), (1, t'), (1, a'), (1, i + 1), w5, w6] [] m' := fun t' a' st' m' w5 w6 q1 q2 q3 q4 q5 q6 q7 => ih (i + 1) t' a' st' m' w5 w6 (by omega) (by omega) q1 q2 q3 q4 q5 q6 q7
    refine yrun_ok (sp := fun pc => Nat.beq pc 7 || Nat.beq pc 89 || Nat.beq pc 246) hY 40 7 _ [] m ?_
    show ((61 ≤ i → (K [(1, 0)] m)) ∧ (¬ (61 ≤ i) → (((m 10 4) ≤ a → (K [(1, 0)] m)) ∧ (¬ ((m 10 4) ≤ a) → (((0 : Int) ≤ a ∧ a < ((61 : Nat) : Int)) ∧ (((0 : Int) ≤ a ∧ a < ((61 : Nat) : Int)) ∧ ((61 ≤ t → (Y 89 [(3, 10), (3, 26), (1, t), (1, (yw (a + 1))), (1, i), (1, (m 31 (Int.toNat a))), (1, (m 33 (Int.toNat a)))] [] m)) ∧ (¬ (61 ≤ t) → (((m 31 (Int.toNat a)) = 86 → (((m 31 (Int.toNat a)) ≠ 86 → (((0 : Int) ≤ (m 33 (Int.toNat a)) ∧ (m 33 (Int.toNat a)) < ((8 : Nat) : Int)) ∧ (((0 : Int) ≤ t ∧ t < ((61 : Nat) : Int)) ∧ (Y 246 [(3, 10), (3, 26), (1, (yw (t + 1))), (1, (yw (a + 1))), (1, i), (1, (m 31 (Int.toNat a))), (1, (m 33 (Int.toNat a)))] [] (yset m 35 (Int.toNat t) (m 26 (Int.toNat (m 33 (Int.toNat a))))))))) ∧ (¬ ((m 31 (Int.toNat a)) ≠ 86) → (((0 : Int) ≤ t ∧ t < ((61 : Nat) : Int)) ∧ (Y 246 [(3, 10), (3, 26), (1, (yw (t + 1))), (1, (yw (a + 1))), (1, i), (1, (m 31 (Int.toNat a))), (1, (m 33 (Int.toNat a)))] [] (yset m 35 (Int.toNat t) (m 33 (Int.toNat a)))))))) ∧ (¬ ((m 31 (Int.toNat a)) = 86) → (((m 31 (Int.toNat a)) ≠ 78 → (Y 89 [(3, 10), (3, 26), (1, t), (1, (yw (a + 1))), (1, i), (1, (m 31 (Int.toNat a))), (1, (m 33 (Int.toNat a)))] [] m)) ∧ (¬ ((m 31 (Int.toNat a)) ≠ 78) → (((m 31 (Int.toNat a)) ≠ 86 → (((0 : Int) ≤ (m 33 (Int.toNat a)) ∧ (m 33 (Int.toNat a)) < ((8 : Nat) : Int)) ∧ (((0 : Int) ≤ t ∧ t < ((61 : Nat) : Int)) ∧ (Y 246 [(3, 10), (3, 26), (1, (yw (t + 1))), (1, (yw (a + 1))), (1, i), (1, (m 31 (Int.toNat a))), (1, (m 33 (Int.toNat a)))] [] (yset m 35 (Int.toNat t) (m 26 (Int.toNat (m 33 (Int.toNat a))))))))) ∧ (¬ ((m 31 (Int.toNat a)) ≠ 86) → (((0 : Int) ≤ t ∧ t < ((61 : Nat) : Int)) ∧ (Y 246 [(3, 10), (3, 26), (1, (yw (t + 1))), (1, (yw (a + 1))), (1, i), (1, (m 31 (Int.toNat a))), (1, (m 33 (Int.toNat a)))] [] (yset m 35 (Int.toNat t) (m 33 (Int.toNat a)))))))))))))))))))
    refine ⟨fun h1 => ?_, fun h1 => ?_⟩
    · omega
    · refine ⟨fun h2 => ?_, fun h2 => ?_⟩
      · exact hK _ _ (hW.trans (yWk_out (by omega) _)).symm hT hf
      · refine ⟨(by omega), ?_⟩
        refine ⟨(by omega), ?_⟩
        refine ⟨fun h3 => ?_, fun h3 => ?_⟩
        · have ha4 : a < g 10 4 := by omega
          have ty := ty (by omega)
          have rn := rn (by omega)
          have y4 : yw (a + 1) = a + 1 := yw_s (a + 1) (by omega) (by omega)
          have y6 : yw (t + 1) = t + 1 := yw_s (t + 1) (by omega) (by omega)
          rw [y4, es, en]
          exact yp89_WT_10 hY hT0 hq4 hK ⟨h0, by omega⟩ ht hti ⟨ha, ha4⟩ rfl hT hf hs hW rfl ty rn ih2 (by omega)
        · refine ⟨fun h4 => ?_, fun h4 => ?_⟩
          · refine ⟨fun h5 => ?_, fun h5 => ?_⟩
            · refine ⟨(by obtain ⟨ty1, ty2⟩ := ty (by omega); omega), ?_⟩
              refine ⟨(by omega), ?_⟩
              have ha4 : a < g 10 4 := by omega
              have ty := ty (by omega)
              have rn := rn (by omega)
              have y4 : yw (a + 1) = a + 1 := yw_s (a + 1) (by omega) (by omega)
              have y6 : yw (t + 1) = t + 1 := yw_s (t + 1) (by omega) (by omega)
              have z := ty.1 (by omega)
              have k8 : g 26 (Int.toNat (g 33 (Int.toNat a))) = yN8 (g 26) (Int.toNat (g 33 (Int.toNat a))) := (yN8_p (by omega)).symm
              have e26 : ∀ j : Nat, m 26 j = g 26 j := fun j => hf 26 j (by decide)
              have r26 : -2147483648 ≤ g 26 (Int.toNat (g 33 (Int.toNat a))) ∧ g 26 (Int.toNat (g 33 (Int.toNat a))) ≤ 2147483647 := hT0.fA (List.mem_of_getElem? (i := 25) rfl) (by omega)
              rw [y4, y6, es, en, e26, k8]
              refine yp246_WT_10 hY ⟨h0, by omega⟩ ?_
              exact ih2 (t + 1) (a + 1) (yN8 (g 26) (Int.toNat (g 33 (Int.toNat a))) :: st) _ _ _ (by rw [List.length_cons]; omega) (by omega) (by omega) (hT.sW (q := 35) (Or.inl rfl) ⟨by omega, by omega⟩) (fun x b hx => (yset_nc hx).trans (hf x b hx)) (hs.push ht) (hW.trans (yWk_N rfl ha4 (show g 31 (Int.toNat a) = 78 by omega)))
            · refine ⟨(by omega), ?_⟩
              have ha4 : a < g 10 4 := by omega
              have ty := ty (by omega)
              have rn := rn (by omega)
              have y4 : yw (a + 1) = a + 1 := yw_s (a + 1) (by omega) (by omega)
              have y6 : yw (t + 1) = t + 1 := yw_s (t + 1) (by omega) (by omega)
              rw [y4, y6, es, en]
              refine yp246_WT_10 hY ⟨h0, by omega⟩ ?_
              exact ih2 (t + 1) (a + 1) (g 33 (Int.toNat a) :: st) _ _ _ (by rw [List.length_cons]; omega) (by omega) (by omega) (hT.sW (q := 35) (Or.inl rfl) ⟨by omega, by omega⟩) (fun x b hx => (yset_nc hx).trans (hf x b hx)) (hs.push ht) (hW.trans (yWk_V rfl ha4 (show g 31 (Int.toNat a) = 86 by omega)))
          · refine ⟨fun h6 => ?_, fun h6 => ?_⟩
            · have ha4 : a < g 10 4 := by omega
              have ty := ty (by omega)
              have rn := rn (by omega)
              have y4 : yw (a + 1) = a + 1 := yw_s (a + 1) (by omega) (by omega)
              have y6 : yw (t + 1) = t + 1 := yw_s (t + 1) (by omega) (by omega)
              rw [y4, es, en]
              exact yp89_WT_10 hY hT0 hq4 hK ⟨h0, by omega⟩ ht hti ⟨ha, ha4⟩ rfl hT hf hs hW rfl ty rn ih2 (by omega)
            · refine ⟨fun h7 => ?_, fun h7 => ?_⟩
              · refine ⟨(by obtain ⟨ty1, ty2⟩ := ty (by omega); omega), ?_⟩
                refine ⟨(by omega), ?_⟩
                have ha4 : a < g 10 4 := by omega
                have ty := ty (by omega)
                have rn := rn (by omega)
                have y4 : yw (a + 1) = a + 1 := yw_s (a + 1) (by omega) (by omega)
                have y6 : yw (t + 1) = t + 1 := yw_s (t + 1) (by omega) (by omega)
                have z := ty.1 (by omega)
                have k8 : g 26 (Int.toNat (g 33 (Int.toNat a))) = yN8 (g 26) (Int.toNat (g 33 (Int.toNat a))) := (yN8_p (by omega)).symm
                have e26 : ∀ j : Nat, m 26 j = g 26 j := fun j => hf 26 j (by decide)
                have r26 : -2147483648 ≤ g 26 (Int.toNat (g 33 (Int.toNat a))) ∧ g 26 (Int.toNat (g 33 (Int.toNat a))) ≤ 2147483647 := hT0.fA (List.mem_of_getElem? (i := 25) rfl) (by omega)
                rw [y4, y6, es, en, e26, k8]
                refine yp246_WT_10 hY ⟨h0, by omega⟩ ?_
                exact ih2 (t + 1) (a + 1) (yN8 (g 26) (Int.toNat (g 33 (Int.toNat a))) :: st) _ _ _ (by rw [List.length_cons]; omega) (by omega) (by omega) (hT.sW (q := 35) (Or.inl rfl) ⟨by omega, by omega⟩) (fun x b hx => (yset_nc hx).trans (hf x b hx)) (hs.push ht) (hW.trans (yWk_N rfl ha4 (show g 31 (Int.toNat a) = 78 by omega)))
              · refine ⟨(by omega), ?_⟩
                have ha4 : a < g 10 4 := by omega
                have ty := ty (by omega)
                have rn := rn (by omega)
                have y4 : yw (a + 1) = a + 1 := yw_s (a + 1) (by omega) (by omega)
                have y6 : yw (t + 1) = t + 1 := yw_s (t + 1) (by omega) (by omega)
                rw [y4, y6, es, en]
                refine yp246_WT_10 hY ⟨h0, by omega⟩ ?_
                exact ih2 (t + 1) (a + 1) (g 33 (Int.toNat a) :: st) _ _ _ (by rw [List.length_cons]; omega) (by omega) (by omega) (hT.sW (q := 35) (Or.inl rfl) ⟨by omega, by omega⟩) (fun x b hx => (yset_nc hx).trans (hf x b hx)) (hs.push ht) (hW.trans (yWk_V rfl ha4 (show g 31 (Int.toNat a) = 86 by omega)))
set_option maxRecDepth 8000 in
theorem yv_WT_10 {K : List yV → yM → Prop} {Y : yNx} {g : yM} (hY : yCl zpD118 (zpZ, zpRS, zpP10, zpMT, [yC_JN], (2, 62), 1) K Y) (hp0 : yTy zpZ g) (hp1 : 0 ≤ g 10 4 ∧ g 10 4 ≤ 61) (hp2 : yNr g) (hK : ∀ (r : Int) (g' : yM), (r = yWtx 10 g (yN8 (g 26)) 61 0 []) → (yTy zpZ g') → (∀ a b : Nat, a ≠ 35 → g' a b = g a b) → K [(1, r)] g') : Y 0 [(3, 10), (3, 26), (0, 0), (0, 0), (0, 0), (0, 0), (0, 0)] [] g := by
  refine yrun_ok (sp := fun pc => Nat.beq pc 7) hY 7 0 _ [] g ?_
  show (Y 7 [(3, 10), (3, 26), (1, 0), (1, 0), (1, 0), (0, 0), (0, 0)] [] g)
  exact yl_WT_10 hY hp0 hp1 hp2 hK 61 0 0 0 [] g _ _ (by decide) (by decide) rfl (by decide) (by decide) hp0 (fun _ _ _ => rfl) trivial rfl
theorem yM_WT_10 {l : Launch} {Ts : List Cond} {cl : List vw_C} {RO : zRO} (H : zHyp Ts cl RO) : yMet l Ts cl zpZ RO zpMT yC_WT_10 := ymet_of2 H.1 H.2.1 zpDj H.2.2.1 yRb H.p10 (ymets_cons (yM_JN H) ymets_nil) (zrc1 rfl) (plainFor_of_name zpy10) zpDk118 (fun as g K Y h hA hY => by
  obtain ⟨rfl, hp0, hp1, hp2, hK⟩ := h
  exact yv_WT_10 hY  hp0 hp1 hp2 hK)
def yP_WU_10 : yPT := fun as g K => as = [(3, 10), (3, 26)] ∧ (yTy zpZ g) ∧ (0 ≤ g 10 4 ∧ g 10 4 ≤ 61) ∧ (∀ (r : Int) (g' : yM), (r = yWtx 10 g (yN8 (g 26)) 61 0 []) → (yTy zpZ g') → (∀ a b : Nat, a ≠ 35 → g' a b = g a b) → K [(1, r)] g')
def yC_WU_10 : yC := (118, (2, 62), yP_WU_10)
theorem yM_WU_10 {l : Launch} {Ts : List Cond} {cl : List vw_C} {RO : zRO} (H : zHyp Ts cl RO) : yMet l Ts cl zpZ RO zpMT yC_WU_10 := fun D tys A ad ws g as As K hMem a2 a3 a4 a5 => yM_WT_10 H D tys A ad ws g as As K hMem a2 a3 a4 (by
  obtain ⟨e, h1, h2, h3⟩ := a5
  exact ⟨e, h1, h2, yNr_of hMem, h3⟩)
def yP_WT_11 : yPT := fun as g K => as = [(3, 11), (3, 26)] ∧ (yTy zpZ g) ∧ (0 ≤ g 11 4 ∧ g 11 4 ≤ 61) ∧ (yNr g) ∧ (∀ (r : Int) (g' : yM), (r = yWtx 11 g (yN8 (g 26)) 61 0 []) → (yTy zpZ g') → (∀ a b : Nat, a ≠ 36 → g' a b = g a b) → K [(1, r)] g')
def yC_WT_11 : yC := (118, (2, 62), yP_WT_11)
set_option maxRecDepth 8000 in
theorem yp246_WT_11 {K : List yV → yM → Prop} {Y : yNx} {m : yM} {i t a : Int} {w5 w6 : yV} (hY : yCl zpD118 (zpZ, zpRS, zpP10, zpMT, [yC_JN], (2, 62), 1) K Y) (hi : 0 ≤ i ∧ i < 61) (hE : Y 7 [(3, 11), (3, 26), (1, t), (1, a), (1, i + 1), w5, w6] [] m) : Y 246 [(3, 11), (3, 26), (1, t), (1, a), (1, i), w5, w6] [] m := by
  refine yrun_ok (sp := fun pc => Nat.beq pc 7) hY 3 246 _ [] m ?_
  show (Y 7 [(3, 11), (3, 26), (1, t), (1, a), (1, (yw (i + 1))), w5, w6] [] m)
  rw [show yw (i + 1) = i + 1 from yw_s (i + 1) (by omega) (by omega)]
  exact hE
set_option maxRecDepth 8000 in
theorem yp211_WT_11 {K : List yV → yM → Prop} {Y : yNx} {g m : yM} {n : Nat} {i t a b s k : Int} {st : List Int} (hY : yCl zpD118 (zpZ, zpRS, zpP10, zpMT, [yC_JN], (2, 62), 1) K Y) (hT0 : yTy zpZ g) (hq4 : 0 ≤ g 11 4 ∧ g 11 4 ≤ 61) (hK : ∀ (r : Int) (g' : yM), (r = yWtx 11 g (yN8 (g 26)) 61 0 []) → (yTy zpZ g') → (∀ a b : Nat, a ≠ 36 → g' a b = g a b) → K [(1, r)] g') (hi : 0 ≤ i ∧ i < 61) (ht : t = (st.length : Int)) (hti : t ≤ i) (ha : 0 ≤ a ∧ a < g 11 4) (hb : b = a + 1) (hT : yTy zpZ m) (hf : ∀ a b : Nat, a ≠ 36 → m a b = g a b) (hs : ySk (m 36) st) (hW : yWtx 11 g (yN8 (g 26)) 61 0 [] = yWtx 11 g (yN8 (g 26)) (n + 1) a st) (hc : (fun j => (g 32 j, g 34 j)) (Int.toNat a) = (s, k)) (ty : yTI s k) (rk : -2147483648 ≤ k ∧ k ≤ 2147483647) (ih : ∀ (t' a' : Int) (st' : List Int) (m' : yM) (w5 w6 : yV), t' = (st'.length : Int) → t' ≤ i + 1 → 0 ≤ a' → yTy zpZ m' → (∀ a b : Nat, a ≠ 36 → m' a b = g a b) → ySk (m' 36) st' → yWtx 11 g (yN8 (g 26)) 61 0 [] = yWtx 11 g (yN8 (g 26)) n a' st' → Y 7 [(3, 11), (3, 26), (1, t'), (1, a'), (1, i + 1), w5, w6] [] m') (hn : s ≠ 86 ∧ s ≠ 78 ∧ (0 < t → s ≠ 59 ∧ s ≠ 63 ∧ s ≠ 77 ∧ s ≠ 33)) : Y 211 [(3, 11), (3, 26), (1, t), (1, b), (1, i), (1, s), (1, k)] [] m := by
  have y1 : yw (t - 1) = t - 1 := yw_s (t - 1) (by omega) (by omega)
  have y2 : yw (t + (-1)) = t - 1 := by have := yw_s (t + (-1)) (by omega) (by omega); omega
  have y5 : yw (i + 1) = i + 1 := yw_s (i + 1) (by omega) (by omega)
  have y6 : yw (t + 1) = t + 1 := yw_s (t + 1) (by omega) (by omega)
  have y3 : 1 < t → yw (t - 1 - 1) = t - 2 := fun _ => by have := yw_s (t - 1 - 1) (by omega) (by omega); omega
  refine yrun_ok (sp := fun pc => Nat.beq pc 246) hY 23 211 _ [] m ?_
  show ((t ≤ 1 → (Y 246 [(3, 11), (3, 26), (1, t), (1, b), (1, i), (1, s), (1, k)] [] m)) ∧ (¬ (t ≤ 1) → (((0 : Int) ≤ (yw ((yw (t + (-1))) - 1)) ∧ (yw ((yw (t + (-1))) - 1)) < ((61 : Nat) : Int)) ∧ (((0 : Int) ≤ (yw (t + (-1))) ∧ (yw (t + (-1))) < ((61 : Nat) : Int)) ∧ (∃ (s2 x3 y4 : Int), [(1, s), (1, (m 36 (Int.toNat (yw ((yw (t + (-1))) - 1))))), (1, (m 36 (Int.toNat (yw (t + (-1))))))] = [(1, s2), (1, x3), (1, y4)] ∧ (∀ (r5 : Int), (r5 = yJn s2 x3 y4) → (((0 : Int) ≤ (yw ((yw (t + (-1))) - 1)) ∧ (yw ((yw (t + (-1))) - 1)) < ((61 : Nat) : Int)) ∧ (Y 246 [(3, 11), (3, 26), (1, (yw (t + (-1)))), (1, b), (1, i), (1, s), (1, k)] [] (yset m 36 (Int.toNat (yw ((yw (t + (-1))) - 1))) r5)))))))))
  refine ⟨fun h1 => ?_, fun h1 => ?_⟩
  · refine yp246_WT_11 hY hi ?_
    rw [hb]
    rcases st with _ | ⟨x, st⟩
    · have ht0 : t = 0 := ht
      exact ih t (a + 1) ([]) _ _ _ ht (by omega) (by omega) hT hf hs (hW.trans (yWk_0 hc ha.2 (by omega) (by omega)))
    · rcases st with _ | ⟨y, st⟩
      · have ht1 : t = 1 := ht
        exact ih t (a + 1) ([x]) _ _ _ ht (by omega) (by omega) hT hf hs (hW.trans (yWk_1 hc ha.2 (by omega) (by omega) (by omega) (by omega) (by omega) (by omega)))
      · have hl2 : t = (st.length : Int) + 2 := by rw [ht, List.length_cons, List.length_cons]; omega
        omega
  · refine ⟨(by have z1 := yw_s (t - 1); have z2 := yw_s (t + (-1)); have z3 := yw_s (yw (t + (-1)) - 1); omega), ?_⟩
    refine ⟨(by have z1 := yw_s (t - 1); have z2 := yw_s (t + (-1)); have z3 := yw_s (yw (t + (-1)) - 1); omega), ?_⟩
    refine ⟨_, _, _, rfl, ?_⟩
    intro r5 p60
    refine ⟨(by have z1 := yw_s (t - 1); have z2 := yw_s (t + (-1)); have z3 := yw_s (yw (t + (-1)) - 1); omega), ?_⟩
    rcases st with _ | ⟨y, st⟩
    · have ht0 : t = 0 := ht
      omega
    · rcases st with _ | ⟨x, st⟩
      · have ht0 : t = 1 := ht
        omega
      · have hl2 : t = (st.length : Int) + 2 := by rw [ht, List.length_cons, List.length_cons]; omega
        have tp := hs.top2 hl2
        have pj := p60
        rw [y2, y3 (by omega), tp.1, tp.2] at pj
        refine yp246_WT_11 hY hi ?_
        rw [y2, y3 (by omega), pj, hb]
        exact ih (t - 1) (a + 1) (yJn s x y :: st) _ _ _ (by rw [List.length_cons]; omega) (by omega) (by omega) (hT.sW (q := 36) (Or.inr rfl) (yJn_rng _ _ _)) (fun x b hx => (yset_nc hx).trans (hf x b hx)) (hs.set2 hl2) (hW.trans (yWk_B hc ha.2 (by omega) (by omega) (by omega) (by omega) (by omega) (by omega)))
set_option maxRecDepth 8000 in
theorem yp173_WT_11 {K : List yV → yM → Prop} {Y : yNx} {g m : yM} {n : Nat} {i t a b s k : Int} {st : List Int} (hY : yCl zpD118 (zpZ, zpRS, zpP10, zpMT, [yC_JN], (2, 62), 1) K Y) (hT0 : yTy zpZ g) (hq4 : 0 ≤ g 11 4 ∧ g 11 4 ≤ 61) (hK : ∀ (r : Int) (g' : yM), (r = yWtx 11 g (yN8 (g 26)) 61 0 []) → (yTy zpZ g') → (∀ a b : Nat, a ≠ 36 → g' a b = g a b) → K [(1, r)] g') (hi : 0 ≤ i ∧ i < 61) (ht : t = (st.length : Int)) (hti : t ≤ i) (ha : 0 ≤ a ∧ a < g 11 4) (hb : b = a + 1) (hT : yTy zpZ m) (hf : ∀ a b : Nat, a ≠ 36 → m a b = g a b) (hs : ySk (m 36) st) (hW : yWtx 11 g (yN8 (g 26)) 61 0 [] = yWtx 11 g (yN8 (g 26)) (n + 1) a st) (hc : (fun j => (g 32 j, g 34 j)) (Int.toNat a) = (s, k)) (ty : yTI s k) (rk : -2147483648 ≤ k ∧ k ≤ 2147483647) (ih : ∀ (t' a' : Int) (st' : List Int) (m' : yM) (w5 w6 : yV), t' = (st'.length : Int) → t' ≤ i + 1 → 0 ≤ a' → yTy zpZ m' → (∀ a b : Nat, a ≠ 36 → m' a b = g a b) → ySk (m' 36) st' → yWtx 11 g (yN8 (g 26)) 61 0 [] = yWtx 11 g (yN8 (g 26)) n a' st' → Y 7 [(3, 11), (3, 26), (1, t'), (1, a'), (1, i + 1), w5, w6] [] m') (hn : s ≠ 86 ∧ s ≠ 78 ∧ (0 < t → s ≠ 59 ∧ s ≠ 63 ∧ s ≠ 77)) : Y 173 [(3, 11), (3, 26), (1, t), (1, b), (1, i), (1, s), (1, k)] [] m := by
  have y1 : yw (t - 1) = t - 1 := yw_s (t - 1) (by omega) (by omega)
  have y2 : yw (t + (-1)) = t - 1 := by have := yw_s (t + (-1)) (by omega) (by omega); omega
  have y5 : yw (i + 1) = i + 1 := yw_s (i + 1) (by omega) (by omega)
  have y6 : yw (t + 1) = t + 1 := yw_s (t + 1) (by omega) (by omega)
  have y3 : 1 < t → yw (t - 1 - 1) = t - 2 := fun _ => by have := yw_s (t - 1 - 1) (by omega) (by omega); omega
  refine yrun_ok (sp := fun pc => Nat.beq pc 211 || Nat.beq pc 246) hY 22 173 _ [] m ?_
  show ((t ≤ 0 → (Y 211 [(3, 11), (3, 26), (1, t), (1, b), (1, i), (1, s), (1, k)] [] m)) ∧ (¬ (t ≤ 0) → ((s ≠ 33 → (Y 211 [(3, 11), (3, 26), (1, t), (1, b), (1, i), (1, s), (1, k)] [] m)) ∧ (¬ (s ≠ 33) → (((0 : Int) ≤ (yw (t - 1)) ∧ (yw (t - 1)) < ((61 : Nat) : Int)) ∧ (((m 36 (Int.toNat (yw (t - 1)))) ≠ 0 → (((0 : Int) ≤ (yw (t - 1)) ∧ (yw (t - 1)) < ((61 : Nat) : Int)) ∧ (Y 246 [(3, 11), (3, 26), (1, t), (1, b), (1, i), (1, s), (1, k)] [] (yset m 36 (Int.toNat (yw (t - 1))) 0)))) ∧ (¬ ((m 36 (Int.toNat (yw (t - 1)))) ≠ 0) → (((0 : Int) ≤ (yw (t - 1)) ∧ (yw (t - 1)) < ((61 : Nat) : Int)) ∧ (Y 246 [(3, 11), (3, 26), (1, t), (1, b), (1, i), (1, s), (1, k)] [] (yset m 36 (Int.toNat (yw (t - 1))) 1))))))))))
  refine ⟨fun h1 => ?_, fun h1 => ?_⟩
  · exact yp211_WT_11 hY hT0 hq4 hK hi ht hti ha hb hT hf hs hW hc ty rk ih (by omega)
  · refine ⟨fun h2 => ?_, fun h2 => ?_⟩
    · exact yp211_WT_11 hY hT0 hq4 hK hi ht hti ha hb hT hf hs hW hc ty rk ih (by omega)
    · refine ⟨(by have := y3; omega), ?_⟩
      refine ⟨fun h3 => ?_, fun h3 => ?_⟩
      · refine ⟨(by have := y3; omega), ?_⟩
        rcases st with _ | ⟨x, st⟩
        · have ht0 : t = 0 := ht
          omega
        · have hl : t = (st.length : Int) + 1 := by rw [ht, List.length_cons]; omega
          have tp := hs.top hl
          have tp2 : m 36 (Int.toNat (yw (t - 1))) = x := by rw [y1]; exact tp
          have hx : (if x = 0 then (1 : Int) else 0) = 0 := if_neg (by omega)
          have w := yWk_n (S := fun j => (g 32 j, g 34 j)) (a := a) (f := n) (st := st) (x := x) (N := yN8 (g 26)) hc ha.2 (by omega)
          rw [hx] at w
          refine yp246_WT_11 hY hi ?_
          rw [y1, hb]
          exact ih t (a + 1) (0 :: st) _ _ _ (by rw [List.length_cons]; omega) (by omega) (by omega) (hT.sW (q := 36) (Or.inr rfl) ⟨by decide, by decide⟩) (fun x b hx => (yset_nc hx).trans (hf x b hx)) (hs.set hl) (hW.trans w)
      · refine ⟨(by have := y3; omega), ?_⟩
        rcases st with _ | ⟨x, st⟩
        · have ht0 : t = 0 := ht
          omega
        · have hl : t = (st.length : Int) + 1 := by rw [ht, List.length_cons]; omega
          have tp := hs.top hl
          have tp2 : m 36 (Int.toNat (yw (t - 1))) = x := by rw [y1]; exact tp
          have hx : (if x = 0 then (1 : Int) else 0) = 1 := if_pos (by omega)
          have w := yWk_n (S := fun j => (g 32 j, g 34 j)) (a := a) (f := n) (st := st) (x := x) (N := yN8 (g 26)) hc ha.2 (by omega)
          rw [hx] at w
          refine yp246_WT_11 hY hi ?_
          rw [y1, hb]
          exact ih t (a + 1) (1 :: st) _ _ _ (by rw [List.length_cons]; omega) (by omega) (by omega) (hT.sW (q := 36) (Or.inr rfl) ⟨by decide, by decide⟩) (fun x b hx => (yset_nc hx).trans (hf x b hx)) (hs.set hl) (hW.trans w)
set_option maxRecDepth 8000 in
theorem yp142_WT_11 {K : List yV → yM → Prop} {Y : yNx} {g m : yM} {n : Nat} {i t a b s k : Int} {st : List Int} (hY : yCl zpD118 (zpZ, zpRS, zpP10, zpMT, [yC_JN], (2, 62), 1) K Y) (hT0 : yTy zpZ g) (hq4 : 0 ≤ g 11 4 ∧ g 11 4 ≤ 61) (hK : ∀ (r : Int) (g' : yM), (r = yWtx 11 g (yN8 (g 26)) 61 0 []) → (yTy zpZ g') → (∀ a b : Nat, a ≠ 36 → g' a b = g a b) → K [(1, r)] g') (hi : 0 ≤ i ∧ i < 61) (ht : t = (st.length : Int)) (hti : t ≤ i) (ha : 0 ≤ a ∧ a < g 11 4) (hb : b = a + 1) (hT : yTy zpZ m) (hf : ∀ a b : Nat, a ≠ 36 → m a b = g a b) (hs : ySk (m 36) st) (hW : yWtx 11 g (yN8 (g 26)) 61 0 [] = yWtx 11 g (yN8 (g 26)) (n + 1) a st) (hc : (fun j => (g 32 j, g 34 j)) (Int.toNat a) = (s, k)) (ty : yTI s k) (rk : -2147483648 ≤ k ∧ k ≤ 2147483647) (ih : ∀ (t' a' : Int) (st' : List Int) (m' : yM) (w5 w6 : yV), t' = (st'.length : Int) → t' ≤ i + 1 → 0 ≤ a' → yTy zpZ m' → (∀ a b : Nat, a ≠ 36 → m' a b = g a b) → ySk (m' 36) st' → yWtx 11 g (yN8 (g 26)) 61 0 [] = yWtx 11 g (yN8 (g 26)) n a' st' → Y 7 [(3, 11), (3, 26), (1, t'), (1, a'), (1, i + 1), w5, w6] [] m') (hn : s ≠ 86 ∧ s ≠ 78 ∧ (0 < t → s ≠ 59 ∧ s ≠ 63)) : Y 142 [(3, 11), (3, 26), (1, t), (1, b), (1, i), (1, s), (1, k)] [] m := by
  have y1 : yw (t - 1) = t - 1 := yw_s (t - 1) (by omega) (by omega)
  have y2 : yw (t + (-1)) = t - 1 := by have := yw_s (t + (-1)) (by omega) (by omega); omega
  have y5 : yw (i + 1) = i + 1 := yw_s (i + 1) (by omega) (by omega)
  have y6 : yw (t + 1) = t + 1 := yw_s (t + 1) (by omega) (by omega)
  have y3 : 1 < t → yw (t - 1 - 1) = t - 2 := fun _ => by have := yw_s (t - 1 - 1) (by omega) (by omega); omega
  refine yrun_ok (sp := fun pc => Nat.beq pc 173 || Nat.beq pc 211 || Nat.beq pc 246) hY 20 142 _ [] m ?_
  show ((t ≤ 0 → (Y 173 [(3, 11), (3, 26), (1, t), (1, b), (1, i), (1, s), (1, k)] [] m)) ∧ (¬ (t ≤ 0) → ((s ≠ 77 → (Y 173 [(3, 11), (3, 26), (1, t), (1, b), (1, i), (1, s), (1, k)] [] m)) ∧ (¬ (s ≠ 77) → (((0 : Int) ≤ (yw (t - 1)) ∧ (yw (t - 1)) < ((61 : Nat) : Int)) ∧ (((0 : Int) ≤ (yw (t - 1)) ∧ (yw (t - 1)) < ((61 : Nat) : Int)) ∧ (Y 246 [(3, 11), (3, 26), (1, t), (1, b), (1, i), (1, s), (1, k)] [] (yset m 36 (Int.toNat (yw (t - 1))) (yw (-(m 36 (Int.toNat (yw (t - 1))))))))))))))
  refine ⟨fun h1 => ?_, fun h1 => ?_⟩
  · exact yp173_WT_11 hY hT0 hq4 hK hi ht hti ha hb hT hf hs hW hc ty rk ih (by omega)
  · refine ⟨fun h2 => ?_, fun h2 => ?_⟩
    · exact yp173_WT_11 hY hT0 hq4 hK hi ht hti ha hb hT hf hs hW hc ty rk ih (by omega)
    · refine ⟨(by have := y3; omega), ?_⟩
      refine ⟨(by have := y3; omega), ?_⟩
      rcases st with _ | ⟨x, st⟩
      · have ht0 : t = 0 := ht
        omega
      · have hl : t = (st.length : Int) + 1 := by rw [ht, List.length_cons]; omega
        have tp := hs.top hl
        refine yp246_WT_11 hY hi ?_
        rw [y1, tp, hb]
        exact ih t (a + 1) (yw (-x) :: st) _ _ _ (by rw [List.length_cons]; omega) (by omega) (by omega) (hT.sW (q := 36) (Or.inr rfl) (yw_rg _)) (fun x b hx => (yset_nc hx).trans (hf x b hx)) (hs.set hl) (hW.trans (yWk_M hc ha.2 (by omega)))
set_option maxRecDepth 8000 in
theorem yp109_WT_11 {K : List yV → yM → Prop} {Y : yNx} {g m : yM} {n : Nat} {i t a b s k : Int} {st : List Int} (hY : yCl zpD118 (zpZ, zpRS, zpP10, zpMT, [yC_JN], (2, 62), 1) K Y) (hT0 : yTy zpZ g) (hq4 : 0 ≤ g 11 4 ∧ g 11 4 ≤ 61) (hK : ∀ (r : Int) (g' : yM), (r = yWtx 11 g (yN8 (g 26)) 61 0 []) → (yTy zpZ g') → (∀ a b : Nat, a ≠ 36 → g' a b = g a b) → K [(1, r)] g') (hi : 0 ≤ i ∧ i < 61) (ht : t = (st.length : Int)) (hti : t ≤ i) (ha : 0 ≤ a ∧ a < g 11 4) (hb : b = a + 1) (hT : yTy zpZ m) (hf : ∀ a b : Nat, a ≠ 36 → m a b = g a b) (hs : ySk (m 36) st) (hW : yWtx 11 g (yN8 (g 26)) 61 0 [] = yWtx 11 g (yN8 (g 26)) (n + 1) a st) (hc : (fun j => (g 32 j, g 34 j)) (Int.toNat a) = (s, k)) (ty : yTI s k) (rk : -2147483648 ≤ k ∧ k ≤ 2147483647) (ih : ∀ (t' a' : Int) (st' : List Int) (m' : yM) (w5 w6 : yV), t' = (st'.length : Int) → t' ≤ i + 1 → 0 ≤ a' → yTy zpZ m' → (∀ a b : Nat, a ≠ 36 → m' a b = g a b) → ySk (m' 36) st' → yWtx 11 g (yN8 (g 26)) 61 0 [] = yWtx 11 g (yN8 (g 26)) n a' st' → Y 7 [(3, 11), (3, 26), (1, t'), (1, a'), (1, i + 1), w5, w6] [] m') (hn : s ≠ 86 ∧ s ≠ 78 ∧ (0 < t → s ≠ 59)) : Y 109 [(3, 11), (3, 26), (1, t), (1, b), (1, i), (1, s), (1, k)] [] m := by
  have y1 : yw (t - 1) = t - 1 := yw_s (t - 1) (by omega) (by omega)
  have y2 : yw (t + (-1)) = t - 1 := by have := yw_s (t + (-1)) (by omega) (by omega); omega
  have y5 : yw (i + 1) = i + 1 := yw_s (i + 1) (by omega) (by omega)
  have y6 : yw (t + 1) = t + 1 := yw_s (t + 1) (by omega) (by omega)
  have y3 : 1 < t → yw (t - 1 - 1) = t - 2 := fun _ => by have := yw_s (t - 1 - 1) (by omega) (by omega); omega
  refine yrun_ok (sp := fun pc => Nat.beq pc 142 || Nat.beq pc 173 || Nat.beq pc 211 || Nat.beq pc 246) hY 16 109 _ [] m ?_
  show ((t ≤ 0 → (Y 142 [(3, 11), (3, 26), (1, t), (1, b), (1, i), (1, s), (1, k)] [] m)) ∧ (¬ (t ≤ 0) → ((s ≠ 63 → (Y 142 [(3, 11), (3, 26), (1, t), (1, b), (1, i), (1, s), (1, k)] [] m)) ∧ (¬ (s ≠ 63) → (((0 : Int) ≤ (yw (t + (-1))) ∧ (yw (t + (-1))) < ((61 : Nat) : Int)) ∧ (((m 36 (Int.toNat (yw (t + (-1))))) ≠ 0 → (Y 246 [(3, 11), (3, 26), (1, (yw (t + (-1)))), (1, b), (1, i), (1, s), (1, k)] [] m)) ∧ (¬ ((m 36 (Int.toNat (yw (t + (-1))))) ≠ 0) → (Y 246 [(3, 11), (3, 26), (1, (yw (t + (-1)))), (1, k), (1, i), (1, s), (1, k)] [] m))))))))
  refine ⟨fun h1 => ?_, fun h1 => ?_⟩
  · exact yp142_WT_11 hY hT0 hq4 hK hi ht hti ha hb hT hf hs hW hc ty rk ih (by omega)
  · refine ⟨fun h2 => ?_, fun h2 => ?_⟩
    · exact yp142_WT_11 hY hT0 hq4 hK hi ht hti ha hb hT hf hs hW hc ty rk ih (by omega)
    · refine ⟨(by have := y3; omega), ?_⟩
      refine ⟨fun h3 => ?_, fun h3 => ?_⟩
      · rcases st with _ | ⟨x, st⟩
        · have ht0 : t = 0 := ht
          omega
        · have hl : t = (st.length : Int) + 1 := by rw [ht, List.length_cons]; omega
          have tp := hs.top hl
          have w := yWk_C (S := fun j => (g 32 j, g 34 j)) (a := a) (f := n) (st := st) (v := x) (N := yN8 (g 26)) hc ha.2 (by omega)
          have tp2 : m 36 (Int.toNat (yw (t + (-1)))) = x := by rw [y2]; exact tp
          rw [if_neg (by omega)] at w
          refine yp246_WT_11 hY hi ?_
          rw [y2, hb]
          have z := ty.2 (by omega)
          exact ih (t - 1) (a + 1) st _ _ _ (by omega) (by omega) (by omega) hT hf hs.2 (hW.trans w)
      · rcases st with _ | ⟨x, st⟩
        · have ht0 : t = 0 := ht
          omega
        · have hl : t = (st.length : Int) + 1 := by rw [ht, List.length_cons]; omega
          have tp := hs.top hl
          have w := yWk_C (S := fun j => (g 32 j, g 34 j)) (a := a) (f := n) (st := st) (v := x) (N := yN8 (g 26)) hc ha.2 (by omega)
          have tp2 : m 36 (Int.toNat (yw (t + (-1)))) = x := by rw [y2]; exact tp
          rw [if_pos (by omega)] at w
          refine yp246_WT_11 hY hi ?_
          rw [y2]
          have z := ty.2 (by omega)
          exact ih (t - 1) k st _ _ _ (by omega) (by omega) (by omega) hT hf hs.2 (hW.trans w)
set_option maxRecDepth 8000 in
theorem yp89_WT_11 {K : List yV → yM → Prop} {Y : yNx} {g m : yM} {n : Nat} {i t a b s k : Int} {st : List Int} (hY : yCl zpD118 (zpZ, zpRS, zpP10, zpMT, [yC_JN], (2, 62), 1) K Y) (hT0 : yTy zpZ g) (hq4 : 0 ≤ g 11 4 ∧ g 11 4 ≤ 61) (hK : ∀ (r : Int) (g' : yM), (r = yWtx 11 g (yN8 (g 26)) 61 0 []) → (yTy zpZ g') → (∀ a b : Nat, a ≠ 36 → g' a b = g a b) → K [(1, r)] g') (hi : 0 ≤ i ∧ i < 61) (ht : t = (st.length : Int)) (hti : t ≤ i) (ha : 0 ≤ a ∧ a < g 11 4) (hb : b = a + 1) (hT : yTy zpZ m) (hf : ∀ a b : Nat, a ≠ 36 → m a b = g a b) (hs : ySk (m 36) st) (hW : yWtx 11 g (yN8 (g 26)) 61 0 [] = yWtx 11 g (yN8 (g 26)) (n + 1) a st) (hc : (fun j => (g 32 j, g 34 j)) (Int.toNat a) = (s, k)) (ty : yTI s k) (rk : -2147483648 ≤ k ∧ k ≤ 2147483647) (ih : ∀ (t' a' : Int) (st' : List Int) (m' : yM) (w5 w6 : yV), t' = (st'.length : Int) → t' ≤ i + 1 → 0 ≤ a' → yTy zpZ m' → (∀ a b : Nat, a ≠ 36 → m' a b = g a b) → ySk (m' 36) st' → yWtx 11 g (yN8 (g 26)) 61 0 [] = yWtx 11 g (yN8 (g 26)) n a' st' → Y 7 [(3, 11), (3, 26), (1, t'), (1, a'), (1, i + 1), w5, w6] [] m') (hn : s ≠ 86 ∧ s ≠ 78) : Y 89 [(3, 11), (3, 26), (1, t), (1, b), (1, i), (1, s), (1, k)] [] m := by
  have y1 : yw (t - 1) = t - 1 := yw_s (t - 1) (by omega) (by omega)
  have y2 : yw (t + (-1)) = t - 1 := by have := yw_s (t + (-1)) (by omega) (by omega); omega
  have y5 : yw (i + 1) = i + 1 := yw_s (i + 1) (by omega) (by omega)
  have y6 : yw (t + 1) = t + 1 := yw_s (t + 1) (by omega) (by omega)
  have y3 : 1 < t → yw (t - 1 - 1) = t - 2 := fun _ => by have := yw_s (t - 1 - 1) (by omega) (by omega); omega
  refine yrun_ok (sp := fun pc => Nat.beq pc 109 || Nat.beq pc 142 || Nat.beq pc 173 || Nat.beq pc 211 || Nat.beq pc 246) hY 12 89 _ [] m ?_
  show ((t ≤ 0 → (Y 109 [(3, 11), (3, 26), (1, t), (1, b), (1, i), (1, s), (1, k)] [] m)) ∧ (¬ (t ≤ 0) → ((s ≠ 59 → (Y 109 [(3, 11), (3, 26), (1, t), (1, b), (1, i), (1, s), (1, k)] [] m)) ∧ (¬ (s ≠ 59) → (((0 : Int) ≤ (yw (t - 1)) ∧ (yw (t - 1)) < ((61 : Nat) : Int)) ∧ (K [(1, (m 36 (Int.toNat (yw (t - 1)))))] m))))))
  refine ⟨fun h1 => ?_, fun h1 => ?_⟩
  · exact yp109_WT_11 hY hT0 hq4 hK hi ht hti ha hb hT hf hs hW hc ty rk ih (by omega)
  · refine ⟨fun h2 => ?_, fun h2 => ?_⟩
    · exact yp109_WT_11 hY hT0 hq4 hK hi ht hti ha hb hT hf hs hW hc ty rk ih (by omega)
    · refine ⟨(by have := y3; omega), ?_⟩
      rcases st with _ | ⟨x, st⟩
      · have ht0 : t = 0 := ht
        omega
      · have hl : t = (st.length : Int) + 1 := by rw [ht, List.length_cons]; omega
        have tp := hs.top hl
        rw [y1, tp]
        exact hK _ _ (hW.trans (yWk_E hc ha.2 (by omega))).symm hT hf
set_option maxRecDepth 8000 in
theorem yl_WT_11 {K : List yV → yM → Prop} {Y : yNx} {g : yM} (hY : yCl zpD118 (zpZ, zpRS, zpP10, zpMT, [yC_JN], (2, 62), 1) K Y) (hT0 : yTy zpZ g) (hq4 : 0 ≤ g 11 4 ∧ g 11 4 ≤ 61) (hqr : yNr g) (hK : ∀ (r : Int) (g' : yM), (r = yWtx 11 g (yN8 (g 26)) 61 0 []) → (yTy zpZ g') → (∀ a b : Nat, a ≠ 36 → g' a b = g a b) → K [(1, r)] g') : ∀ (n : Nat) (i t a : Int) (st : List Int) (m : yM) (w5 w6 : yV), i + n = 61 → 0 ≤ i → t = (st.length : Int) → t ≤ i → 0 ≤ a → yTy zpZ m → (∀ a b : Nat, a ≠ 36 → m a b = g a b) → ySk (m 36) st → yWtx 11 g (yN8 (g 26)) 61 0 [] = yWtx 11 g (yN8 (g 26)) n a st → Y 7 [(3, 11), (3, 26), (1, t), (1, a), (1, i), w5, w6] [] m := by
  intro n
  induction n with
  | zero =>
    intro i t a st m w5 w6 hd h0 ht hti ha hT hf hs hW
    have e4 : m 11 4 = g 11 4 := hf 11 4 (by decide)
    refine yrun_ok (sp := fun pc => Nat.beq pc 7 || Nat.beq pc 89 || Nat.beq pc 246) hY 40 7 _ [] m ?_
    show ((61 ≤ i → (K [(1, 0)] m)) ∧ (¬ (61 ≤ i) → (((m 11 4) ≤ a → (K [(1, 0)] m)) ∧ (¬ ((m 11 4) ≤ a) → (((0 : Int) ≤ a ∧ a < ((61 : Nat) : Int)) ∧ (((0 : Int) ≤ a ∧ a < ((61 : Nat) : Int)) ∧ ((61 ≤ t → (Y 89 [(3, 11), (3, 26), (1, t), (1, (yw (a + 1))), (1, i), (1, (m 32 (Int.toNat a))), (1, (m 34 (Int.toNat a)))] [] m)) ∧ (¬ (61 ≤ t) → (((m 32 (Int.toNat a)) = 86 → (((m 32 (Int.toNat a)) ≠ 86 → (((0 : Int) ≤ (m 34 (Int.toNat a)) ∧ (m 34 (Int.toNat a)) < ((8 : Nat) : Int)) ∧ (((0 : Int) ≤ t ∧ t < ((61 : Nat) : Int)) ∧ (Y 246 [(3, 11), (3, 26), (1, (yw (t + 1))), (1, (yw (a + 1))), (1, i), (1, (m 32 (Int.toNat a))), (1, (m 34 (Int.toNat a)))] [] (yset m 36 (Int.toNat t) (m 26 (Int.toNat (m 34 (Int.toNat a))))))))) ∧ (¬ ((m 32 (Int.toNat a)) ≠ 86) → (((0 : Int) ≤ t ∧ t < ((61 : Nat) : Int)) ∧ (Y 246 [(3, 11), (3, 26), (1, (yw (t + 1))), (1, (yw (a + 1))), (1, i), (1, (m 32 (Int.toNat a))), (1, (m 34 (Int.toNat a)))] [] (yset m 36 (Int.toNat t) (m 34 (Int.toNat a)))))))) ∧ (¬ ((m 32 (Int.toNat a)) = 86) → (((m 32 (Int.toNat a)) ≠ 78 → (Y 89 [(3, 11), (3, 26), (1, t), (1, (yw (a + 1))), (1, i), (1, (m 32 (Int.toNat a))), (1, (m 34 (Int.toNat a)))] [] m)) ∧ (¬ ((m 32 (Int.toNat a)) ≠ 78) → (((m 32 (Int.toNat a)) ≠ 86 → (((0 : Int) ≤ (m 34 (Int.toNat a)) ∧ (m 34 (Int.toNat a)) < ((8 : Nat) : Int)) ∧ (((0 : Int) ≤ t ∧ t < ((61 : Nat) : Int)) ∧ (Y 246 [(3, 11), (3, 26), (1, (yw (t + 1))), (1, (yw (a + 1))), (1, i), (1, (m 32 (Int.toNat a))), (1, (m 34 (Int.toNat a)))] [] (yset m 36 (Int.toNat t) (m 26 (Int.toNat (m 34 (Int.toNat a))))))))) ∧ (¬ ((m 32 (Int.toNat a)) ≠ 86) → (((0 : Int) ≤ t ∧ t < ((61 : Nat) : Int)) ∧ (Y 246 [(3, 11), (3, 26), (1, (yw (t + 1))), (1, (yw (a + 1))), (1, i), (1, (m 32 (Int.toNat a))), (1, (m 34 (Int.toNat a)))] [] (yset m 36 (Int.toNat t) (m 34 (Int.toNat a)))))))))))))))))))
    refine ⟨fun h1 => ?_, fun h1 => ?_⟩
    · exact hK _ _ hW.symm hT hf
    · refine ⟨fun h2 => ?_, fun h2 => ?_⟩
      · omega
      · refine ⟨(by omega), ?_⟩
        refine ⟨(by omega), ?_⟩
        refine ⟨fun h3 => ?_, fun h3 => ?_⟩
        · omega
        · refine ⟨fun h4 => ?_, fun h4 => ?_⟩
          · refine ⟨fun h5 => ?_, fun h5 => ?_⟩
            · refine ⟨(by omega), ?_⟩
              refine ⟨(by omega), ?_⟩
              omega
            · refine ⟨(by omega), ?_⟩
              omega
          · refine ⟨fun h6 => ?_, fun h6 => ?_⟩
            · omega
            · refine ⟨fun h7 => ?_, fun h7 => ?_⟩
              · refine ⟨(by omega), ?_⟩
                refine ⟨(by omega), ?_⟩
                omega
              · refine ⟨(by omega), ?_⟩
                omega
  | succ n ih =>
    intro i t a st m w5 w6 hd h0 ht hti ha hT hf hs hW
    have e4 : m 11 4 = g 11 4 := hf 11 4 (by decide)
    have es : m 32 (Int.toNat a) = g 32 (Int.toNat a) := hf 32 _ (by decide)
    have en : m 34 (Int.toNat a) = g 34 (Int.toNat a) := hf 34 _ (by decide)
    have ty : a < 61 → yTI (g 32 (Int.toNat a)) (g 34 (Int.toNat a)) := fun z => hT0.fI (q := 32) (Or.inr rfl) (by omega)
    have rn : a < 61 → -2147483648 ≤ g 34 (Int.toNat a) ∧ g 34 (Int.toNat a) ≤ 2147483647 := fun z => hqr 34 _ (by decide) (by decide) (by omega)
    have ih2 : ∀ (t' a' : Int) (st' : List Int) (m' : yM) (w5 w6 : yV), t' = (st'.length : Int) → t' ≤ i + 1 → 0 ≤ a' → yTy zpZ m' → (∀ a b : Nat, a ≠ 36 → m' a b = g a b) → ySk (m' 36) st' → yWtx 11 g (yN8 (g 26)) 61 0 [] = yWtx 11 g (yN8 (g 26)) n a' st' → Y 7 [(3, 11), (3, 26), (1, t'), (1, a'), (1, i + 1), w5, w6] [] m' := fun t' a' st' m' w5 w6 q1 q2 q3 q4 q5 q6 q7 => ih (i + 1) t' a' st' m' w5 w6 (by omega) (by omega) q1 q2 q3 q4 q5 q6 q7
    refine yrun_ok (sp := fun pc => Nat.beq pc 7 || Nat.beq pc 89 || Nat.beq pc 246) hY 40 7 _ [] m ?_
    show ((61 ≤ i → (K [(1, 0)] m)) ∧ (¬ (61 ≤ i) → (((m 11 4) ≤ a → (K [(1, 0)] m)) ∧ (¬ ((m 11 4) ≤ a) → (((0 : Int) ≤ a ∧ a < ((61 : Nat) : Int)) ∧ (((0 : Int) ≤ a ∧ a < ((61 : Nat) : Int)) ∧ ((61 ≤ t → (Y 89 [(3, 11), (3, 26), (1, t), (1, (yw (a + 1))), (1, i), (1, (m 32 (Int.toNat a))), (1, (m 34 (Int.toNat a)))] [] m)) ∧ (¬ (61 ≤ t) → (((m 32 (Int.toNat a)) = 86 → (((m 32 (Int.toNat a)) ≠ 86 → (((0 : Int) ≤ (m 34 (Int.toNat a)) ∧ (m 34 (Int.toNat a)) < ((8 : Nat) : Int)) ∧ (((0 : Int) ≤ t ∧ t < ((61 : Nat) : Int)) ∧ (Y 246 [(3, 11), (3, 26), (1, (yw (t + 1))), (1, (yw (a + 1))), (1, i), (1, (m 32 (Int.toNat a))), (1, (m 34 (Int.toNat a)))] [] (yset m 36 (Int.toNat t) (m 26 (Int.toNat (m 34 (Int.toNat a))))))))) ∧ (¬ ((m 32 (Int.toNat a)) ≠ 86) → (((0 : Int) ≤ t ∧ t < ((61 : Nat) : Int)) ∧ (Y 246 [(3, 11), (3, 26), (1, (yw (t + 1))), (1, (yw (a + 1))), (1, i), (1, (m 32 (Int.toNat a))), (1, (m 34 (Int.toNat a)))] [] (yset m 36 (Int.toNat t) (m 34 (Int.toNat a)))))))) ∧ (¬ ((m 32 (Int.toNat a)) = 86) → (((m 32 (Int.toNat a)) ≠ 78 → (Y 89 [(3, 11), (3, 26), (1, t), (1, (yw (a + 1))), (1, i), (1, (m 32 (Int.toNat a))), (1, (m 34 (Int.toNat a)))] [] m)) ∧ (¬ ((m 32 (Int.toNat a)) ≠ 78) → (((m 32 (Int.toNat a)) ≠ 86 → (((0 : Int) ≤ (m 34 (Int.toNat a)) ∧ (m 34 (Int.toNat a)) < ((8 : Nat) : Int)) ∧ (((0 : Int) ≤ t ∧ t < ((61 : Nat) : Int)) ∧ (Y 246 [(3, 11), (3, 26), (1, (yw (t + 1))), (1, (yw (a + 1))), (1, i), (1, (m 32 (Int.toNat a))), (1, (m 34 (Int.toNat a)))] [] (yset m 36 (Int.toNat t) (m 26 (Int.toNat (m 34 (Int.toNat a))))))))) ∧ (¬ ((m 32 (Int.toNat a)) ≠ 86) → (((0 : Int) ≤ t ∧ t < ((61 : Nat) : Int)) ∧ (Y 246 [(3, 11), (3, 26), (1, (yw (t + 1))), (1, (yw (a + 1))), (1, i), (1, (m 32 (Int.toNat a))), (1, (m 34 (Int.toNat a)))] [] (yset m 36 (Int.toNat t) (m 34 (Int.toNat a)))))))))))))))))))
    refine ⟨fun h1 => ?_, fun h1 => ?_⟩
    · omega
    · refine ⟨fun h2 => ?_, fun h2 => ?_⟩
      · exact hK _ _ (hW.trans (yWk_out (by omega) _)).symm hT hf
      · refine ⟨(by omega), ?_⟩
        refine ⟨(by omega), ?_⟩
        refine ⟨fun h3 => ?_, fun h3 => ?_⟩
        · have ha4 : a < g 11 4 := by omega
          have ty := ty (by omega)
          have rn := rn (by omega)
          have y4 : yw (a + 1) = a + 1 := yw_s (a + 1) (by omega) (by omega)
          have y6 : yw (t + 1) = t + 1 := yw_s (t + 1) (by omega) (by omega)
          rw [y4, es, en]
          exact yp89_WT_11 hY hT0 hq4 hK ⟨h0, by omega⟩ ht hti ⟨ha, ha4⟩ rfl hT hf hs hW rfl ty rn ih2 (by omega)
        · refine ⟨fun h4 => ?_, fun h4 => ?_⟩
          · refine ⟨fun h5 => ?_, fun h5 => ?_⟩
            · refine ⟨(by obtain ⟨ty1, ty2⟩ := ty (by omega); omega), ?_⟩
              refine ⟨(by omega), ?_⟩
              have ha4 : a < g 11 4 := by omega
              have ty := ty (by omega)
              have rn := rn (by omega)
              have y4 : yw (a + 1) = a + 1 := yw_s (a + 1) (by omega) (by omega)
              have y6 : yw (t + 1) = t + 1 := yw_s (t + 1) (by omega) (by omega)
              have z := ty.1 (by omega)
              have k8 : g 26 (Int.toNat (g 34 (Int.toNat a))) = yN8 (g 26) (Int.toNat (g 34 (Int.toNat a))) := (yN8_p (by omega)).symm
              have e26 : ∀ j : Nat, m 26 j = g 26 j := fun j => hf 26 j (by decide)
              have r26 : -2147483648 ≤ g 26 (Int.toNat (g 34 (Int.toNat a))) ∧ g 26 (Int.toNat (g 34 (Int.toNat a))) ≤ 2147483647 := hT0.fA (List.mem_of_getElem? (i := 25) rfl) (by omega)
              rw [y4, y6, es, en, e26, k8]
              refine yp246_WT_11 hY ⟨h0, by omega⟩ ?_
              exact ih2 (t + 1) (a + 1) (yN8 (g 26) (Int.toNat (g 34 (Int.toNat a))) :: st) _ _ _ (by rw [List.length_cons]; omega) (by omega) (by omega) (hT.sW (q := 36) (Or.inr rfl) ⟨by omega, by omega⟩) (fun x b hx => (yset_nc hx).trans (hf x b hx)) (hs.push ht) (hW.trans (yWk_N rfl ha4 (show g 32 (Int.toNat a) = 78 by omega)))
            · refine ⟨(by omega), ?_⟩
              have ha4 : a < g 11 4 := by omega
              have ty := ty (by omega)
              have rn := rn (by omega)
              have y4 : yw (a + 1) = a + 1 := yw_s (a + 1) (by omega) (by omega)
              have y6 : yw (t + 1) = t + 1 := yw_s (t + 1) (by omega) (by omega)
              rw [y4, y6, es, en]
              refine yp246_WT_11 hY ⟨h0, by omega⟩ ?_
              exact ih2 (t + 1) (a + 1) (g 34 (Int.toNat a) :: st) _ _ _ (by rw [List.length_cons]; omega) (by omega) (by omega) (hT.sW (q := 36) (Or.inr rfl) ⟨by omega, by omega⟩) (fun x b hx => (yset_nc hx).trans (hf x b hx)) (hs.push ht) (hW.trans (yWk_V rfl ha4 (show g 32 (Int.toNat a) = 86 by omega)))
          · refine ⟨fun h6 => ?_, fun h6 => ?_⟩
            · have ha4 : a < g 11 4 := by omega
              have ty := ty (by omega)
              have rn := rn (by omega)
              have y4 : yw (a + 1) = a + 1 := yw_s (a + 1) (by omega) (by omega)
              have y6 : yw (t + 1) = t + 1 := yw_s (t + 1) (by omega) (by omega)
              rw [y4, es, en]
              exact yp89_WT_11 hY hT0 hq4 hK ⟨h0, by omega⟩ ht hti ⟨ha, ha4⟩ rfl hT hf hs hW rfl ty rn ih2 (by omega)
            · refine ⟨fun h7 => ?_, fun h7 => ?_⟩
              · refine ⟨(by obtain ⟨ty1, ty2⟩ := ty (by omega); omega), ?_⟩
                refine ⟨(by omega), ?_⟩
                have ha4 : a < g 11 4 := by omega
                have ty := ty (by omega)
                have rn := rn (by omega)
                have y4 : yw (a + 1) = a + 1 := yw_s (a + 1) (by omega) (by omega)
                have y6 : yw (t + 1) = t + 1 := yw_s (t + 1) (by omega) (by omega)
                have z := ty.1 (by omega)
                have k8 : g 26 (Int.toNat (g 34 (Int.toNat a))) = yN8 (g 26) (Int.toNat (g 34 (Int.toNat a))) := (yN8_p (by omega)).symm
                have e26 : ∀ j : Nat, m 26 j = g 26 j := fun j => hf 26 j (by decide)
                have r26 : -2147483648 ≤ g 26 (Int.toNat (g 34 (Int.toNat a))) ∧ g 26 (Int.toNat (g 34 (Int.toNat a))) ≤ 2147483647 := hT0.fA (List.mem_of_getElem? (i := 25) rfl) (by omega)
                rw [y4, y6, es, en, e26, k8]
                refine yp246_WT_11 hY ⟨h0, by omega⟩ ?_
                exact ih2 (t + 1) (a + 1) (yN8 (g 26) (Int.toNat (g 34 (Int.toNat a))) :: st) _ _ _ (by rw [List.length_cons]; omega) (by omega) (by omega) (hT.sW (q := 36) (Or.inr rfl) ⟨by omega, by omega⟩) (fun x b hx => (yset_nc hx).trans (hf x b hx)) (hs.push ht) (hW.trans (yWk_N rfl ha4 (show g 32 (Int.toNat a) = 78 by omega)))
              · refine ⟨(by omega), ?_⟩
                have ha4 : a < g 11 4 := by omega
                have ty := ty (by omega)
                have rn := rn (by omega)
                have y4 : yw (a + 1) = a + 1 := yw_s (a + 1) (by omega) (by omega)
                have y6 : yw (t + 1) = t + 1 := yw_s (t + 1) (by omega) (by omega)
                rw [y4, y6, es, en]
                refine yp246_WT_11 hY ⟨h0, by omega⟩ ?_
                exact ih2 (t + 1) (a + 1) (g 34 (Int.toNat a) :: st) _ _ _ (by rw [List.length_cons]; omega) (by omega) (by omega) (hT.sW (q := 36) (Or.inr rfl) ⟨by omega, by omega⟩) (fun x b hx => (yset_nc hx).trans (hf x b hx)) (hs.push ht) (hW.trans (yWk_V rfl ha4 (show g 32 (Int.toNat a) = 86 by omega)))
set_option maxRecDepth 8000 in
theorem yv_WT_11 {K : List yV → yM → Prop} {Y : yNx} {g : yM} (hY : yCl zpD118 (zpZ, zpRS, zpP10, zpMT, [yC_JN], (2, 62), 1) K Y) (hp0 : yTy zpZ g) (hp1 : 0 ≤ g 11 4 ∧ g 11 4 ≤ 61) (hp2 : yNr g) (hK : ∀ (r : Int) (g' : yM), (r = yWtx 11 g (yN8 (g 26)) 61 0 []) → (yTy zpZ g') → (∀ a b : Nat, a ≠ 36 → g' a b = g a b) → K [(1, r)] g') : Y 0 [(3, 11), (3, 26), (0, 0), (0, 0), (0, 0), (0, 0), (0, 0)] [] g := by
  refine yrun_ok (sp := fun pc => Nat.beq pc 7) hY 7 0 _ [] g ?_
  show (Y 7 [(3, 11), (3, 26), (1, 0), (1, 0), (1, 0), (0, 0), (0, 0)] [] g)
  exact yl_WT_11 hY hp0 hp1 hp2 hK 61 0 0 0 [] g _ _ (by decide) (by decide) rfl (by decide) (by decide) hp0 (fun _ _ _ => rfl) trivial rfl
theorem yM_WT_11 {l : Launch} {Ts : List Cond} {cl : List vw_C} {RO : zRO} (H : zHyp Ts cl RO) : yMet l Ts cl zpZ RO zpMT yC_WT_11 := ymet_of2 H.1 H.2.1 zpDj H.2.2.1 yRb H.p10 (ymets_cons (yM_JN H) ymets_nil) (zrc1 rfl) (plainFor_of_name zpy10) zpDk118 (fun as g K Y h hA hY => by
  obtain ⟨rfl, hp0, hp1, hp2, hK⟩ := h
  exact yv_WT_11 hY  hp0 hp1 hp2 hK)
def yP_WU_11 : yPT := fun as g K => as = [(3, 11), (3, 26)] ∧ (yTy zpZ g) ∧ (0 ≤ g 11 4 ∧ g 11 4 ≤ 61) ∧ (∀ (r : Int) (g' : yM), (r = yWtx 11 g (yN8 (g 26)) 61 0 []) → (yTy zpZ g') → (∀ a b : Nat, a ≠ 36 → g' a b = g a b) → K [(1, r)] g')
def yC_WU_11 : yC := (118, (2, 62), yP_WU_11)
theorem yM_WU_11 {l : Launch} {Ts : List Cond} {cl : List vw_C} {RO : zRO} (H : zHyp Ts cl RO) : yMet l Ts cl zpZ RO zpMT yC_WU_11 := fun D tys A ad ws g as As K hMem a2 a3 a4 a5 => yM_WT_11 H D tys A ad ws g as As K hMem a2 a3 a4 (by
  obtain ⟨e, h1, h2, h3⟩ := a5
  exact ⟨e, h1, h2, yNr_of hMem, h3⟩)
