/-! TEXTS: THE PIECES -/
theorem yPo.one {q : Nat} (hq : q = 10 ∨ q = 11) {g g3 : yM} {p s n : Int} (hp : yPe q g) (h1 : g 2 1 < p ∧ p ≤ 60) (ha : yAs q (yset g 2 1 p) g3 s n) : yPo q g g3 (-1, p, [(s, n)]) := by
  obtain ⟨p1, p2, p3, p4, p5, p6⟩ := hp
  have y4 : (yset g 2 1 p) q 4 = g q 4 := yset_nc (by omega)
  have hf := ha.fr (by omega)
  have e : (yset g 2 1 p) q 4 < 61 := by omega
  refine ⟨ha.1, fun a b c1 c2 c3 c4 => (hf a b c2 c3 c4).trans (yset_ne (by omega)), ?_, ?_, ?_, fun _ => ⟨?_, ?_⟩, ?_⟩
  · rw [hf 2 3 (by omega) (by omega) (by omega), yset_nj (by decide)]
    exact p2
  · rw [hf 2 1 (by omega) (by omega) (by omega), yset_eq]
    omega
  · rw [ha.2.1 e, yset_eq]
    omega
  · rw [hf 2 1 (by omega) (by omega) (by omega), yset_eq]
  · obtain ⟨z1, z2, z3⟩ := ha.ap hq (by omega) e
    refine ⟨by rw [z1, y4], fun j hj => ?_, fun j hj => ?_⟩
    · have z := z2 j (by omega)
      rw [z.1, z.2, yset_nc (by omega), yset_nc (by omega)]
      exact ⟨rfl, rfl⟩
    · rw [z3 j hj, y4]
  · have z1 := ha.old hq (by omega)
    refine ⟨by omega, fun j hj => ?_⟩
    rw [z1.2 j (by omega), yset_nc (by omega)]
theorem yPo.bad {q : Nat} (hq : q = 10 ∨ q = 11) {g : yM} {x : yR} (hp : yPe q g) (hx : x.1 = g 2 1) : yPo q g (yset g 2 3 (g 2 1)) x := by
  obtain ⟨p1, p2, p3, p4, p5, p6⟩ := hp
  refine ⟨p1.sO (List.mem_of_getElem? (i := 2) rfl) rfl (by decide +kernel) ⟨by omega, by omega⟩, fun a b c1 c2 c3 c4 => yset_ne (by omega), by rw [yset_eq, hx], ?_, ?_, fun z => absurd z (by omega), ?_⟩
  · rw [yset_nj (by decide)]
    exact p3
  · rw [yset_nc (by omega)]
    omega
  · rw [yset_nc (by omega)]
    exact ⟨Int.le_refl _, fun j hj => yset_nc (by omega)⟩
theorem yPe.up {q : Nat} (hq : q = 10 ∨ q = 11) {g : yM} (hp : yPe q g) (h : g 2 1 < 60) : yPe q (yset g 2 1 (g 2 1 + 1)) := by
  obtain ⟨p1, p2, p3, p4, p5, p6⟩ := hp
  refine ⟨p1.sO (List.mem_of_getElem? (i := 2) rfl) rfl (by decide +kernel) ⟨by omega, by omega⟩, ?_, ?_, ?_, ?_⟩
  · rw [yset_nj (by decide)]; exact p2
  · rw [yset_eq]; omega
  · rw [yset_nj (by decide)]; exact p4
  · rw [yset_nc (by omega), yset_eq]; omega
/-- brackets: what they hold was read -/
theorem yPo.brc {q : Nat} (hq : q = 10 ∨ q = 11) {g g2 : yM} {x : yR} (hp : yPe q g) (hx : yPo q (yset g 2 1 (g 2 1 + 1)) g2 x) (hxr : yGr (g 2 1 + 1) x) : (x.1 = -1 → x.2.1 < 60 → yPo q g (yset g2 2 1 (g2 2 1 + 1)) (-1, x.2.1 + 1, x.2.2)) ∧ (x.1 = -1 → yPo q g (yset g2 2 3 (g2 2 1)) (x.2.1, 0, [])) ∧ (x.1 ≠ -1 → yPo q g g2 x) := by
  obtain ⟨p1, p2, p3, p4, p5, p6⟩ := hp
  obtain ⟨x1, x2, x3, x4, x5, x6, xa, xb⟩ := hx
  have y4 : (yset g 2 1 (g 2 1 + 1)) q 4 = g q 4 := yset_nc (by omega)
  have fr : yXf q g g2 := fun a b c1 c2 c3 c4 => (x2 a b c1 c2 c3 c4).trans (yset_ne (by omega))
  have kb : g q 4 ≤ g2 q 4 ∧ ∀ j : Nat, (j : Int) < g q 4 → g2 (q + 21) j = g (q + 21) j := ⟨by omega, fun j hj => by rw [xb j (by omega), yset_nc (by omega)]⟩
  refine ⟨fun e e2 => ?_, fun e => ?_, fun e => ⟨x1, fr, x3, x4, x5, fun z => absurd z e, kb⟩⟩
  · obtain ⟨x7, z1, z2, z3⟩ := x6 e
    refine ⟨x1.sO (List.mem_of_getElem? (i := 2) rfl) rfl (by decide +kernel) ⟨by omega, by omega⟩, fun a b c1 c2 c3 c4 => (yset_ne (by omega)).trans (fr a b c1 c2 c3 c4), ?_, ?_, ?_, fun _ => ⟨?_, ?_, fun j hj => ?_, fun j hj => ?_⟩, ?_⟩
    · rw [yset_nj (by decide), x3]
      exact e
    · rw [yset_eq]
      omega
    · rw [yset_nc (by omega)]
      exact x5
    · rw [yset_eq]
      show g2 2 1 + 1 = x.2.1 + 1
      omega
    · rw [yset_nc (by omega), z1, y4]
    · have z := z2 j (by omega)
      rw [yset_nc (by omega), yset_nc (by omega), z.1, z.2, yset_nc (by omega), yset_nc (by omega)]
      exact ⟨rfl, rfl⟩
    · rw [yset_nc (by omega), yset_nc (by omega), z3 j hj, y4]
    · rw [yset_nc (by omega)]
      exact ⟨kb.1, fun j hj => (yset_nc (by omega)).trans (kb.2 j hj)⟩
  · obtain ⟨x7, -⟩ := x6 e
    obtain ⟨y1, y2, y3⟩ := hxr.1 e
    refine ⟨x1.sO (List.mem_of_getElem? (i := 2) rfl) rfl (by decide +kernel) ⟨by omega, by omega⟩, fun a b c1 c2 c3 c4 => (yset_ne (by omega)).trans (fr a b c1 c2 c3 c4), ?_, ?_, ?_, fun z => ?_, ?_⟩
    · rw [yset_eq]
      exact x7
    · rw [yset_nj (by decide)]
      exact x4
    · rw [yset_nc (by omega)]
      exact x5
    · have z : x.2.1 = -1 := z
      omega
    · rw [yset_nc (by omega)]
      exact ⟨kb.1, fun j hj => (yset_nc (by omega)).trans (kb.2 j hj)⟩
/-- a sign ahead of an operand -/
theorem yPo.una {q : Nat} (hq : q = 10 ∨ q = 11) {g g2 g3 : yM} {x : yR} {c : Int} (hp : yPe q g) (hx : yPo q (yset g 2 1 (g 2 1 + 1)) g2 x) (hxr : yGr (g 2 1 + 1) x) (ha : yAs q g2 g3 c 0) : yPo q g g3 (if x.1 = -1 then (-1, x.2.1, x.2.2 ++ [(c, 0)]) else x) := by
  obtain ⟨p1, p2, p3, p4, p5, p6⟩ := hp
  obtain ⟨x1, x2, x3, x4, x5, x6, xa, xb⟩ := hx
  have y4 : (yset g 2 1 (g 2 1 + 1)) q 4 = g q 4 := yset_nc (by omega)
  have hf := ha.fr x5.2
  have f3 : yXf q g g3 := fun a b c1 c2 c3 c4 => ((hf a b c2 c3 c4).trans (x2 a b c1 c2 c3 c4)).trans (yset_ne (by omega))
  have k21 : g3 2 1 = g2 2 1 := hf 2 1 (by omega) (by omega) (by omega)
  have k23 : g3 2 3 = g2 2 3 := hf 2 3 (by omega) (by omega) (by omega)
  have k4 : 0 ≤ g3 q 4 ∧ g3 q 4 ≤ 61 := by
    by_cases e : g2 q 4 < 61
    · rw [ha.2.1 e, yset_eq]
      omega
    · rw [ha.2.2 (by omega)]
      exact x5
  have kb : g q 4 ≤ g3 q 4 ∧ ∀ j : Nat, (j : Int) < g q 4 → g3 (q + 21) j = g (q + 21) j := by
    have z1 := ha.old hq x5
    refine ⟨by omega, fun j hj => ?_⟩
    rw [z1.2 j (by omega), xb j (by omega), yset_nc (by omega)]
  by_cases e : x.1 = -1
  · rw [if_pos e]
    obtain ⟨x7, z1, z2, z3⟩ := x6 e
    obtain ⟨y1, y2, y3⟩ := hxr.1 e
    have k5 : g2 q 4 < 61 := by omega
    have e8 : yAp q g g2 x.2.2 := ⟨by rw [z1, y4], fun j hj => by
      have z := z2 j (by omega)
      rw [z.1, z.2, yset_nc (by omega), yset_nc (by omega)]
      exact ⟨rfl, rfl⟩, fun j hj => by rw [z3 j hj, y4]⟩
    exact ⟨ha.1, f3, by rw [k23, x3]; exact e, by rw [k21]; exact x4, k4, fun _ => ⟨by rw [k21]; exact x7, yAp.cat p5 e8 (ha.ap hq x5.1 k5)⟩, kb⟩
  · rw [if_neg e]
    exact ⟨ha.1, f3, by rw [k23]; exact x3, by rw [k21]; exact x4, k4, fun z => absurd z e, kb⟩
theorem yTs_z {g : yM} {p : Int} (h : g 2 2 ≤ p) : yTs g p = 0 := if_neg (by omega)
theorem yPo.te {q : Nat} (hq : q = 10 ∨ q = 11) {g m : yM} {r : yR} (h : yPo q g m r) : yTs m = yTs g ∧ m 2 2 = g 2 2 := ⟨h.2.1.ts hq, h.2.1 2 2 (by omega) (by omega) (by omega) (by omega)⟩
def zpD108 (pc : Nat) : Option (Instr × Nat) := bif Nat.ble 40 pc then none else (bif Nat.ble 20 pc then (bif Nat.ble 30 pc then (bif Nat.ble 35 pc then (bif Nat.ble 36 pc then (bif Nat.ble 39 pc then (bif Nat.beq pc 39 then some (.return_, 1) else none) else (bif Nat.beq pc 36 then some (.putfield 25, 3) else none)) else (bif Nat.beq pc 35 then some (.iadd, 1) else none)) else (bif Nat.ble 31 pc then (bif Nat.ble 34 pc then (bif Nat.beq pc 34 then some (.iconst 1, 1) else none) else (bif Nat.beq pc 31 then some (.getfield 25, 3) else none)) else (bif Nat.beq pc 30 then some (.dup, 1) else none))) else (bif Nat.ble 27 pc then (bif Nat.ble 28 pc then (bif Nat.ble 29 pc then (bif Nat.beq pc 29 then some (.aload_n 0, 1) else none) else (bif Nat.beq pc 28 then some (.iastore, 1) else none)) else (bif Nat.beq pc 27 then some (.iload_n 2, 1) else none)) else (bif Nat.ble 23 pc then (bif Nat.ble 24 pc then (bif Nat.beq pc 24 then some (.getfield 25, 3) else none) else (bif Nat.beq pc 23 then some (.aload_n 0, 1) else none)) else (bif Nat.beq pc 20 then some (.getfield 15, 3) else none)))) else (bif Nat.ble 10 pc then (bif Nat.ble 17 pc then (bif Nat.ble 18 pc then (bif Nat.ble 19 pc then (bif Nat.beq pc 19 then some (.aload_n 0, 1) else none) else (bif Nat.beq pc 18 then some (.iastore, 1) else none)) else (bif Nat.beq pc 17 then some (.iload_n 1, 1) else none)) else (bif Nat.ble 13 pc then (bif Nat.ble 14 pc then (bif Nat.beq pc 14 then some (.getfield 25, 3) else none) else (bif Nat.beq pc 13 then some (.aload_n 0, 1) else none)) else (bif Nat.beq pc 10 then some (.getfield 11, 3) else none))) else (bif Nat.ble 4 pc then (bif Nat.ble 6 pc then (bif Nat.ble 9 pc then (bif Nat.beq pc 9 then some (.aload_n 0, 1) else none) else (bif Nat.beq pc 6 then some (.if_icmp .ge 33, 3) else none)) else (bif Nat.beq pc 4 then some (.bipush 61, 2) else none)) else (bif Nat.ble 1 pc then (bif Nat.beq pc 1 then some (.getfield 25, 3) else none) else (bif Nat.beq pc 0 then some (.aload_n 0, 1) else none)))))
theorem zpDk108 : ∀ (pc : Nat) (q : Instr × Nat), zpD108 pc = some q → decode (zpMT 108).2.1 pc = .ok q := zDok_ok (n := 40) (fun pc h => by unfold zpD108; rw [Nat.ble_eq_true_of_le h]; rfl) (by decide +kernel)
def yP_AS10 : yPT := fun as g K => ∃ (s n : Int), as = [(3, 10), (1, s), (1, n)] ∧ (yTy zpZ g) ∧ (0 ≤ g 10 4 ∧ g 10 4 ≤ 61) ∧ (s = 78 → 0 ≤ n ∧ n ≤ 7) ∧ (s = 63 → 0 ≤ n) ∧ (∀ (g' : yM), (yAs 10 g g' s n) → K [] g')
def yC_AS10 : yC := (108, (1, 40), yP_AS10)
set_option maxRecDepth 8000 in
theorem yv_AS10 {K : List yV → yM → Prop} {Y : yNx} {g : yM} {s n : Int} (hY : yCl zpD108 (zpZ, zpRS, zpP10, zpMT, [], (1, 40), 0) K Y) (hr_s : -2147483648 ≤ s ∧ s ≤ 2147483647) (hr_n : -2147483648 ≤ n ∧ n ≤ 2147483647) (hp0 : yTy zpZ g) (hp1 : 0 ≤ g 10 4 ∧ g 10 4 ≤ 61) (hp2 : s = 78 → 0 ≤ n ∧ n ≤ 7) (hp3 : s = 63 → 0 ≤ n) (hK : ∀ (g' : yM), (yAs 10 g g' s n) → K [] g') : Y 0 [(3, 10), (1, s), (1, n)] [] g := by
  refine yrun_ok (sp := fun pc => false) hY 23 0 _ [] g ?_
  show ((61 ≤ (g 10 4) → (K [] g)) ∧ (¬ (61 ≤ (g 10 4)) → (((0 : Int) ≤ (g 10 4) ∧ (g 10 4) < ((61 : Nat) : Int)) ∧ (((0 : Int) ≤ (g 10 4) ∧ (g 10 4) < ((61 : Nat) : Int)) ∧ (K [] (yset (yset (yset g 31 (Int.toNat (g 10 4)) s) 33 (Int.toNat (g 10 4)) n) 10 4 (yw ((g 10 4) + 1))))))))
  refine ⟨fun h1 => ?_, fun h1 => ?_⟩
  · exact hK _ ⟨hp0, fun h => absurd h (by omega), fun _ => rfl⟩
  · refine ⟨(by omega), ?_⟩
    refine ⟨(by omega), ?_⟩
    rw [yw_s (g 10 4 + 1) (by omega) (by omega)]
    exact hK _ ⟨yTy.add (q := 10) (Or.inl rfl) hp0 hp1.1 (by omega) hp2 hp3, fun _ => rfl, fun h => absurd h (by omega)⟩
theorem yM_AS10 {l : Launch} {Ts : List Cond} {cl : List vw_C} {RO : zRO} (H : zHyp Ts cl RO) : yMet l Ts cl zpZ RO zpMT yC_AS10 := ymet_of2 H.1 H.2.1 zpDj H.2.2.1 yRb H.p10 ymets_nil (zrc0 rfl) (plainFor_of_name zpy10) zpDk108 (fun as g K Y h hA hY => by
  obtain ⟨s, n, rfl, hp0, hp1, hp2, hp3, hK⟩ := h
  exact yv_AS10 hY (yAr1 hA (by simp)) (yAr1 hA (by simp)) hp0 hp1 hp2 hp3 hK)
def yP_AS11 : yPT := fun as g K => ∃ (s n : Int), as = [(3, 11), (1, s), (1, n)] ∧ (yTy zpZ g) ∧ (0 ≤ g 11 4 ∧ g 11 4 ≤ 61) ∧ (s = 78 → 0 ≤ n ∧ n ≤ 7) ∧ (s = 63 → 0 ≤ n) ∧ (∀ (g' : yM), (yAs 11 g g' s n) → K [] g')
def yC_AS11 : yC := (108, (1, 40), yP_AS11)
set_option maxRecDepth 8000 in
theorem yv_AS11 {K : List yV → yM → Prop} {Y : yNx} {g : yM} {s n : Int} (hY : yCl zpD108 (zpZ, zpRS, zpP10, zpMT, [], (1, 40), 0) K Y) (hr_s : -2147483648 ≤ s ∧ s ≤ 2147483647) (hr_n : -2147483648 ≤ n ∧ n ≤ 2147483647) (hp0 : yTy zpZ g) (hp1 : 0 ≤ g 11 4 ∧ g 11 4 ≤ 61) (hp2 : s = 78 → 0 ≤ n ∧ n ≤ 7) (hp3 : s = 63 → 0 ≤ n) (hK : ∀ (g' : yM), (yAs 11 g g' s n) → K [] g') : Y 0 [(3, 11), (1, s), (1, n)] [] g := by
  refine yrun_ok (sp := fun pc => false) hY 23 0 _ [] g ?_
  show ((61 ≤ (g 11 4) → (K [] g)) ∧ (¬ (61 ≤ (g 11 4)) → (((0 : Int) ≤ (g 11 4) ∧ (g 11 4) < ((61 : Nat) : Int)) ∧ (((0 : Int) ≤ (g 11 4) ∧ (g 11 4) < ((61 : Nat) : Int)) ∧ (K [] (yset (yset (yset g 32 (Int.toNat (g 11 4)) s) 34 (Int.toNat (g 11 4)) n) 11 4 (yw ((g 11 4) + 1))))))))
  refine ⟨fun h1 => ?_, fun h1 => ?_⟩
  · exact hK _ ⟨hp0, fun h => absurd h (by omega), fun _ => rfl⟩
  · refine ⟨(by omega), ?_⟩
    refine ⟨(by omega), ?_⟩
    rw [yw_s (g 11 4 + 1) (by omega) (by omega)]
    exact hK _ ⟨yTy.add (q := 11) (Or.inr rfl) hp0 hp1.1 (by omega) hp2 hp3, fun _ => rfl, fun h => absurd h (by omega)⟩
theorem yM_AS11 {l : Launch} {Ts : List Cond} {cl : List vw_C} {RO : zRO} (H : zHyp Ts cl RO) : yMet l Ts cl zpZ RO zpMT yC_AS11 := ymet_of2 H.1 H.2.1 zpDj H.2.2.1 yRb H.p10 ymets_nil (zrc0 rfl) (plainFor_of_name zpy10) zpDk108 (fun as g K Y h hA hY => by
  obtain ⟨s, n, rfl, hp0, hp1, hp2, hp3, hK⟩ := h
  exact yv_AS11 hY (yAr1 hA (by simp)) (yAr1 hA (by simp)) hp0 hp1 hp2 hp3 hK)
