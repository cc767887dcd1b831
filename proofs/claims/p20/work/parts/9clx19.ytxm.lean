/-! TEXTS: THE REFERENCE -/
/-- the reference's signs -/
def yTq (g : yM) (p : Int) : Int := if 0 ≤ p ∧ p < g 90 18 then (if g 90 16 < 0 then g 98 (Int.toNat p) else g 99 (Int.toNat p)) else 0
theorem yTq_z {g : yM} {p : Int} (h : g 90 18 ≤ p) : yTq g p = 0 := if_neg (by omega)
theorem yTq_tg {g : yM} (h : g 90 18 ≤ 60) : yTg (yTq g) := fun p h0 h1 => by
  by_cases c : p < g 90 18
  · omega
  · exact absurd (yTq_z (by omega)) h1
/-- two values joined; steps, what they make of a stack -/
def yJn (s x y : Int) : Int := if s = 124 then (if x ≠ 0 ∨ y ≠ 0 then 1 else 0) else if s = 38 then (if x ≠ 0 ∧ y ≠ 0 then 1 else 0) else if s = 60 then (if x < y then 1 else 0) else if s = 61 then (if x = y then 1 else 0) else if s = 62 then (if y < x then 1 else 0) else if s = 43 then yw (x + y) else if s = 45 then yw (x - y) else if s = 42 then yw (x * y) else if s = 47 then (if y = 0 then 0 else yb (fun x y => x / y) x y) else (if y = 0 then 0 else yb (fun x y => x - x / y * y) x y)
theorem yJn_m {s x y : Int} (h : s = 42) : yJn s x y = yw (x * y) := by
  subst h
  rfl
theorem yJn_p {s x y : Int} (h : s = 43) : yJn s x y = yw (x + y) := by
  subst h
  rfl
theorem yJn_s {s x y : Int} (h : s = 45) : yJn s x y = yw (x - y) := by
  subst h
  rfl
theorem yJn_d {s x y : Int} (h : s = 47) (hy : y ≠ 0) : yJn s x y = yb (fun x y => x / y) x y := by
  subst h
  exact if_neg hy
theorem yJn_r {s x y : Int} (h : s = 37) (hy : y ≠ 0) : yJn s x y = yb (fun x y => x - x / y * y) x y := by
  subst h
  exact if_neg hy
theorem yJn_z {s x y : Int} (h : s = 47 ∨ s = 37) (hy : y = 0) : yJn s x y = 0 := by
  rcases h with h | h
  · subst h
    exact if_pos hy
  · subst h
    exact if_pos hy
theorem yJn_c1 {s x y : Int} (h : (s = 60 ∧ x < y) ∨ (s = 61 ∧ x = y) ∨ (s = 62 ∧ y < x)) : yJn s x y = 1 := by
  rcases h with ⟨h, h2⟩ | ⟨h, h2⟩ | ⟨h, h2⟩
  all_goals
    subst h
    exact if_pos h2
theorem yJn_c0 {s x y : Int} (h : (s = 60 ∧ ¬ x < y) ∨ (s = 61 ∧ ¬ x = y) ∨ (s = 62 ∧ ¬ y < x)) : yJn s x y = 0 := by
  rcases h with ⟨h, h2⟩ | ⟨h, h2⟩ | ⟨h, h2⟩
  all_goals
    subst h
    exact if_neg h2
theorem yJn_a1 {s x y : Int} (h : s = 38) (h2 : x ≠ 0 ∧ y ≠ 0) : yJn s x y = 1 := by
  subst h
  exact if_pos h2
theorem yJn_a0 {s x y : Int} (h : s = 38) (h2 : ¬ (x ≠ 0 ∧ y ≠ 0)) : yJn s x y = 0 := by
  subst h
  exact if_neg h2
theorem yJn_o1 {s x y : Int} (h : s = 124) (h2 : x ≠ 0 ∨ y ≠ 0) : yJn s x y = 1 := by
  subst h
  exact if_pos h2
theorem yJn_o0 {s x y : Int} (h : s = 124) (h2 : ¬ (x ≠ 0 ∨ y ≠ 0)) : yJn s x y = 0 := by
  subst h
  exact if_neg h2
def yXs (N : Nat → Int) (c : Int × Int) (st : List Int) : List Int :=
  if c.1 = 86 then c.2 :: st else if c.1 = 78 then N (Int.toNat c.2) :: st
  else if c.1 = 77 then (match st with | x :: r => yw (-x) :: r | [] => [])
  else if c.1 = 33 then (match st with | x :: r => (if x = 0 then 1 else 0) :: r | [] => [])
  else (match st with | y :: x :: r => yJn c.1 x y :: r | s => s)
def yXe (N : Nat → Int) : List (Int × Int) → List Int → List Int
  | [], st => st
  | c :: r, st => yXe N r (yXs N c st)
theorem yXe_app {N : Nat → Int} : ∀ (a b : List (Int × Int)) (st : List Int), yXe N (a ++ b) st = yXe N b (yXe N a st)
  | [], _, _ => rfl
  | c :: r, b, st => yXe_app r b (yXs N c st)
/-- steps that make one value -/
def yVl (N : Nat → Int) (c : List (Int × Int)) (v : Int) : Prop := ∀ st : List Int, yXe N c st = v :: st
theorem yVl.bin {N : Nat → Int} {a b : List (Int × Int)} {v w s : Int} (ha : yVl N a v) (hb : yVl N b w) (h1 : s ≠ 86) (h2 : s ≠ 78) (h3 : s ≠ 77) (h4 : s ≠ 33) : yVl N (a ++ b ++ [(s, 0)]) (yJn s v w) := fun st => by
  rw [yXe_app, yXe_app, ha, hb]
  show yXs N (s, 0) (w :: v :: st) = _
  unfold yXs
  rw [if_neg h1, if_neg h2, if_neg h3, if_neg h4]
theorem yVl.neg {N : Nat → Int} {a : List (Int × Int)} {v : Int} (ha : yVl N a v) : yVl N (a ++ [(77, 0)]) (yw (-v)) := fun st => by
  rw [yXe_app, ha]
  rfl
theorem yVl.no {N : Nat → Int} {a : List (Int × Int)} {v : Int} (ha : yVl N a v) : yVl N (a ++ [(33, 0)]) (if v = 0 then 1 else 0) := fun st => by
  rw [yXe_app, ha]
  rfl
/-- names are eight -/
def yN8 (N : Nat → Int) (j : Nat) : Int := if j < 8 then N j else 0
theorem yN8_p {N : Nat → Int} {j : Nat} (h : j < 8) : yN8 N j = N j := if_pos h
theorem yVl.nam {N : Nat → Int} {k : Int} (h : 0 ≤ k ∧ k ≤ 7) : yVl (yN8 N) [(78, k)] (N (Int.toNat k)) := fun st => by
  show yN8 N (Int.toNat k) :: st = N (Int.toNat k) :: st
  rw [yN8_p (by omega)]
def yXm (g m : yM) : Prop := ∀ a b : Nat, ¬ (a = 90 ∧ (b = 17 ∨ b = 19 ∨ b = 20)) → m a b = g a b
theorem yXm.tq {g m : yM} (h : yXm g m) : yTq m = yTq g := funext fun p => by
  unfold yTq
  rw [h 90 18 (by omega), h 90 16 (by omega), h 98 _ (by omega), h 99 _ (by omega)]
theorem yXm.st {g m : yM} {j : Nat} {v : Int} (h : yXm g m) (hj : j = 17 ∨ j = 19 ∨ j = 20) : yXm g (yset m 90 j v) := fun a b hn => (yset_ne (fun z => hn (by omega))).trans (h a b hn)
theorem yXm.tr {g m k : yM} (h1 : yXm g m) (h2 : yXm m k) : yXm g k := fun a b hn => (h2 a b hn).trans (h1 a b hn)
def yMq (o : Int) (g : yM) : Prop := yTy zpZ g ∧ g 90 19 = -1 ∧ (0 ≤ g 90 17 ∧ g 90 17 ≤ 60) ∧ g 90 18 ≤ 60 ∧ (g 90 16 = -1 ∨ g 90 16 = 0) ∧ g 90 20 = o
def yMo (o : Int) (g m : yM) (r : yR) (v : Int) : Prop := yTy zpZ m ∧ yXm g m ∧ m 90 19 = r.1 ∧ (0 ≤ m 90 17 ∧ m 90 17 ≤ 60) ∧ (o ≤ m 90 20 ∧ m 90 20 ≤ 6) ∧ (r.1 = -1 → m 90 17 = r.2.1 ∧ m 90 20 = o ∧ yVl (yN8 (g 100)) r.2.2 v)
/-- a sign is taken behind a piece -/
theorem yMo.pe {o : Int} {g m : yM} {r : yR} {v : Int} (hp : yMq o g) (h : yMo o g m r v) (h1 : r.1 = -1) (h2 : r.2.1 < 60) : yMq o (yset m 90 17 (m 90 17 + 1)) := by
  obtain ⟨t, f, e3, e1, e4, e5⟩ := h
  obtain ⟨e6, e7, -⟩ := e5 h1
  have f18 : m 90 18 = g 90 18 := f 90 18 (by omega)
  have f16 : m 90 16 = g 90 16 := f 90 16 (by omega)
  obtain ⟨p1, p2, p3, p4, p5, p6⟩ := hp
  refine ⟨t.sO (List.mem_of_getElem? (i := 42) rfl) rfl (by decide +kernel) ⟨by omega, by omega⟩, ?_, ?_, ?_, ?_, ?_⟩
  · rw [yset_nj (by decide), e3]; exact h1
  · rw [yset_eq]; omega
  · rw [yset_nj (by decide), f18]; exact p4
  · rw [yset_nj (by decide), f16]; exact p5
  · rw [yset_nj (by decide)]; exact e7
theorem yMo.step {o : Int} {g m g2 : yM} {r x : yR} {v w c : Int} (h : yMo o g m r v) (h1 : r.1 = -1) (hx : yMo o (yset m 90 17 (m 90 17 + 1)) g2 x w) (c1 : c ≠ 86) (c2 : c ≠ 78) (c3 : c ≠ 77) (c4 : c ≠ 33) : yMo o g g2 (if x.1 = -1 then (-1, x.2.1, r.2.2 ++ x.2.2 ++ [(c, 0)]) else x) (yJn c v w) := by
  obtain ⟨t, f, e3, e1, e4, e5⟩ := h
  obtain ⟨e6, e7, e8⟩ := e5 h1
  obtain ⟨x1, x2, x3, x4, x5, x6⟩ := hx
  have fr : yXm g g2 := (f.st (Or.inl rfl)).tr x2
  by_cases e : x.1 = -1
  · rw [if_pos e]
    obtain ⟨y1, y2, y3⟩ := x6 e
    have e9 : (yset m 90 17 (m 90 17 + 1)) 100 = g 100 := funext fun q => (yset_nc (by decide)).trans (f 100 q (by omega))
    rw [e9] at y3
    exact ⟨x1, fr, x3.trans e, x4, x5, fun _ => ⟨y1, y2, e8.bin y3 c1 c2 c3 c4⟩⟩
  · rw [if_neg e]
    exact ⟨x1, fr, x3, x4, x5, fun z => absurd z e⟩
/-- nothing was read: a fault -/
theorem yMo.bad {o : Int} {g : yM} {x : yR} {v : Int} (hp : yMq o g) (ho : 0 ≤ o ∧ o ≤ 6) (hx : x.1 = g 90 17) : yMo o g (yset g 90 19 (g 90 17)) x v := by
  obtain ⟨p1, p2, p3, p4, p5, p6⟩ := hp
  refine ⟨p1.sO (List.mem_of_getElem? (i := 42) rfl) rfl (by decide +kernel) ⟨by omega, by omega⟩, yXm.st (fun _ _ _ => rfl) (Or.inr (Or.inl rfl)), by rw [yset_eq, hx], ?_, ?_, fun z => absurd z (by omega)⟩
  · rw [yset_nj (by decide)]; exact p3
  · rw [yset_nj (by decide), p6]; omega
theorem yMo.one {o : Int} {g : yM} {p s n v : Int} (hp : yMq o g) (ho : 0 ≤ o ∧ o ≤ 6) (h1 : 0 ≤ p ∧ p ≤ 60) (hv : yVl (yN8 (g 100)) [(s, n)] v) : yMo o g (yset g 90 17 p) (-1, p, [(s, n)]) v := by
  obtain ⟨p1, p2, p3, p4, p5, p6⟩ := hp
  refine ⟨p1.sO (List.mem_of_getElem? (i := 42) rfl) rfl (by decide +kernel) ⟨by omega, by omega⟩, yXm.st (fun _ _ _ => rfl) (Or.inl rfl), ?_, ?_, ?_, fun _ => ⟨yset_eq, ?_, hv⟩⟩
  · rw [yset_nj (by decide)]; exact p2
  · rw [yset_eq]; exact h1
  · rw [yset_nj (by decide), p6]; omega
  · rw [yset_nj (by decide)]; exact p6
/-- one deeper -/
theorem yMq.dn {o : Int} {g : yM} (hp : yMq o g) (ho : 0 ≤ o ∧ o < 6) (h : g 90 17 < 60) : yMq (o + 1) (yset (yset g 90 20 (o + 1)) 90 17 (g 90 17 + 1)) := by
  obtain ⟨p1, p2, p3, p4, p5, p6⟩ := hp
  refine ⟨(p1.sO (List.mem_of_getElem? (i := 42) rfl) rfl (by decide +kernel) ⟨by omega, by omega⟩).sO (List.mem_of_getElem? (i := 42) rfl) rfl (by decide +kernel) ⟨by omega, by omega⟩, ?_, ?_, ?_, ?_, ?_⟩
  · rw [yset_nj (by decide), yset_nj (by decide)]; exact p2
  · rw [yset_eq]; omega
  · rw [yset_nj (by decide), yset_nj (by decide)]; exact p4
  · rw [yset_nj (by decide), yset_nj (by decide)]; exact p5
  · rw [yset_nj (by decide), yset_eq]
/-- what was read one deeper -/
theorem yMo.up {o : Int} {g g2 : yM} {x : yR} {v : Int} (hp : yMq o g) (ho : 0 ≤ o ∧ o < 6) (hx : yMo (o + 1) (yset (yset g 90 20 (o + 1)) 90 17 (g 90 17 + 1)) g2 x v) : yXm g g2 ∧ (x.1 = -1 → g2 90 17 = x.2.1 ∧ g2 90 20 = o + 1 ∧ yVl (yN8 (g 100)) x.2.2 v) ∧ yTq g2 = yTq g ∧ g2 90 18 = g 90 18 ∧ g2 90 16 = g 90 16 := by
  obtain ⟨x1, x2, x3, x4, x5, x6⟩ := hx
  have fr : yXm g g2 := yXm.tr (yXm.st (yXm.st (fun _ _ _ => rfl) (Or.inr (Or.inr rfl))) (Or.inl rfl)) x2
  refine ⟨fr, fun e => ?_, fr.tq, fr 90 18 (by omega), fr 90 16 (by omega)⟩
  obtain ⟨y1, y2, y3⟩ := x6 e
  have e9 : (yset (yset g 90 20 (o + 1)) 90 17 (g 90 17 + 1)) 100 = g 100 := funext fun q => (yset_nc (by decide)).trans (yset_nc (by decide))
  rw [e9] at y3
  exact ⟨y1, y2, y3⟩
/-- the end of one that stood deeper -/
theorem yMo.end {o : Int} {g g3 : yM} {r : yR} {v : Int} (t : yTy zpZ g3) (f : yXm g g3) (h1 : g3 90 19 = -1) (h2 : 0 ≤ g3 90 17 ∧ g3 90 17 ≤ 60) (ho : 0 ≤ o ∧ o ≤ 6) (hr : r.1 = -1) (h4 : g3 90 17 = r.2.1) (hv : yVl (yN8 (g 100)) r.2.2 v) : yMo o g (yset g3 90 20 o) r v := by
  refine ⟨t.sO (List.mem_of_getElem? (i := 42) rfl) rfl (by decide +kernel) ⟨by omega, by omega⟩, f.st (Or.inr (Or.inr rfl)), ?_, ?_, ?_, fun _ => ⟨?_, yset_eq, hv⟩⟩
  · rw [yset_nj (by decide), h1, hr]
  · rw [yset_nj (by decide)]; exact h2
  · rw [yset_eq]; omega
  · rw [yset_nj (by decide)]; exact h4
def yP_BA3 : yPT := fun as g K => as = [(3, 90)] ∧ (0 ≤ g 90 17) ∧ (g 90 18 ≤ 60) ∧ (g 90 16 = -1 ∨ g 90 16 = 0) ∧ (∀ (r : Int), (r = yTq g (g 90 17)) → K [(1, r)] g)
def yC_BA3 : yC := (142, (1, 40), yP_BA3)
set_option maxRecDepth 8000 in
theorem yv_BA3 {K : List yV → yM → Prop} {Y : yNx} {g : yM} (hY : yCl zpD142 (zpZ, zpRS, zpP12, zpMT, [], (1, 40), 1) K Y) (hp0 : 0 ≤ g 90 17) (hp1 : g 90 18 ≤ 60) (hp2 : g 90 16 = -1 ∨ g 90 16 = 0) (hK : ∀ (r : Int), (r = yTq g (g 90 17)) → K [(1, r)] g) : Y 0 [(3, 90)] [] g := by
  refine yrun_ok (sp := fun pc => false) hY 18 0 _ [] g ?_
  show (((g 90 18) ≤ (g 90 17) → (K [(1, 0)] g)) ∧ (¬ ((g 90 18) ≤ (g 90 17)) → ((0 ≤ (g 90 16) → (((0 : Int) ≤ (yw ((g 90 16) + (g 90 17))) ∧ (yw ((g 90 16) + (g 90 17))) < ((60 : Nat) : Int)) ∧ (K [(1, (g 99 (Int.toNat (yw ((g 90 16) + (g 90 17))))))] g))) ∧ (¬ (0 ≤ (g 90 16)) → (((0 : Int) ≤ (g 90 17) ∧ (g 90 17) < ((60 : Nat) : Int)) ∧ (K [(1, (g 98 (Int.toNat (g 90 17))))] g))))))
  refine ⟨fun h1 => ?_, fun h1 => ?_⟩
  · exact hK _ (yTq_z (by omega)).symm
  · refine ⟨fun h2 => ?_, fun h2 => ?_⟩
    · refine ⟨(by have := yw_s (g 90 16 + g 90 17); omega), ?_⟩
      refine hK _ ?_
      rw [show yw (g 90 16 + g 90 17) = g 90 17 from by have := yw_s (g 90 16 + g 90 17); omega]
      unfold yTq
      rw [if_pos (by omega), if_neg (by omega)]
    · refine ⟨(by omega), ?_⟩
      refine hK _ ?_
      unfold yTq
      rw [if_pos (by omega), if_pos (by omega)]
theorem yM_BA3 {l : Launch} {Ts : List Cond} {cl : List vw_C} {RO : zRO} (H : zHyp Ts cl RO) : yMet l Ts cl zpZ RO zpMT yC_BA3 := ymet_of2 H.1 H.2.1 zpDj H.2.2.1 yRb H.p12 ymets_nil (zrc1 rfl) (plainFor_of_name zpy12) zpDk142 (fun as g K Y h hA hY => by
  obtain ⟨rfl, hp0, hp1, hp2, hK⟩ := h
  exact yv_BA3 hY  hp0 hp1 hp2 hK)
def yP_TK3 : yPT := fun as g K => ∃ (c : Int), as = [(3, 90), (1, c)] ∧ (0 ≤ g 90 17) ∧ (g 90 18 ≤ 60) ∧ (g 90 16 = -1 ∨ g 90 16 = 0) ∧ (g 90 17 ≤ 60) ∧ (1 ≤ c) ∧ (∀ (r : Int) (g' : yM), ((r = 1 ∧ g 90 19 < 0 ∧ yTq g (g 90 17) = c ∧ g' = yset g 90 17 (g 90 17 + 1)) ∨ (r = 0 ∧ (0 ≤ g 90 19 ∨ yTq g (g 90 17) ≠ c) ∧ g' = g)) → K [(1, r)] g')
def yC_TK3 : yC := (202, (2, 60), yP_TK3)
set_option maxRecDepth 8000 in
theorem yv_TK3 {K : List yV → yM → Prop} {Y : yNx} {g : yM} {c : Int} (hY : yCl zpD202 (zpZ, zpRS, zpP12, zpMT, [yC_BA3], (2, 60), 2) K Y) (hr_c : -2147483648 ≤ c ∧ c ≤ 2147483647) (hp0 : 0 ≤ g 90 17) (hp1 : g 90 18 ≤ 60) (hp2 : g 90 16 = -1 ∨ g 90 16 = 0) (hp3 : g 90 17 ≤ 60) (hp4 : 1 ≤ c) (hK : ∀ (r : Int) (g' : yM), ((r = 1 ∧ g 90 19 < 0 ∧ yTq g (g 90 17) = c ∧ g' = yset g 90 17 (g 90 17 + 1)) ∨ (r = 0 ∧ (0 ≤ g 90 19 ∨ yTq g (g 90 17) ≠ c) ∧ g' = g)) → K [(1, r)] g') : Y 0 [(3, 90), (1, c)] [] g := by
  refine yrun_ok (sp := fun pc => false) hY 15 0 _ [] g ?_
  show ((0 ≤ (g 90 19) → (((0 : Int) ≤ 0 ∧ 0 ≤ (1 : Int)) ∧ (K [(1, 0)] g))) ∧ (¬ (0 ≤ (g 90 19)) → ([(3, 90)] = [(3, 90)] ∧ (0 ≤ g 90 17) ∧ (g 90 18 ≤ 60) ∧ (g 90 16 = -1 ∨ g 90 16 = 0) ∧ (∀ (r2 : Int), (r2 = yTq g (g 90 17)) → ((r2 = c → (((0 : Int) ≤ 1 ∧ 1 ≤ (1 : Int)) ∧ (K [(1, 1)] (yset g 90 17 (yw ((g 90 17) + 1)))))) ∧ (¬ (r2 = c) → (((0 : Int) ≤ 0 ∧ 0 ≤ (1 : Int)) ∧ (K [(1, 0)] g))))))))
  refine ⟨fun h1 => ?_, fun h1 => ?_⟩
  · refine ⟨(by omega), ?_⟩
    exact hK _ _ (Or.inr ⟨rfl, by omega, rfl⟩)
  · refine ⟨rfl, (by omega), (by omega), (by omega), ?_⟩
    intro r2 p30
    refine ⟨fun h4 => ?_, fun h4 => ?_⟩
    · refine ⟨(by omega), ?_⟩
      have hz : g 90 18 ≤ g 90 17 → yTq g (g 90 17) = 0 := yTq_z
      rw [yw_s (g 90 17 + 1) (by omega) (by omega)]
      exact hK _ _ (Or.inl ⟨rfl, by omega, by omega, rfl⟩)
    · refine ⟨(by omega), ?_⟩
      exact hK _ _ (Or.inr ⟨rfl, by omega, rfl⟩)
theorem yM_TK3 {l : Launch} {Ts : List Cond} {cl : List vw_C} {RO : zRO} (H : zHyp Ts cl RO) : yMet l Ts cl zpZ RO zpMT yC_TK3 := ymet_of2 H.1 H.2.1 zpDj H.2.2.1 yRb H.p12 (ymets_cons (yM_BA3 H) ymets_nil) (zrc2 rfl) (plainFor_of_name zpy12) zpDk202 (fun as g K Y h hA hY => by
  obtain ⟨c, rfl, hp0, hp1, hp2, hp3, hp4, hK⟩ := h
  exact yv_TK3 hY (yAr1 hA (by simp)) hp0 hp1 hp2 hp3 hp4 hK)
def yP_NMO : yPT := fun as g K => ∃ (c : Int), as = [(1, c)] ∧ (∀ (r : Int), (r = yKx c) → K [(1, r)] g)
def yC_NMO : yC := (178, (1, 40), yP_NMO)
set_option maxRecDepth 8000 in
theorem yv_NMO {K : List yV → yM → Prop} {Y : yNx} {g : yM} {c : Int} (hY : yCl zpD178 (zpZ, zpRS, zpP12, zpMT, [], (1, 40), 1) K Y) (hr_c : -2147483648 ≤ c ∧ c ≤ 2147483647) (hK : ∀ (r : Int), (r = yKx c) → K [(1, r)] g) : Y 0 [(1, c)] [] g := by
  refine yrun_ok (sp := fun pc => false) hY 4 0 _ [] g ?_
  show (((23 : Nat) : Int) = (119 : Int) - 97 + 1 ∧ (c < 97 ∨ 119 < c → (K [(1, (-1))] g)) ∧ (c = 97 → (K [(1, 6)] g)) ∧ (c = 97 + 1 → (K [(1, 7)] g)) ∧ (c = 97 + 1 + 1 → (K [(1, (-1))] g)) ∧ (c = 97 + 1 + 1 + 1 → (K [(1, 5)] g)) ∧ (c = 97 + 1 + 1 + 1 + 1 → (K [(1, (-1))] g)) ∧ (c = 97 + 1 + 1 + 1 + 1 + 1 → (K [(1, (-1))] g)) ∧ (c = 97 + 1 + 1 + 1 + 1 + 1 + 1 → (K [(1, (-1))] g)) ∧ (c = 97 + 1 + 1 + 1 + 1 + 1 + 1 + 1 → (K [(1, (-1))] g)) ∧ (c = 97 + 1 + 1 + 1 + 1 + 1 + 1 + 1 + 1 → (K [(1, (-1))] g)) ∧ (c = 97 + 1 + 1 + 1 + 1 + 1 + 1 + 1 + 1 + 1 → (K [(1, (-1))] g)) ∧ (c = 97 + 1 + 1 + 1 + 1 + 1 + 1 + 1 + 1 + 1 + 1 → (K [(1, (-1))] g)) ∧ (c = 97 + 1 + 1 + 1 + 1 + 1 + 1 + 1 + 1 + 1 + 1 + 1 → (K [(1, 3)] g)) ∧ (c = 97 + 1 + 1 + 1 + 1 + 1 + 1 + 1 + 1 + 1 + 1 + 1 + 1 → (K [(1, 2)] g)) ∧ (c = 97 + 1 + 1 + 1 + 1 + 1 + 1 + 1 + 1 + 1 + 1 + 1 + 1 + 1 → (K [(1, 4)] g)) ∧ (c = 97 + 1 + 1 + 1 + 1 + 1 + 1 + 1 + 1 + 1 + 1 + 1 + 1 + 1 + 1 → (K [(1, (-1))] g)) ∧ (c = 97 + 1 + 1 + 1 + 1 + 1 + 1 + 1 + 1 + 1 + 1 + 1 + 1 + 1 + 1 + 1 → (K [(1, (-1))] g)) ∧ (c = 97 + 1 + 1 + 1 + 1 + 1 + 1 + 1 + 1 + 1 + 1 + 1 + 1 + 1 + 1 + 1 + 1 → (K [(1, (-1))] g)) ∧ (c = 97 + 1 + 1 + 1 + 1 + 1 + 1 + 1 + 1 + 1 + 1 + 1 + 1 + 1 + 1 + 1 + 1 + 1 → (K [(1, (-1))] g)) ∧ (c = 97 + 1 + 1 + 1 + 1 + 1 + 1 + 1 + 1 + 1 + 1 + 1 + 1 + 1 + 1 + 1 + 1 + 1 + 1 → (K [(1, 1)] g)) ∧ (c = 97 + 1 + 1 + 1 + 1 + 1 + 1 + 1 + 1 + 1 + 1 + 1 + 1 + 1 + 1 + 1 + 1 + 1 + 1 + 1 → (K [(1, (-1))] g)) ∧ (c = 97 + 1 + 1 + 1 + 1 + 1 + 1 + 1 + 1 + 1 + 1 + 1 + 1 + 1 + 1 + 1 + 1 + 1 + 1 + 1 + 1 → (K [(1, (-1))] g)) ∧ (c = 97 + 1 + 1 + 1 + 1 + 1 + 1 + 1 + 1 + 1 + 1 + 1 + 1 + 1 + 1 + 1 + 1 + 1 + 1 + 1 + 1 + 1 → (K [(1, (-1))] g)) ∧ (c = 97 + 1 + 1 + 1 + 1 + 1 + 1 + 1 + 1 + 1 + 1 + 1 + 1 + 1 + 1 + 1 + 1 + 1 + 1 + 1 + 1 + 1 + 1 → (K [(1, 0)] g)) ∧ True)
  refine ⟨by decide, fun h1 => ?_, fun h1 => ?_, fun h1 => ?_, fun h1 => ?_, fun h1 => ?_, fun h1 => ?_, fun h1 => ?_, fun h1 => ?_, fun h1 => ?_, fun h1 => ?_, fun h1 => ?_, fun h1 => ?_, fun h1 => ?_, fun h1 => ?_, fun h1 => ?_, fun h1 => ?_, fun h1 => ?_, fun h1 => ?_, fun h1 => ?_, fun h1 => ?_, fun h1 => ?_, fun h1 => ?_, fun h1 => ?_, fun h1 => ?_, trivial⟩
  · refine hK _ ?_
    unfold yKx
    repeat' split
    all_goals omega
  · refine hK _ ?_
    unfold yKx
    repeat' split
    all_goals omega
  · refine hK _ ?_
    unfold yKx
    repeat' split
    all_goals omega
  · refine hK _ ?_
    unfold yKx
    repeat' split
    all_goals omega
  · refine hK _ ?_
    unfold yKx
    repeat' split
    all_goals omega
  · refine hK _ ?_
    unfold yKx
    repeat' split
    all_goals omega
  · refine hK _ ?_
    unfold yKx
    repeat' split
    all_goals omega
  · refine hK _ ?_
    unfold yKx
    repeat' split
    all_goals omega
  · refine hK _ ?_
    unfold yKx
    repeat' split
    all_goals omega
  · refine hK _ ?_
    unfold yKx
    repeat' split
    all_goals omega
  · refine hK _ ?_
    unfold yKx
    repeat' split
    all_goals omega
  · refine hK _ ?_
    unfold yKx
    repeat' split
    all_goals omega
  · refine hK _ ?_
    unfold yKx
    repeat' split
    all_goals omega
  · refine hK _ ?_
    unfold yKx
    repeat' split
    all_goals omega
  · refine hK _ ?_
    unfold yKx
    repeat' split
    all_goals omega
  · refine hK _ ?_
    unfold yKx
    repeat' split
    all_goals omega
  · refine hK _ ?_
    unfold yKx
    repeat' split
    all_goals omega
  · refine hK _ ?_
    unfold yKx
    repeat' split
    all_goals omega
  · refine hK _ ?_
    unfold yKx
    repeat' split
    all_goals omega
  · refine hK _ ?_
    unfold yKx
    repeat' split
    all_goals omega
  · refine hK _ ?_
    unfold yKx
    repeat' split
    all_goals omega
  · refine hK _ ?_
    unfold yKx
    repeat' split
    all_goals omega
  · refine hK _ ?_
    unfold yKx
    repeat' split
    all_goals omega
  · refine hK _ ?_
    unfold yKx
    repeat' split
    all_goals omega
theorem yM_NMO {l : Launch} {Ts : List Cond} {cl : List vw_C} {RO : zRO} (H : zHyp Ts cl RO) : yMet l Ts cl zpZ RO zpMT yC_NMO := ymet_of2 H.1 H.2.1 zpDj H.2.2.1 yRb H.p12 ymets_nil (zrc1 rfl) (plainFor_of_name zpy12) zpDk178 (fun as g K Y h hA hY => by
  obtain ⟨c, rfl, hK⟩ := h
  exact yv_NMO hY (yAr1 hA (by simp)) hK)
def yP_mOg (lv : Nat) : yPT := fun as g K => ∃ (o : Int), as = [(3, 90)] ∧ (yMq o g) ∧ (o + (lv : Int) = 6 ∧ 0 ≤ o) ∧ (∀ (r : Int) (g' : yM), (yMo o g g' (yOn (yTq g) lv (g 90 17)) r) → K [(1, r)] g')
def yC_mOg (lv : Nat) : yC := (183, (26 + 6 * lv, 1210 + 150 * lv), yP_mOg lv)
def yP_mPg (lv : Nat) : yPT := fun as g K => ∃ (o : Int), as = [(3, 90)] ∧ (yMq o g) ∧ (o + (lv : Int) = 6 ∧ 0 ≤ o) ∧ (∀ (r : Int) (g' : yM), (yMo o g g' (yPro (yTq g) (yOn (yTq g) lv) (g 90 17)) r) → K [(1, r)] g')
def yC_mPg (lv : Nat) : yC := (189, (27 + 6 * lv, 1235 + 150 * lv), yP_mPg lv)
def yP_mSg (lv : Nat) : yPT := fun as g K => ∃ (o : Int), as = [(3, 90)] ∧ (yMq o g) ∧ (o + (lv : Int) = 6 ∧ 0 ≤ o) ∧ (∀ (r : Int) (g' : yM), (yMo o g g' (ySum (yTq g) (yOn (yTq g) lv) (g 90 17)) r) → K [(1, r)] g')
def yC_mSg (lv : Nat) : yC := (200, (28 + 6 * lv, 1260 + 150 * lv), yP_mSg lv)
def yP_mCg (lv : Nat) : yPT := fun as g K => ∃ (o : Int), as = [(3, 90)] ∧ (yMq o g) ∧ (o + (lv : Int) = 6 ∧ 0 ≤ o) ∧ (∀ (r : Int) (g' : yM), (yMo o g g' (yCmp (yTq g) (yOn (yTq g) lv) (g 90 17)) r) → K [(1, r)] g')
def yC_mCg (lv : Nat) : yC := (149, (29 + 6 * lv, 1285 + 150 * lv), yP_mCg lv)
def yP_mBg (lv : Nat) : yPT := fun as g K => ∃ (o : Int), as = [(3, 90)] ∧ (yMq o g) ∧ (o + (lv : Int) = 6 ∧ 0 ≤ o) ∧ (∀ (r : Int) (g' : yM), (yMo o g g' (yBot (yTq g) (yOn (yTq g) lv) (g 90 17)) r) → K [(1, r)] g')
def yC_mBg (lv : Nat) : yC := (140, (30 + 6 * lv, 1310 + 150 * lv), yP_mBg lv)
def yP_mEg (lv : Nat) : yPT := fun as g K => ∃ (o : Int), as = [(3, 90)] ∧ (yMq o g) ∧ (o + (lv : Int) = 6 ∧ 0 ≤ o) ∧ (∀ (r : Int) (g' : yM), (yMo o g g' (yEit (yTq g) (yOn (yTq g) lv) (g 90 17)) r) → K [(1, r)] g')
def yC_mEg (lv : Nat) : yC := (154, (31 + 6 * lv, 1335 + 150 * lv), yP_mEg lv)
