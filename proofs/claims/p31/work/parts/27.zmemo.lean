/-! MEMOS of what wraps around -/
def zmo (op : Nat) (c : Int) (sg : zS) (rest : List zAV) (a : Nat × Int) : zS :=
  if op < 10 ∧ zcst sg.1 a = true then (sg.1, sg.2.1, sg.2.2.1, (1, 0, zpure op (zlo sg.1 a.1 + a.2) c, 0, 0) :: rest, sg.2.2.2.2.1, sg.2.2.2.2.2)
  else match sg.2.2.2.2.2.find? (fun q => q.1 == op && (q.2.1 == a.1 && (q.2.2.1 == a.2 && q.2.2.2.1 == c))) with
    | some q => (sg.1, sg.2.1, sg.2.2.1, (1, q.2.2.2.2.1, q.2.2.2.2.2, 0, 0) :: rest, sg.2.2.2.2.1, sg.2.2.2.2.2)
    | none => (sg.1 ++ [zFull], sg.2.1, sg.2.2.1, (1, sg.1.length, 0, 0, 0) :: rest, sg.2.2.2.2.1, (op, a.1, a.2, c, sg.1.length, 0) :: sg.2.2.2.2.2)
def zsel (f : List zIv → Nat × Int → Nat × Int → zRes) (op op2 : Nat) (neg comm : Bool) (env : List zIv) (a b : Nat × Int) : Option (Nat × Bool × Int) := match f env a b with
  | .inr iv => if iv = zFull then (if zcst env b = true then some (op, true, if neg = true then -(zlo env b.1 + b.2) else zlo env b.1 + b.2) else if comm = true ∧ zcst env a = true then some (op, false, zlo env a.1 + a.2) else if b.2 = 0 then some (op2, true, (b.1 : Int)) else none) else none
  | .inl _ => none
theorem zsel_ok {f : List zIv → Nat × Int → Nat × Int → zRes} {op op2 o : Nat} {neg comm w : Bool} {env : List zIv} {a b : Nat × Int} {c : Int} (h : zsel f op op2 neg comm env a b = some (o, w, c)) : (o = op ∧ w = true ∧ zcst env b = true ∧ c = if neg = true then -(zlo env b.1 + b.2) else zlo env b.1 + b.2) ∨ (o = op ∧ w = false ∧ comm = true ∧ zcst env a = true ∧ c = zlo env a.1 + a.2) ∨ (o = op2 ∧ w = true ∧ b.2 = 0 ∧ c = (b.1 : Int)) := by
  unfold zsel at h
  split at h
  · split at h
    · split at h
      · rename_i h2
        cases h
        exact Or.inl ⟨rfl, rfl, h2, rfl⟩
      · split at h
        · rename_i h3
          cases h
          exact Or.inr (Or.inl ⟨rfl, rfl, h3.1, h3.2, rfl⟩)
        · split at h
          · rename_i h4
            cases h
            exact Or.inr (Or.inr ⟨rfl, rfl, h4, rfl⟩)
          · cases h
    · cases h
  · cases h
section ZMO
variable {p : Program} {l : Launch} {e : Env} {R : Room} {s : State} {m : MethodId} {args : Array Value} {below : List Frame} {meth : Method} {c : Code} {Q : State → Prop} {cc : ByteArray} {pc ce sl : Nat}
variable {Z : zZ} {D : va_G} {cl : List vw_C} {tys : List (ClassId × FieldType)} {A : Nat → Prop} {ad : Nat → Nat} {gh : Nat → Int} {wr : zWr} {H0 : Heap} {ws0 : va_W} {nu0 : List Int} {nL : Nat}
variable {env : List zIv} {cd : List zCd} {L st : List zAV} {fa : List zFa} {me : List zMe}
theorem zmo_ok (h0 : 0 < Z.2.2 ∧ gh 0 = 0) {op : Nat} {k0 : Int} {nu : List Int} {ls : Array Slot} {stc stc' : List Value} {ws : va_W} {H : Heap} {locs : List Loc} {sg : zS} {rest : List zAV} {a : Nat × Int} {x r : Int32} (h : zG Z D cl tys A ad gh wr H0 ws0 nu0 nL sg nu ls stc' ws H locs) (hs : zall (zm ad nu) rest stc) (hx : zV nu a.1 a.2 x.toInt) (hr : zpu nu op x.toInt k0 r.toInt) : ∃ nu', zG Z D cl tys A ad gh wr H0 ws0 nu0 nL (zmo op k0 sg rest a) nu' ls (.int r :: stc) ws H locs := by
  have hE := h.2.1.1
  unfold zmo
  split
  · rename_i hc
    have ex := zcst_ok hc.2 hE hx
    exact ⟨nu, h.1, h.2.1, h.2.2.1, ⟨⟨r, rfl, 0, h.2.1.z0 h0, by rw [hr.lt hc.1, ex]; omega⟩, hs⟩, h.2.2.2.2.1, h.2.2.2.2.2⟩
  · split
    · rename_i q hq
      have hm := List.mem_of_find?_eq_some hq
      have hq2 := List.find?_some hq
      simp only [Bool.and_eq_true, beq_iff_eq] at hq2
      obtain ⟨z, w, g1, g2, g3⟩ := h.2.2.2.2.2 q hm
      rw [hq2.2.1, hq2.2.2.1] at g1
      have ez := g1.eq hx
      rw [hq2.1, ez, hq2.2.2.2] at g3
      rw [g3.fn hr] at g2
      exact ⟨nu, h.1, h.2.1, h.2.2.1, ⟨⟨r, rfl, g2⟩, hs⟩, h.2.2.2.2.1, h.2.2.2.2.2⟩
    · refine ⟨nu ++ [r.toInt], h.1, h.2.1.push (zFull_in r), h.2.2.1.app, ⟨⟨r, rfl, zV.new hE _⟩, hs.mono fun a v h => h.app⟩, h.2.2.2.2.1.app, ?_⟩
      intro q hq
      rcases List.mem_cons.mp hq with rfl | hq
      · exact ⟨x.toInt, r.toInt, hx.app, zV.new hE _, hr.app⟩
      · exact h.2.2.2.2.2.app q hq
theorem zs_mem (h0 : 0 < Z.2.2 ∧ gh 0 = 0) {n1 n2 a1 a2 op : Nat} {k1 k2 b1 b2 k0 : Int} {w : Bool} {pc' : Nat} {f : Int32 → Int32 → Int32}
    (row : ∀ (H : Heap) (locs : List Loc) (ls : Array Slot) (rest : List Value) (x y : Int32), W p l e R s m args below meth c H locs ce sl Q (F0 m pc' ls (.int (f x y) :: rest)) → W p l e R s m args below meth c H locs ce sl Q (F0 m pc ls (.int y :: .int x :: rest)))
    (hr : ∀ (nu : List Int) (x y : Int32), zEnv env nu → zV nu n1 k1 x.toInt → zV nu n2 k2 y.toInt → zpu nu op (if w = true then x.toInt else y.toInt) k0 (f x y).toInt)
    (k : zWP (zG Z D cl tys A ad gh wr H0 ws0 nu0 nL) (fun H locs pc ls st => W p l e R s m args below meth c H locs ce sl Q (F0 m pc ls st)) pc' (zmo op k0 (env, cd, L, st, fa, me) st (if w = true then (n1, k1) else (n2, k2)))) : zWP (zG Z D cl tys A ad gh wr H0 ws0 nu0 nL) (fun H locs pc ls st => W p l e R s m args below meth c H locs ce sl Q (F0 m pc ls st)) pc (env, cd, L, (1, n2, k2, a2, b2) :: (1, n1, k1, a1, b1) :: st, fa, me) := by
  intro nu ls stc ws H locs hG
  obtain ⟨hH, hN, hL, hS, hF, hM⟩ := hG
  match stc, hS with
  | v2 :: v1 :: stc, ⟨⟨y, hy, h2⟩, ⟨x, hx', h1⟩, hS⟩ =>
    subst hy
    subst hx'
    have he := hr nu x y hN.1 h1 h2
    cases w with
    | true =>
      obtain ⟨nu', h⟩ := zmo_ok h0 (sg := (env, cd, L, st, fa, me)) (stc' := stc) (a := (n1, k1)) (r := f x y) ⟨hH, hN, hL, hS, hF, hM⟩ hS h1 he
      exact row H locs ls stc x y (k nu' ls _ ws H locs h)
    | false =>
      obtain ⟨nu', h⟩ := zmo_ok h0 (sg := (env, cd, L, st, fa, me)) (stc' := stc) (a := (n2, k2)) (r := f x y) ⟨hH, hN, hL, hS, hF, hM⟩ hS h2 he
      exact row H locs ls stc x y (k nu' ls _ ws H locs h)
theorem zs_mem1 (h0 : 0 < Z.2.2 ∧ gh 0 = 0) {n1 a1 op : Nat} {k1 b1 k0 : Int} {pc' : Nat} {f : Int32 → Int32} (hop : op < 10)
    (row : ∀ (H : Heap) (locs : List Loc) (ls : Array Slot) (rest : List Value) (x : Int32), W p l e R s m args below meth c H locs ce sl Q (F0 m pc' ls (.int (f x) :: rest)) → W p l e R s m args below meth c H locs ce sl Q (F0 m pc ls (.int x :: rest)))
    (hr : ∀ x : Int32, (f x).toInt = zpure op x.toInt k0)
    (k : zWP (zG Z D cl tys A ad gh wr H0 ws0 nu0 nL) (fun H locs pc ls st => W p l e R s m args below meth c H locs ce sl Q (F0 m pc ls st)) pc' (zmo op k0 (env, cd, L, st, fa, me) st (n1, k1))) : zWP (zG Z D cl tys A ad gh wr H0 ws0 nu0 nL) (fun H locs pc ls st => W p l e R s m args below meth c H locs ce sl Q (F0 m pc ls st)) pc (env, cd, L, (1, n1, k1, a1, b1) :: st, fa, me) := by
  intro nu ls stc ws H locs hG
  obtain ⟨hH, hN, hL, hS, hF, hM⟩ := hG
  match stc, hS with
  | v1 :: stc, ⟨⟨x, hx', h1⟩, hS⟩ =>
    subst hx'
    obtain ⟨nu', h⟩ := zmo_ok h0 (sg := (env, cd, L, st, fa, me)) (stc' := stc) (a := (n1, k1)) (r := f x) ⟨hH, hN, hL, hS, hF, hM⟩ hS h1 (Or.inl ⟨hop, hr x⟩)
    exact row H locs ls stc x (k nu' ls _ ws H locs h)
end ZMO
theorem zpu_add (x y : Int32) : (x + y).toInt = zpure 2 x.toInt y.toInt := by
  rw [Int32.toInt_add]
  rfl
theorem zpu_addC (x y : Int32) : (x + y).toInt = zpure 2 y.toInt x.toInt := by
  rw [Int32.add_comm]
  exact zpu_add y x
theorem zpu_sub (x y : Int32) : (x - y).toInt = zpure 2 x.toInt (-y.toInt) := by
  rw [Int32.toInt_sub, Int.sub_eq_add_neg]
  rfl
theorem zpu_mul (x y : Int32) : (x * y).toInt = zpure 3 x.toInt y.toInt := by
  rw [Int32.toInt_mul]
  rfl
theorem zpu_mulC (x y : Int32) : (x * y).toInt = zpure 3 y.toInt x.toInt := by
  rw [Int32.mul_comm]
  exact zpu_mul y x
theorem zpu_xor (x y : Int32) : (x ^^^ y).toInt = zpure 4 x.toInt y.toInt := by
  show _ = (Int32.ofInt x.toInt ^^^ Int32.ofInt y.toInt).toInt
  rw [Int32.ofInt_toInt, Int32.ofInt_toInt]
theorem zpu_xorC (x y : Int32) : (x ^^^ y).toInt = zpure 4 y.toInt x.toInt := by
  rw [Int32.xor_comm]
  exact zpu_xor y x
theorem zpu_neg (x : Int32) : (-x).toInt = zpure 5 x.toInt 0 := by
  rw [Int32.toInt_neg]
  rfl
theorem zpu_sub2 (x y : Int32) : (x - y).toInt = zpure 6 x.toInt y.toInt := by
  rw [Int32.toInt_sub]
  rfl
