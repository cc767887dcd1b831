/-! ONE INSTRUCTION: from what holds at the next to what holds here -/
def zWP (F : zS → List Int → Array Slot → List Value → va_W → Heap → List Loc → Prop) (Wm : Heap → List Loc → Nat → Array Slot → List Value → Prop) (pc : Nat) (sg : zS) : Prop :=
  ∀ (nu : List Int) (ls : Array Slot) (st : List Value) (ws : va_W) (H : Heap) (locs : List Loc), F sg nu ls st ws H locs → Wm H locs pc ls st
def zrel (op : Nat) (x y : Int) : Prop := match op with
  | 0 => x = y
  | 1 => x ≠ y
  | 2 => x < y
  | 3 => y ≤ x
  | 4 => y < x
  | _ => x ≤ y
def zopn (op : Nat) : Nat := match op with
  | 0 => 1
  | 1 => 0
  | 2 => 3
  | 3 => 2
  | 4 => 5
  | _ => 4
def zne (env : List zIv) (a b : Nat × Int) : List zIv :=
  if zcst env b = true then env.set a.1 (zcut (zE env a.1) (zlo env b.1 + b.2 - a.2)) else if zcst env a = true then env.set b.1 (zcut (zE env b.1) (zlo env a.1 + a.2 - b.2)) else env
def zas0 (op : Nat) (env : List zIv) (cd : List zCd) (a b : Nat × Int) : List zIv × List zCd := match op with
  | 0 => (zasE (zasE env a b) b a, zasC (zasC cd a b) b a)
  | 1 => if zle env cd a b = true then (zasE (zne env a b) (a.1, a.2 + 1) b, zasC cd (a.1, a.2 + 1) b) else if zle env cd b a = true then (zasE (zne env a b) (b.1, b.2 + 1) a, zasC cd (b.1, b.2 + 1) a) else (zne env a b, cd)
  | 2 => (zasE env (a.1, a.2 + 1) b, zasC cd (a.1, a.2 + 1) b)
  | 3 => (zasE env b a, zasC cd b a)
  | 4 => (zasE env (b.1, b.2 + 1) a, zasC cd (b.1, b.2 + 1) a)
  | _ => (zasE env a b, zasC cd a b)
theorem zV.up {nu : List Int} {n : Nat} {k z : Int} (h : zV nu n k z) (d : Int) : zV nu n (k + d) (z + d) := by
  obtain ⟨a, h1, rfl⟩ := h
  exact ⟨a, h1, by omega⟩
theorem zne_ok {env : List zIv} {nu : List Int} {a b : Nat × Int} {x y : Int} (h : zEnv env nu) (hx : zV nu a.1 a.2 x) (hy : zV nu b.1 b.2 y) (hn : x ≠ y) : zEnv (zne env a b) nu := by
  unfold zne
  by_cases hb : zcst env b = true
  · rw [if_pos hb]
    have e := zcst_ok hb h hy
    obtain ⟨u, hu, rfl⟩ := hx
    refine h.set (fun z hz => ?_)
    rw [hu] at hz
    cases hz
    exact zcut_ok (h.at hu) (by omega)
  · rw [if_neg hb]
    by_cases ha : zcst env a = true
    · rw [if_pos ha]
      have e := zcst_ok ha h hx
      obtain ⟨u, hu, rfl⟩ := hy
      refine h.set (fun z hz => ?_)
      rw [hu] at hz
      cases hz
      exact zcut_ok (h.at hu) (by omega)
    · rw [if_neg ha]
      exact h
theorem zas0_ok {op : Nat} {env : List zIv} {cd : List zCd} {nu : List Int} {a b : Nat × Int} {x y : Int} (h : zEnv env nu) (hc : zCds cd nu) (hx : zV nu a.1 a.2 x) (hy : zV nu b.1 b.2 y) (hr : zrel op x y) : zEnv (zas0 op env cd a b).1 nu ∧ zCds (zas0 op env cd a b).2 nu := by
  match op, hr with
  | 0, hr =>
    have e : x = y := hr
    exact ⟨zasE_ok (zasE_ok h hx hy (by omega)) hy hx (by omega), zasC_ok (zasC_ok hc hx hy (by omega)) hy hx (by omega)⟩
  | 1, hr =>
    have hn : x ≠ y := hr
    have hz := zne_ok h hx hy hn
    show zEnv (if zle env cd a b = true then (zasE (zne env a b) (a.1, a.2 + 1) b, zasC cd (a.1, a.2 + 1) b) else if zle env cd b a = true then (zasE (zne env a b) (b.1, b.2 + 1) a, zasC cd (b.1, b.2 + 1) a) else (zne env a b, cd)).1 nu ∧ zCds (if zle env cd a b = true then (zasE (zne env a b) (a.1, a.2 + 1) b, zasC cd (a.1, a.2 + 1) b) else if zle env cd b a = true then (zasE (zne env a b) (b.1, b.2 + 1) a, zasC cd (b.1, b.2 + 1) a) else (zne env a b, cd)).2 nu
    by_cases h1 : zle env cd a b = true
    · rw [if_pos h1]
      have l1 := zle_ok h1 h hc hx hy
      exact ⟨zasE_ok (a := (a.1, a.2 + 1)) hz (hx.up 1) hy (by omega), zasC_ok (a := (a.1, a.2 + 1)) hc (hx.up 1) hy (by omega)⟩
    · rw [if_neg h1]
      by_cases h2 : zle env cd b a = true
      · rw [if_pos h2]
        have l2 := zle_ok h2 h hc hy hx
        exact ⟨zasE_ok (a := (b.1, b.2 + 1)) hz (hy.up 1) hx (by omega), zasC_ok (a := (b.1, b.2 + 1)) hc (hy.up 1) hx (by omega)⟩
      · rw [if_neg h2]
        exact ⟨hz, hc⟩
  | 2, hr =>
    have e : x < y := hr
    exact ⟨zasE_ok (a := (a.1, a.2 + 1)) h (hx.up 1) hy (by omega), zasC_ok (a := (a.1, a.2 + 1)) hc (hx.up 1) hy (by omega)⟩
  | 3, hr => exact ⟨zasE_ok h hy hx hr, zasC_ok hc hy hx hr⟩
  | 4, hr =>
    have e : y < x := hr
    exact ⟨zasE_ok (a := (b.1, b.2 + 1)) h (hy.up 1) hx (by omega), zasC_ok (a := (b.1, b.2 + 1)) hc (hy.up 1) hx (by omega)⟩
  | n + 5, hr => exact ⟨zasE_ok h hx hy hr, zasC_ok hc hx hy hr⟩
/-- it can't be -/
def zcon (op : Nat) (env : List zIv) (cd : List zCd) (a b : Nat × Int) : Bool := match op with
  | 0 => zle env cd (a.1, a.2 + 1) b || zle env cd (b.1, b.2 + 1) a
  | 1 => zle env cd a b && zle env cd b a
  | 2 => zle env cd b a
  | 3 => zle env cd (a.1, a.2 + 1) b
  | 4 => zle env cd a b
  | _ => zle env cd (b.1, b.2 + 1) a
def zas (op : Nat) (env : List zIv) (cd : List zCd) (a b : Nat × Int) : List zIv × List zCd := if zcon op env cd a b = true then (env.set a.1 [], cd) else zas0 op env cd a b
theorem zcon_ok {op : Nat} {env : List zIv} {cd : List zCd} {nu : List Int} {a b : Nat × Int} {x y : Int} (h : zEnv env nu) (hc : zCds cd nu) (hx : zV nu a.1 a.2 x) (hy : zV nu b.1 b.2 y) (hr : zrel op x y) (hn : zcon op env cd a b = true) : False := by
  match op, hr, hn with
  | 0, hr, hn =>
    have e : x = y := hr
    rcases Bool.or_eq_true_iff.mp hn with hn | hn
    · have := zle_ok hn h hc (hx.up 1) hy; omega
    · have := zle_ok hn h hc (hy.up 1) hx; omega
  | 1, hr, hn =>
    have e : x ≠ y := hr
    have hn : (zle env cd a b && zle env cd b a) = true := hn
    rw [Bool.and_eq_true] at hn
    have := zle_ok hn.1 h hc hx hy
    have := zle_ok hn.2 h hc hy hx
    omega
  | 2, hr, hn => have e : x < y := hr; have := zle_ok hn h hc hy hx; omega
  | 3, hr, hn => have e : y ≤ x := hr; have := zle_ok hn h hc (hx.up 1) hy; omega
  | 4, hr, hn => have e : y < x := hr; have := zle_ok hn h hc hx hy; omega
  | n + 5, hr, hn => have e : x ≤ y := hr; have := zle_ok hn h hc (hy.up 1) hx; omega
theorem zas_ok {op : Nat} {env : List zIv} {cd : List zCd} {nu : List Int} {a b : Nat × Int} {x y : Int} (h : zEnv env nu) (hc : zCds cd nu) (hx : zV nu a.1 a.2 x) (hy : zV nu b.1 b.2 y) (hr : zrel op x y) : zEnv (zas op env cd a b).1 nu ∧ zCds (zas op env cd a b).2 nu := by
  unfold zas
  by_cases hn : zcon op env cd a b = true
  · exact (zcon_ok h hc hx hy hr hn).elim
  · rw [if_neg hn]
    exact zas0_ok h hc hx hy hr
/-- pushing a result -/
def zpush (tag : Nat) (sg : zS) (rest : List zAV) (r : zRes) : zS := match r with
  | .inl a => (sg.1, sg.2.1, sg.2.2.1, (tag, a.1, a.2, 0, 0) :: rest, sg.2.2.2.2.1, sg.2.2.2.2.2)
  | .inr iv => (sg.1 ++ [iv], sg.2.1, sg.2.2.1, (tag, sg.1.length, 0, 0, 0) :: rest, sg.2.2.2.2.1, sg.2.2.2.2.2)
section ZS
variable {p : Program} {l : Launch} {e : Env} {R : Room} {s : State} {m : MethodId} {args : Array Value} {below : List Frame} {meth : Method} {c : Code} {Q : State → Prop} {cc : ByteArray} {pc ce sl : Nat}
variable {Z : zZ} {D : va_G} {cl : List vw_C} {tys : List (ClassId × FieldType)} {A : Nat → Prop} {ad : Nat → Nat} {gh : Nat → Int} {wr : zWr} {H0 : Heap} {ws0 : va_W} {nu0 : List Int} {nL : Nat}
variable {env : List zIv} {cd : List zCd} {L st : List zAV} {fa : List zFa} {me : List zMe}
theorem zN.z0 {nu : List Int} (h0 : 0 < Z.2.2 ∧ gh 0 = 0) (hN : zN Z.2.2 gh nu0 nu env cd) : nu[0]? = some 0 := by
  have := hN.2.2.1 0 h0.1
  rw [h0.2] at this
  exact this
theorem zN.cst {nu : List Int} (h0 : 0 < Z.2.2 ∧ gh 0 = 0) (hN : zN Z.2.2 gh nu0 nu env cd) (n : Int) : zV nu 0 n n := ⟨0, hN.z0 h0, by omega⟩
theorem zG.nm {sg : zS} {nu : List Int} {ls : Array Slot} {stc : List Value} {ws : va_W} {H : Heap} {locs : List Loc} {env' : List zIv} {cd' : List zCd} (h : zG Z D cl tys A ad gh wr H0 ws0 nu0 nL sg nu ls stc ws H locs) (he : zEnv env' nu) (hc : zCds cd' nu) :
    zG Z D cl tys A ad gh wr H0 ws0 nu0 nL (env', cd', sg.2.2) nu ls stc ws H locs := ⟨h.1, ⟨he, hc, h.2.1.2.2⟩, h.2.2⟩
/-- a push of a value that is known, or new -/
theorem zG.pushI {nu : List Int} {ls : Array Slot} {stc stc' : List Value} {ws : va_W} {H : Heap} {locs : List Loc} {sg : zS} {rest : List zAV} {r : zRes} {x : Int32} (h : zG Z D cl tys A ad gh wr H0 ws0 nu0 nL sg nu ls stc' ws H locs) (hr : zall (zm ad nu) rest stc) (hx : zRok nu r x.toInt) :
    ∃ nu', zG Z D cl tys A ad gh wr H0 ws0 nu0 nL (zpush 1 sg rest r) nu' ls (.int x :: stc) ws H locs := by
  obtain ⟨hH, hN, hL, hS, hF, hM⟩ := h
  cases r with
  | inl a => exact ⟨nu, hH, hN, hL, ⟨⟨x, rfl, hx⟩, hr⟩, hF, hM⟩
  | inr iv => exact ⟨nu ++ [x.toInt], hH, hN.push hx, hL.app, ⟨⟨x, rfl, zV.new hN.1 _⟩, hr.mono fun a v h => h.app⟩, hF.app, hM.app⟩
theorem zG.pushL {nu : List Int} {ls : Array Slot} {stc stc' : List Value} {ws : va_W} {H : Heap} {locs : List Loc} {sg : zS} {rest : List zAV} {r : zRes} {x : Int64} (h : zG Z D cl tys A ad gh wr H0 ws0 nu0 nL sg nu ls stc' ws H locs) (hr : zall (zm ad nu) rest stc) (hx : zRok nu r x.toInt) :
    ∃ nu', zG Z D cl tys A ad gh wr H0 ws0 nu0 nL (zpush 2 sg rest r) nu' ls (.long x :: stc) ws H locs := by
  obtain ⟨hH, hN, hL, hS, hF, hM⟩ := h
  cases r with
  | inl a => exact ⟨nu, hH, hN, hL, ⟨⟨x, rfl, hx⟩, hr⟩, hF, hM⟩
  | inr iv => exact ⟨nu ++ [x.toInt], hH, hN.push hx, hL.app, ⟨⟨x, rfl, zV.new hN.1 _⟩, hr.mono fun a v h => h.app⟩, hF.app, hM.app⟩
/-- an int constant, however it is pushed -/
theorem zs_cI (h0 : 0 < Z.2.2 ∧ gh 0 = 0) {n : Int} {pc' : Nat} {v : Int32} (hv : v.toInt = n) (row : ∀ (H : Heap) (locs : List Loc) (ls : Array Slot) (rest : List Value), W p l e R s m args below meth c H locs ce sl Q (F0 m pc' ls (.int v :: rest)) → W p l e R s m args below meth c H locs ce sl Q (F0 m pc ls rest))
    (k : zWP (zG Z D cl tys A ad gh wr H0 ws0 nu0 nL) (fun H locs pc ls st => W p l e R s m args below meth c H locs ce sl Q (F0 m pc ls st)) pc' (env, cd, L, (1, 0, n, 0, 0) :: st, fa, me)) : zWP (zG Z D cl tys A ad gh wr H0 ws0 nu0 nL) (fun H locs pc ls st => W p l e R s m args below meth c H locs ce sl Q (F0 m pc ls st)) pc (env, cd, L, st, fa, me) := by
  intro nu ls stc ws H locs hG
  obtain ⟨hH, hN, hL, hS, hF, hM⟩ := hG
  refine row H locs ls stc (k nu ls _ ws H locs ⟨hH, hN, hL, ⟨⟨v, rfl, ?_⟩, hS⟩, hF, hM⟩)
  rw [hv]
  exact hN.cst h0 n
theorem zs_cL (h0 : 0 < Z.2.2 ∧ gh 0 = 0) {n : Int} {pc' : Nat} {v : Int64} (hv : v.toInt = n) (row : ∀ (H : Heap) (locs : List Loc) (ls : Array Slot) (rest : List Value), W p l e R s m args below meth c H locs ce sl Q (F0 m pc' ls (.long v :: rest)) → W p l e R s m args below meth c H locs ce sl Q (F0 m pc ls rest))
    (k : zWP (zG Z D cl tys A ad gh wr H0 ws0 nu0 nL) (fun H locs pc ls st => W p l e R s m args below meth c H locs ce sl Q (F0 m pc ls st)) pc' (env, cd, L, (2, 0, n, 0, 0) :: st, fa, me)) : zWP (zG Z D cl tys A ad gh wr H0 ws0 nu0 nL) (fun H locs pc ls st => W p l e R s m args below meth c H locs ce sl Q (F0 m pc ls st)) pc (env, cd, L, st, fa, me) := by
  intro nu ls stc ws H locs hG
  obtain ⟨hH, hN, hL, hS, hF, hM⟩ := hG
  refine row H locs ls stc (k nu ls _ ws H locs ⟨hH, hN, hL, ⟨⟨v, rfl, ?_⟩, hS⟩, hF, hM⟩)
  rw [hv]
  exact hN.cst h0 n
/-- loads -/
theorem zs_ldI {i n n2 : Nat} {kk k2 : Int} {pc' : Nat} (ha : L[i]? = some (1, n, kk, n2, k2)) (row : ∀ (H : Heap) (locs : List Loc) (ls : Array Slot) (rest : List Value) (x : Int32), ls[i]? = some (.val (.int x)) → W p l e R s m args below meth c H locs ce sl Q (F0 m pc' ls (.int x :: rest)) → W p l e R s m args below meth c H locs ce sl Q (F0 m pc ls rest))
    (k : zWP (zG Z D cl tys A ad gh wr H0 ws0 nu0 nL) (fun H locs pc ls st => W p l e R s m args below meth c H locs ce sl Q (F0 m pc ls st)) pc' (env, cd, L, (1, n, kk, 0, 0) :: st, fa, me)) : zWP (zG Z D cl tys A ad gh wr H0 ws0 nu0 nL) (fun H locs pc ls st => W p l e R s m args below meth c H locs ce sl Q (F0 m pc ls st)) pc (env, cd, L, st, fa, me) := by
  intro nu ls stc ws H locs hG
  obtain ⟨hH, hN, hL, hS, hF, hM⟩ := hG
  obtain ⟨v, h1, x, rfl, h2⟩ := hL.2.2.2 i _ ha (by simp)
  exact row H locs ls stc x h1 (k nu ls _ ws H locs ⟨hH, hN, hL, ⟨⟨x, rfl, h2⟩, hS⟩, hF, hM⟩)
theorem zs_ldL {i n n2 : Nat} {kk k2 : Int} {pc' : Nat} (ha : L[i]? = some (2, n, kk, n2, k2)) (row : ∀ (H : Heap) (locs : List Loc) (ls : Array Slot) (rest : List Value) (x : Int64), ls[i]? = some (.val (.long x)) → W p l e R s m args below meth c H locs ce sl Q (F0 m pc' ls (.long x :: rest)) → W p l e R s m args below meth c H locs ce sl Q (F0 m pc ls rest))
    (k : zWP (zG Z D cl tys A ad gh wr H0 ws0 nu0 nL) (fun H locs pc ls st => W p l e R s m args below meth c H locs ce sl Q (F0 m pc ls st)) pc' (env, cd, L, (2, n, kk, 0, 0) :: st, fa, me)) : zWP (zG Z D cl tys A ad gh wr H0 ws0 nu0 nL) (fun H locs pc ls st => W p l e R s m args below meth c H locs ce sl Q (F0 m pc ls st)) pc (env, cd, L, st, fa, me) := by
  intro nu ls stc ws H locs hG
  obtain ⟨hH, hN, hL, hS, hF, hM⟩ := hG
  obtain ⟨v, h1, x, rfl, h2⟩ := hL.2.2.2 i _ ha (by simp)
  exact row H locs ls stc x h1 (k nu ls _ ws H locs ⟨hH, hN, hL, ⟨⟨x, rfl, h2⟩, hS⟩, hF, hM⟩)
theorem zs_ldA {i n n2 : Nat} {kk k2 : Int} {pc' : Nat} (ha : L[i]? = some (3, n, kk, n2, k2)) (row : ∀ (H : Heap) (locs : List Loc) (ls : Array Slot) (rest : List Value) (x : Nat), ls[i]? = some (.val (.ref x)) → W p l e R s m args below meth c H locs ce sl Q (F0 m pc' ls (.ref x :: rest)) → W p l e R s m args below meth c H locs ce sl Q (F0 m pc ls rest))
    (k : zWP (zG Z D cl tys A ad gh wr H0 ws0 nu0 nL) (fun H locs pc ls st => W p l e R s m args below meth c H locs ce sl Q (F0 m pc ls st)) pc' (env, cd, L, (3, n, kk, 0, 0) :: st, fa, me)) : zWP (zG Z D cl tys A ad gh wr H0 ws0 nu0 nL) (fun H locs pc ls st => W p l e R s m args below meth c H locs ce sl Q (F0 m pc ls st)) pc (env, cd, L, st, fa, me) := by
  intro nu ls stc ws H locs hG
  obtain ⟨hH, hN, hL, hS, hF, hM⟩ := hG
  obtain ⟨v, h1, x, rfl, h2⟩ := hL.2.2.2 i _ ha (by simp)
  exact row H locs ls stc _ h1 (k nu ls _ ws H locs ⟨hH, hN, hL, ⟨⟨x, rfl, h2⟩, hS⟩, hF, hM⟩)
/-- stores -/
theorem zs_stI {i n n2 : Nat} {kk k2 : Int} {pc' : Nat} (hi : i < L.length) (row : ∀ (H : Heap) (locs : List Loc) (ls : Array Slot) (rest : List Value) (x : Int32), lv_has ls nL (zlv ls) → i < nL → (∀ ls' : Array Slot, lv_has ls' nL ((i, Value.int x) :: (zlv ls).filter (fun q => !(q.1 == i) && !(q.1 + 1 == i && q.2.category == 2))) → W p l e R s m args below meth c H locs ce sl Q (F0 m pc' ls' rest)) → W p l e R s m args below meth c H locs ce sl Q (F0 m pc ls (.int x :: rest)))
    (k : zWP (zG Z D cl tys A ad gh wr H0 ws0 nu0 nL) (fun H locs pc ls st => W p l e R s m args below meth c H locs ce sl Q (F0 m pc ls st)) pc' (env, cd, zst1 L i (1, n, kk, 0, 0), st, fa, me)) : zWP (zG Z D cl tys A ad gh wr H0 ws0 nu0 nL) (fun H locs pc ls st => W p l e R s m args below meth c H locs ce sl Q (F0 m pc ls st)) pc (env, cd, L, (1, n, kk, n2, k2) :: st, fa, me) := by
  intro nu ls stc ws H locs hG
  obtain ⟨hH, hN, hL, hS, hF, hM⟩ := hG
  match stc, hS with
  | v :: stc, ⟨⟨x, hv, h2⟩, hS⟩ =>
    subst hv
    rw [hL.2.1] at hi
    exact row H locs ls stc x (zlv_has hL.1 hL.2.2.1) hi (fun ls' hl => k nu ls' _ ws H locs ⟨hH, hN, hL.st1 hi (a := (1, n, kk, 0, 0)) ⟨x, rfl, h2⟩ hl, hS, hF, hM⟩)
theorem zs_stA {i n n2 : Nat} {kk k2 : Int} {pc' : Nat} (hi : i < L.length) (row : ∀ (H : Heap) (locs : List Loc) (ls : Array Slot) (rest : List Value) (x : Nat), lv_has ls nL (zlv ls) → i < nL → (∀ ls' : Array Slot, lv_has ls' nL ((i, Value.ref x) :: (zlv ls).filter (fun q => !(q.1 == i) && !(q.1 + 1 == i && q.2.category == 2))) → W p l e R s m args below meth c H locs ce sl Q (F0 m pc' ls' rest)) → W p l e R s m args below meth c H locs ce sl Q (F0 m pc ls (.ref x :: rest)))
    (k : zWP (zG Z D cl tys A ad gh wr H0 ws0 nu0 nL) (fun H locs pc ls st => W p l e R s m args below meth c H locs ce sl Q (F0 m pc ls st)) pc' (env, cd, zst1 L i (3, n, kk, 0, 0), st, fa, me)) : zWP (zG Z D cl tys A ad gh wr H0 ws0 nu0 nL) (fun H locs pc ls st => W p l e R s m args below meth c H locs ce sl Q (F0 m pc ls st)) pc (env, cd, L, (3, n, kk, n2, k2) :: st, fa, me) := by
  intro nu ls stc ws H locs hG
  obtain ⟨hH, hN, hL, hS, hF, hM⟩ := hG
  match stc, hS with
  | v :: stc, ⟨⟨x, hv, h2⟩, hS⟩ =>
    subst hv
    rw [hL.2.1] at hi
    exact row H locs ls stc _ (zlv_has hL.1 hL.2.2.1) hi (fun ls' hl => k nu ls' _ ws H locs ⟨hH, hN, hL.st1 hi (a := (3, n, kk, 0, 0)) ⟨x, rfl, h2⟩ hl, hS, hF, hM⟩)
theorem zs_stL {i n n2 : Nat} {kk k2 : Int} {pc' : Nat} (hi : i + 1 < L.length) (row : ∀ (H : Heap) (locs : List Loc) (ls : Array Slot) (rest : List Value) (x : Int64), lv_has ls nL (zlv ls) → i + 1 < nL → (∀ ls' : Array Slot, lv_has ls' nL ((i, Value.long x) :: (zlv ls).filter (fun q => !(q.1 == i) && (!(q.1 == i + 1) && !(q.1 + 1 == i && q.2.category == 2)))) → W p l e R s m args below meth c H locs ce sl Q (F0 m pc' ls' rest)) → W p l e R s m args below meth c H locs ce sl Q (F0 m pc ls (.long x :: rest)))
    (k : zWP (zG Z D cl tys A ad gh wr H0 ws0 nu0 nL) (fun H locs pc ls st => W p l e R s m args below meth c H locs ce sl Q (F0 m pc ls st)) pc' (env, cd, zst2 L i (2, n, kk, 0, 0), st, fa, me)) : zWP (zG Z D cl tys A ad gh wr H0 ws0 nu0 nL) (fun H locs pc ls st => W p l e R s m args below meth c H locs ce sl Q (F0 m pc ls st)) pc (env, cd, L, (2, n, kk, n2, k2) :: st, fa, me) := by
  intro nu ls stc ws H locs hG
  obtain ⟨hH, hN, hL, hS, hF, hM⟩ := hG
  match stc, hS with
  | v :: stc, ⟨⟨x, hv, h2⟩, hS⟩ =>
    subst hv
    rw [hL.2.1] at hi
    exact row H locs ls stc x (zlv_has hL.1 hL.2.2.1) hi (fun ls' hl => k nu ls' _ ws H locs ⟨hH, hN, hL.st2 hi (a := (2, n, kk, 0, 0)) ⟨x, rfl, h2⟩ hl, hS, hF, hM⟩)
/-- a local counted on -/
def zinc (sg : zS) (i : Nat) (r : zRes) : zS := match r with
  | .inl a => (sg.1, sg.2.1, zst1 sg.2.2.1 i (1, a.1, a.2, 0, 0), sg.2.2.2)
  | .inr iv => (sg.1 ++ [iv], sg.2.1, zst1 sg.2.2.1 i (1, sg.1.length, 0, 0, 0), sg.2.2.2)
theorem zs_iinc (hx : p.tables.exec = Jvm.exec) (hb : c.code = cc) (h0 : 0 < Z.2.2 ∧ gh 0 = 0) {i n n2 : Nat} {kk k2 d : Int} (hd : decode cc pc = .ok (.iinc i d, 3)) (hr : -2147483648 ≤ d ∧ d ≤ 2147483647) (ha : L[i]? = some (1, n, kk, n2, k2))
    (k : zWP (zG Z D cl tys A ad gh wr H0 ws0 nu0 nL) (fun H locs pc ls st => W p l e R s m args below meth c H locs ce sl Q (F0 m pc ls st)) (pc + 3) (zinc (env, cd, L, st, fa, me) i (zaddI env (n, kk) (0, d)))) : zWP (zG Z D cl tys A ad gh wr H0 ws0 nu0 nL) (fun H locs pc ls st => W p l e R s m args below meth c H locs ce sl Q (F0 m pc ls st)) pc (env, cd, L, st, fa, me) := by
  intro nu ls stc ws H locs hG
  obtain ⟨hH, hN, hL, hS, hF, hM⟩ := hG
  obtain ⟨v, h1, x, rfl, h2⟩ := hL.2.2.2 i _ ha (by simp)
  obtain ⟨j, hj⟩ := List.getElem?_of_mem (zlv_mem h1)
  have hi : i < nL := by rw [← hL.2.1]; exact (List.getElem?_eq_some_iff.mp ha).1
  refine lv_iinc hx hb hd (zlv_has hL.1 hL.2.2.1) hj rfl hi rfl (fun ls' hl => ?_)
  have ok : zRok nu (zaddI env (n, kk) (0, d)) (x + Int32.ofInt d).toInt := zaddI_ok (a := (n, kk)) (b := (0, d)) hN.1 h2 (by rw [zofI hr.1 hr.2]; exact hN.cst h0 d)
  generalize zaddI env (n, kk) (0, d) = r at ok k
  cases r with
  | inl a => exact k nu ls' _ ws H locs ⟨hH, hN, hL.st1 hi (a := (1, a.1, a.2, 0, 0)) ⟨_, rfl, ok⟩ hl, hS, hF, hM⟩
  | inr iv => exact k (nu ++ [(x + Int32.ofInt d).toInt]) ls' _ ws H locs ⟨hH, hN.push ok, hL.app.st1 hi (a := (1, env.length, 0, 0, 0)) ⟨_, rfl, zV.new hN.1 _⟩ hl, hS.mono fun a v h => h.app, hF.app, hM.app⟩
/-- two ints to one: 'ok' is what the row wants of them -/
theorem zs_bin {n1 n2 a1 a2 : Nat} {k1 k2 b1 b2 : Int} {pc' : Nat} {f : Int32 → Int32 → Int32} {r : zRes} (ok : Int32 → Prop) (hok : ∀ (nu : List Int) (y : Int32), zEnv env nu → zV nu n2 k2 y.toInt → ok y)
    (row : ∀ (H : Heap) (locs : List Loc) (ls : Array Slot) (rest : List Value) (x y : Int32), ok y → W p l e R s m args below meth c H locs ce sl Q (F0 m pc' ls (.int (f x y) :: rest)) → W p l e R s m args below meth c H locs ce sl Q (F0 m pc ls (.int y :: .int x :: rest)))
    (hr : ∀ (nu : List Int) (x y : Int32), zN Z.2.2 gh nu0 nu env cd → zV nu n1 k1 x.toInt → zV nu n2 k2 y.toInt → zRok nu r (f x y).toInt)
    (k : zWP (zG Z D cl tys A ad gh wr H0 ws0 nu0 nL) (fun H locs pc ls st => W p l e R s m args below meth c H locs ce sl Q (F0 m pc ls st)) pc' (zpush 1 (env, cd, L, st, fa, me) st r)) : zWP (zG Z D cl tys A ad gh wr H0 ws0 nu0 nL) (fun H locs pc ls st => W p l e R s m args below meth c H locs ce sl Q (F0 m pc ls st)) pc (env, cd, L, (1, n2, k2, a2, b2) :: (1, n1, k1, a1, b1) :: st, fa, me) := by
  intro nu ls stc ws H locs hG
  obtain ⟨hH, hN, hL, hS, hF, hM⟩ := hG
  match stc, hS with
  | v2 :: v1 :: stc, ⟨⟨y, hy, h2⟩, ⟨x, hx', h1⟩, hS⟩ =>
    subst hy
    subst hx'
    obtain ⟨nu', h⟩ := zG.pushI (sg := (env, cd, L, st, fa, me)) (stc' := stc) ⟨hH, hN, hL, hS, hF, hM⟩ hS (hr nu x y hN h1 h2)
    exact row H locs ls stc x y (hok nu y hN.1 h2) (k nu' ls _ ws H locs h)
theorem zs_binL {n1 n2 a1 a2 : Nat} {k1 k2 b1 b2 : Int} {pc' : Nat} {f : Int64 → Int64 → Int64} {r : zRes}
    (row : ∀ (H : Heap) (locs : List Loc) (ls : Array Slot) (rest : List Value) (x y : Int64), W p l e R s m args below meth c H locs ce sl Q (F0 m pc' ls (.long (f x y) :: rest)) → W p l e R s m args below meth c H locs ce sl Q (F0 m pc ls (.long y :: .long x :: rest)))
    (hr : ∀ (nu : List Int) (x y : Int64), zN Z.2.2 gh nu0 nu env cd → zV nu n1 k1 x.toInt → zV nu n2 k2 y.toInt → zRok nu r (f x y).toInt)
    (k : zWP (zG Z D cl tys A ad gh wr H0 ws0 nu0 nL) (fun H locs pc ls st => W p l e R s m args below meth c H locs ce sl Q (F0 m pc ls st)) pc' (zpush 2 (env, cd, L, st, fa, me) st r)) : zWP (zG Z D cl tys A ad gh wr H0 ws0 nu0 nL) (fun H locs pc ls st => W p l e R s m args below meth c H locs ce sl Q (F0 m pc ls st)) pc (env, cd, L, (2, n2, k2, a2, b2) :: (2, n1, k1, a1, b1) :: st, fa, me) := by
  intro nu ls stc ws H locs hG
  obtain ⟨hH, hN, hL, hS, hF, hM⟩ := hG
  match stc, hS with
  | v2 :: v1 :: stc, ⟨⟨y, hy, h2⟩, ⟨x, hx', h1⟩, hS⟩ =>
    subst hy
    subst hx'
    obtain ⟨nu', h⟩ := zG.pushL (sg := (env, cd, L, st, fa, me)) (stc' := stc) ⟨hH, hN, hL, hS, hF, hM⟩ hS (hr nu x y hN h1 h2)
    exact row H locs ls stc x y (k nu' ls _ ws H locs h)
/-- a long shifted by an int: any long -/
theorem zs_shL {n1 n2 a1 a2 : Nat} {k1 k2 b1 b2 : Int} {pc' : Nat} {f : Int64 → Int32 → Int64}
    (row : ∀ (H : Heap) (locs : List Loc) (ls : Array Slot) (rest : List Value) (x : Int64) (y : Int32), W p l e R s m args below meth c H locs ce sl Q (F0 m pc' ls (.long (f x y) :: rest)) → W p l e R s m args below meth c H locs ce sl Q (F0 m pc ls (.int y :: .long x :: rest)))
    (k : zWP (zG Z D cl tys A ad gh wr H0 ws0 nu0 nL) (fun H locs pc ls st => W p l e R s m args below meth c H locs ce sl Q (F0 m pc ls st)) pc' (zpush 2 (env, cd, L, st, fa, me) st (.inr zFullL))) : zWP (zG Z D cl tys A ad gh wr H0 ws0 nu0 nL) (fun H locs pc ls st => W p l e R s m args below meth c H locs ce sl Q (F0 m pc ls st)) pc (env, cd, L, (1, n2, k2, a2, b2) :: (2, n1, k1, a1, b1) :: st, fa, me) := by
  intro nu ls stc ws H locs hG
  obtain ⟨hH, hN, hL, hS, hF, hM⟩ := hG
  match stc, hS with
  | v2 :: v1 :: stc, ⟨⟨y, hy, h2⟩, ⟨x, hx', h1⟩, hS⟩ =>
    subst hy
    subst hx'
    obtain ⟨nu', h⟩ := zG.pushL (sg := (env, cd, L, st, fa, me)) (stc' := stc) (x := f x y) (r := .inr zFullL) ⟨hH, hN, hL, hS, hF, hM⟩ hS (zFullL_in _)
    exact row H locs ls stc x y (k nu' ls _ ws H locs h)
/-- one int to one -/
theorem zs_una {n1 a1 : Nat} {k1 b1 : Int} {pc' : Nat} {f : Int32 → Int32} {r : zRes}
    (row : ∀ (H : Heap) (locs : List Loc) (ls : Array Slot) (rest : List Value) (x : Int32), W p l e R s m args below meth c H locs ce sl Q (F0 m pc' ls (.int (f x) :: rest)) → W p l e R s m args below meth c H locs ce sl Q (F0 m pc ls (.int x :: rest)))
    (hr : ∀ (nu : List Int) (x : Int32), zN Z.2.2 gh nu0 nu env cd → zV nu n1 k1 x.toInt → zRok nu r (f x).toInt)
    (k : zWP (zG Z D cl tys A ad gh wr H0 ws0 nu0 nL) (fun H locs pc ls st => W p l e R s m args below meth c H locs ce sl Q (F0 m pc ls st)) pc' (zpush 1 (env, cd, L, st, fa, me) st r)) : zWP (zG Z D cl tys A ad gh wr H0 ws0 nu0 nL) (fun H locs pc ls st => W p l e R s m args below meth c H locs ce sl Q (F0 m pc ls st)) pc (env, cd, L, (1, n1, k1, a1, b1) :: st, fa, me) := by
  intro nu ls stc ws H locs hG
  obtain ⟨hH, hN, hL, hS, hF, hM⟩ := hG
  match stc, hS with
  | v1 :: stc, ⟨⟨x, hx', h1⟩, hS⟩ =>
    subst hx'
    obtain ⟨nu', h⟩ := zG.pushI (sg := (env, cd, L, st, fa, me)) (stc' := stc) ⟨hH, hN, hL, hS, hF, hM⟩ hS (hr nu x hN h1)
    exact row H locs ls stc x (k nu' ls _ ws H locs h)
theorem zs_i2l (hx : p.tables.exec = Jvm.exec) (hb : c.code = cc) {n1 a1 : Nat} {k1 b1 : Int} (hd : decode cc pc = .ok (.i2l, 1)) (k : zWP (zG Z D cl tys A ad gh wr H0 ws0 nu0 nL) (fun H locs pc ls st => W p l e R s m args below meth c H locs ce sl Q (F0 m pc ls st)) (pc + 1) (env, cd, L, (2, n1, k1, 0, 0) :: st, fa, me)) : zWP (zG Z D cl tys A ad gh wr H0 ws0 nu0 nL) (fun H locs pc ls st => W p l e R s m args below meth c H locs ce sl Q (F0 m pc ls st)) pc (env, cd, L, (1, n1, k1, a1, b1) :: st, fa, me) := by
  intro nu ls stc ws H locs hG
  obtain ⟨hH, hN, hL, hS, hF, hM⟩ := hG
  match stc, hS with
  | v1 :: stc, ⟨⟨x, hx', h1⟩, hS⟩ =>
    subst hx'
    exact lv_i2l hx hb hd rfl (k nu ls _ ws H locs ⟨hH, hN, hL, ⟨⟨x.toInt64, rfl, by rw [Int32.toInt_toInt64]; exact h1⟩, hS⟩, hF, hM⟩)
def zl2i (env : List zIv) (a : Nat × Int) : zRes := if zI32 (zlo env a.1 + a.2) (zhi env a.1 + a.2) = true then .inl a else .inr zFull
theorem zs_l2i (hx : p.tables.exec = Jvm.exec) (hb : c.code = cc) {n1 a1 : Nat} {k1 b1 : Int} (hd : decode cc pc = .ok (.l2i, 1)) (k : zWP (zG Z D cl tys A ad gh wr H0 ws0 nu0 nL) (fun H locs pc ls st => W p l e R s m args below meth c H locs ce sl Q (F0 m pc ls st)) (pc + 1) (zpush 1 (env, cd, L, st, fa, me) st (zl2i env (n1, k1)))) : zWP (zG Z D cl tys A ad gh wr H0 ws0 nu0 nL) (fun H locs pc ls st => W p l e R s m args below meth c H locs ce sl Q (F0 m pc ls st)) pc (env, cd, L, (2, n1, k1, a1, b1) :: st, fa, me) := by
  intro nu ls stc ws H locs hG
  obtain ⟨hH, hN, hL, hS, hF, hM⟩ := hG
  match stc, hS with
  | v1 :: stc, ⟨⟨x, hx', h1⟩, hS⟩ =>
    subst hx'
    have ok : zRok nu (zl2i env (n1, k1)) x.toInt32.toInt := by
      unfold zl2i
      have bd := h1.bd hN.1
      by_cases h : zI32 (zlo env (n1, k1).1 + (n1, k1).2) (zhi env (n1, k1).1 + (n1, k1).2) = true
      · rw [if_pos h]
        unfold zI32 at h
        rw [Bool.and_eq_true, decide_eq_true_eq, decide_eq_true_eq] at h
        show zV nu n1 k1 x.toInt32.toInt
        rw [Int64.toInt_toInt32, zbmod (by simp only at h bd ⊢; omega) (by simp only at h bd ⊢; omega)]
        exact h1
      · rw [if_neg h]
        exact zFull_in _
    obtain ⟨nu', h⟩ := zG.pushI (sg := (env, cd, L, st, fa, me)) (stc' := stc) ⟨hH, hN, hL, hS, hF, hM⟩ hS ok
    exact lv_l2i hx hb hd rfl (k nu' ls _ ws H locs h)
theorem zs_lcmp (hx : p.tables.exec = Jvm.exec) (hb : c.code = cc) {n1 n2 a1 a2 : Nat} {k1 k2 b1 b2 : Int} (hd : decode cc pc = .ok (.lcmp, 1)) (k : zWP (zG Z D cl tys A ad gh wr H0 ws0 nu0 nL) (fun H locs pc ls st => W p l e R s m args below meth c H locs ce sl Q (F0 m pc ls st)) (pc + 1) (env, cd, L, (4, n1, k1, n2, k2) :: st, fa, me)) : zWP (zG Z D cl tys A ad gh wr H0 ws0 nu0 nL) (fun H locs pc ls st => W p l e R s m args below meth c H locs ce sl Q (F0 m pc ls st)) pc (env, cd, L, (2, n2, k2, a2, b2) :: (2, n1, k1, a1, b1) :: st, fa, me) := by
  intro nu ls stc ws H locs hG
  obtain ⟨hH, hN, hL, hS, hF, hM⟩ := hG
  match stc, hS with
  | v2 :: v1 :: stc, ⟨⟨y, hy, h2⟩, ⟨x, hx', h1⟩, hS⟩ =>
    subst hy
    subst hx'
    exact W.lcmp hx hb hd (k nu ls _ ws H locs ⟨hH, hN, hL, ⟨⟨x, y, rfl, h1, h2⟩, hS⟩, hF, hM⟩)
/-- quotients and rests -/
def zdr (op : Nat) (sg : zS) (rest : List zAV) (a b : Nat × Int) : Option zS :=
  if zcst sg.1 b = true ∧ 0 < zlo sg.1 b.1 + b.2 then
    (match sg.2.2.2.2.2.find? (fun q => q.1 == op && (q.2.1 == a.1 && (q.2.2.1 == a.2 && q.2.2.2.1 == zlo sg.1 b.1 + b.2))) with
      | some q => some (sg.1, sg.2.1, sg.2.2.1, (1, q.2.2.2.2.1, q.2.2.2.2.2, 0, 0) :: rest, sg.2.2.2.2.1, sg.2.2.2.2.2)
      | none => some (sg.1 ++ [if op = 0 then zdivB (zlo sg.1 a.1 + a.2) (zhi sg.1 a.1 + a.2) (zlo sg.1 b.1 + b.2) else zremB (zlo sg.1 a.1 + a.2) (zlo sg.1 b.1 + b.2)], sg.2.1, sg.2.2.1, (1, sg.1.length, 0, 0, 0) :: rest, sg.2.2.2.2.1, (op, a.1, a.2, zlo sg.1 b.1 + b.2, sg.1.length, 0) :: sg.2.2.2.2.2))
  else if op = 1 ∧ 0 < zlo sg.1 b.1 + b.2 then some (zpush 1 sg rest (.inr (zremB (zlo sg.1 a.1 + a.2) (zhi sg.1 b.1 + b.2))))
  else if znz sg.1 b = true then some (zpush 1 sg rest (.inr zFull))
  else none
theorem zdr_ok {op : Nat} {nu : List Int} {ls : Array Slot} {stc stc' : List Value} {ws : va_W} {H : Heap} {locs : List Loc} {sg sg' : zS} {rest : List zAV} {a b : Nat × Int} {x y r : Int32} (h : zG Z D cl tys A ad gh wr H0 ws0 nu0 nL sg nu ls stc' ws H locs) (hs : zall (zm ad nu) rest stc)
    (hx : zV nu a.1 a.2 x.toInt) (hy : zV nu b.1 b.2 y.toInt) (hop : op = 0 ∨ op = 1) (hr : 0 < y.toInt → r.toInt = zpure op x.toInt y.toInt) (he : zdr op sg rest a b = some sg') : ¬ y = 0 ∧ ∃ nu', zG Z D cl tys A ad gh wr H0 ws0 nu0 nL sg' nu' ls (.int r :: stc) ws H locs := by
  have hE := h.2.1.1
  have bx := hx.bd hE
  have by' := hy.bd hE
  have pos : 0 < y.toInt → ¬ y = 0 := fun q z => by rw [z, Int32.toInt_zero] at q; omega
  unfold zdr at he
  by_cases h1 : zcst sg.1 b = true ∧ 0 < zlo sg.1 b.1 + b.2
  · rw [if_pos h1] at he
    have ey := zcst_ok h1.1 hE hy
    have hp : 0 < y.toInt := by omega
    have er := hr hp
    refine ⟨pos hp, ?_⟩
    split at he
    · rename_i q hq
      cases he
      have hm := List.mem_of_find?_eq_some hq
      have hq2 := List.find?_some hq
      simp only [Bool.and_eq_true, beq_iff_eq] at hq2
      obtain ⟨z, w, g1, g2, g3⟩ := h.2.2.2.2.2 q hm
      rw [hq2.2.1, hq2.2.2.1] at g1
      have ez := g1.eq hx
      rw [g3, hq2.1, ez, hq2.2.2.2, ← ey, ← er] at g2
      exact ⟨nu, h.1, h.2.1, h.2.2.1, ⟨⟨r, rfl, g2⟩, hs⟩, h.2.2.2.2.1, h.2.2.2.2.2⟩
    · cases he
      have hi : zInIv r.toInt (if op = 0 then zdivB (zlo sg.1 a.1 + a.2) (zhi sg.1 a.1 + a.2) (zlo sg.1 b.1 + b.2) else zremB (zlo sg.1 a.1 + a.2) (zlo sg.1 b.1 + b.2)) := by
        rw [er]
        rcases hop with rfl | rfl
        · show zInIv _ (zdivB (zlo sg.1 a.1 + a.2) (zhi sg.1 a.1 + a.2) (zlo sg.1 b.1 + b.2))
          rw [← ey]
          exact zdivB_ok hp bx.1 bx.2
        · exact zremB_ok hp bx.1 (by omega)
      refine ⟨nu ++ [r.toInt], h.1, h.2.1.push hi, h.2.2.1.app, ⟨⟨r, rfl, zV.new hE _⟩, hs.mono fun a v h => h.app⟩, h.2.2.2.2.1.app, ?_⟩
      intro q hq
      rcases List.mem_cons.mp hq with rfl | hq
      · exact ⟨x.toInt, r.toInt, hx.app, zV.new hE _, by rw [er, ey]⟩
      · exact h.2.2.2.2.2.app q hq
  · rw [if_neg h1] at he
    by_cases h2 : op = 1 ∧ 0 < zlo sg.1 b.1 + b.2
    · rw [if_pos h2] at he
      cases he
      have hp : 0 < y.toInt := by omega
      have er := hr hp
      rw [h2.1] at er
      exact ⟨pos hp, h.pushI hs (r := .inr _) (by rw [er]; exact zremB_ok hp bx.1 (by omega))⟩
    · rw [if_neg h2] at he
      by_cases h3 : znz sg.1 b = true
      · rw [if_pos h3] at he
        cases he
        exact ⟨znz_ok h3 hE hy, h.pushI hs (r := .inr _) (zFull_in _)⟩
      · rw [if_neg h3] at he
        cases he
theorem zs_div (hx : p.tables.exec = Jvm.exec) (hb : c.code = cc) {n1 n2 a1 a2 : Nat} {k1 k2 b1 b2 : Int} {sg' : zS} (hd : decode cc pc = .ok (.idiv, 1)) (he : zdr 0 (env, cd, L, st, fa, me) st (n1, k1) (n2, k2) = some sg') (k : zWP (zG Z D cl tys A ad gh wr H0 ws0 nu0 nL) (fun H locs pc ls st => W p l e R s m args below meth c H locs ce sl Q (F0 m pc ls st)) (pc + 1) sg') : zWP (zG Z D cl tys A ad gh wr H0 ws0 nu0 nL) (fun H locs pc ls st => W p l e R s m args below meth c H locs ce sl Q (F0 m pc ls st)) pc (env, cd, L, (1, n2, k2, a2, b2) :: (1, n1, k1, a1, b1) :: st, fa, me) := by
  intro nu ls stc ws H locs hG
  obtain ⟨hH, hN, hL, hS, hF, hM⟩ := hG
  match stc, hS with
  | v2 :: v1 :: stc, ⟨⟨y, hy, h2⟩, ⟨x, hx', h1⟩, hS⟩ =>
    subst hy
    subst hx'
    obtain ⟨hz, nu', h⟩ := zdr_ok (sg := (env, cd, L, st, fa, me)) (stc' := stc) (r := x / y) ⟨hH, hN, hL, hS, hF, hM⟩ hS h1 h2 (Or.inl rfl) (fun hp => zdivI hp) he
    exact lv_idiv hx hb hd hz (k nu' ls _ ws H locs h)
theorem zs_rem (hx : p.tables.exec = Jvm.exec) (hb : c.code = cc) {n1 n2 a1 a2 : Nat} {k1 k2 b1 b2 : Int} {sg' : zS} (hd : decode cc pc = .ok (.irem, 1)) (he : zdr 1 (env, cd, L, st, fa, me) st (n1, k1) (n2, k2) = some sg') (k : zWP (zG Z D cl tys A ad gh wr H0 ws0 nu0 nL) (fun H locs pc ls st => W p l e R s m args below meth c H locs ce sl Q (F0 m pc ls st)) (pc + 1) sg') : zWP (zG Z D cl tys A ad gh wr H0 ws0 nu0 nL) (fun H locs pc ls st => W p l e R s m args below meth c H locs ce sl Q (F0 m pc ls st)) pc (env, cd, L, (1, n2, k2, a2, b2) :: (1, n1, k1, a1, b1) :: st, fa, me) := by
  intro nu ls stc ws H locs hG
  obtain ⟨hH, hN, hL, hS, hF, hM⟩ := hG
  match stc, hS with
  | v2 :: v1 :: stc, ⟨⟨y, hy, h2⟩, ⟨x, hx', h1⟩, hS⟩ =>
    subst hy
    subst hx'
    obtain ⟨hz, nu', h⟩ := zdr_ok (sg := (env, cd, L, st, fa, me)) (stc' := stc) (r := x - x / y * y) ⟨hH, hN, hL, hS, hF, hM⟩ hS h1 h2 (Or.inr rfl) (fun hp => zremI hp) he
    exact lv_irem hx hb hd hz (k nu' ls _ ws H locs h)
/-- branches -/
theorem zs_icmp {op n1 n2 a1 a2 : Nat} {k1 k2 b1 b2 : Int} {tgt : Nat} {P : Int32 → Int32 → Prop} (hP : ∀ x y : Int32, (P x y → zrel op x.toInt y.toInt) ∧ (¬ P x y → zrel (zopn op) x.toInt y.toInt))
    (row : ∀ (H : Heap) (locs : List Loc) (ls : Array Slot) (rest : List Value) (x y : Int32), (P x y → W p l e R s m args below meth c H locs ce sl Q (F0 m tgt ls rest)) → (¬ P x y → W p l e R s m args below meth c H locs ce sl Q (F0 m (pc + 3) ls rest)) → W p l e R s m args below meth c H locs ce sl Q (F0 m pc ls (.int y :: .int x :: rest)))
    (kt : zWP (zG Z D cl tys A ad gh wr H0 ws0 nu0 nL) (fun H locs pc ls st => W p l e R s m args below meth c H locs ce sl Q (F0 m pc ls st)) tgt ((zas op env cd (n1, k1) (n2, k2)).1, (zas op env cd (n1, k1) (n2, k2)).2, L, st, fa, me))
    (kf : zWP (zG Z D cl tys A ad gh wr H0 ws0 nu0 nL) (fun H locs pc ls st => W p l e R s m args below meth c H locs ce sl Q (F0 m pc ls st)) (pc + 3) ((zas (zopn op) env cd (n1, k1) (n2, k2)).1, (zas (zopn op) env cd (n1, k1) (n2, k2)).2, L, st, fa, me)) : zWP (zG Z D cl tys A ad gh wr H0 ws0 nu0 nL) (fun H locs pc ls st => W p l e R s m args below meth c H locs ce sl Q (F0 m pc ls st)) pc (env, cd, L, (1, n2, k2, a2, b2) :: (1, n1, k1, a1, b1) :: st, fa, me) := by
  intro nu ls stc ws H locs hG
  obtain ⟨hH, hN, hL, hS, hF, hM⟩ := hG
  match stc, hS with
  | v2 :: v1 :: stc, ⟨⟨y, hy, h2⟩, ⟨x, hx', h1⟩, hS⟩ =>
    subst hy
    subst hx'
    refine row H locs ls stc x y (fun h => ?_) (fun h => ?_)
    · have z := zas_ok (a := (n1, k1)) (b := (n2, k2)) hN.1 hN.2.1 h1 h2 ((hP x y).1 h)
      exact kt nu ls _ ws H locs ⟨hH, ⟨z.1, z.2, hN.2.2⟩, hL, hS, hF, hM⟩
    · have z := zas_ok (a := (n1, k1)) (b := (n2, k2)) hN.1 hN.2.1 h1 h2 ((hP x y).2 h)
      exact kf nu ls _ ws H locs ⟨hH, ⟨z.1, z.2, hN.2.2⟩, hL, hS, hF, hM⟩
theorem zs_if (h0 : 0 < Z.2.2 ∧ gh 0 = 0) {op n1 a1 : Nat} {k1 b1 : Int} {tgt : Nat} {P : Int32 → Prop} (hP : ∀ x : Int32, (P x → zrel op x.toInt 0) ∧ (¬ P x → zrel (zopn op) x.toInt 0))
    (row : ∀ (H : Heap) (locs : List Loc) (ls : Array Slot) (rest : List Value) (x : Int32), (P x → W p l e R s m args below meth c H locs ce sl Q (F0 m tgt ls rest)) → (¬ P x → W p l e R s m args below meth c H locs ce sl Q (F0 m (pc + 3) ls rest)) → W p l e R s m args below meth c H locs ce sl Q (F0 m pc ls (.int x :: rest)))
    (kt : zWP (zG Z D cl tys A ad gh wr H0 ws0 nu0 nL) (fun H locs pc ls st => W p l e R s m args below meth c H locs ce sl Q (F0 m pc ls st)) tgt ((zas op env cd (n1, k1) (0, 0)).1, (zas op env cd (n1, k1) (0, 0)).2, L, st, fa, me))
    (kf : zWP (zG Z D cl tys A ad gh wr H0 ws0 nu0 nL) (fun H locs pc ls st => W p l e R s m args below meth c H locs ce sl Q (F0 m pc ls st)) (pc + 3) ((zas (zopn op) env cd (n1, k1) (0, 0)).1, (zas (zopn op) env cd (n1, k1) (0, 0)).2, L, st, fa, me)) : zWP (zG Z D cl tys A ad gh wr H0 ws0 nu0 nL) (fun H locs pc ls st => W p l e R s m args below meth c H locs ce sl Q (F0 m pc ls st)) pc (env, cd, L, (1, n1, k1, a1, b1) :: st, fa, me) := by
  intro nu ls stc ws H locs hG
  obtain ⟨hH, hN, hL, hS, hF, hM⟩ := hG
  match stc, hS with
  | v1 :: stc, ⟨⟨x, hx', h1⟩, hS⟩ =>
    subst hx'
    refine row H locs ls stc x (fun h => ?_) (fun h => ?_)
    · have z := zas_ok (a := (n1, k1)) (b := (0, 0)) hN.1 hN.2.1 h1 (hN.cst h0 0) ((hP x).1 h)
      exact kt nu ls _ ws H locs ⟨hH, ⟨z.1, z.2, hN.2.2⟩, hL, hS, hF, hM⟩
    · have z := zas_ok (a := (n1, k1)) (b := (0, 0)) hN.1 hN.2.1 h1 (hN.cst h0 0) ((hP x).2 h)
      exact kf nu ls _ ws H locs ⟨hH, ⟨z.1, z.2, hN.2.2⟩, hL, hS, hF, hM⟩
/-- behind a comparison of longs -/
theorem zs_ifL {op n1 n2 : Nat} {k1 k2 : Int} {tgt : Nat} {P : Int32 → Prop} (hP : ∀ x y : Int64, (P (lg_cmp x y) → zrel op x.toInt y.toInt) ∧ (¬ P (lg_cmp x y) → zrel (zopn op) x.toInt y.toInt))
    (row : ∀ (H : Heap) (locs : List Loc) (ls : Array Slot) (rest : List Value) (x : Int32), (P x → W p l e R s m args below meth c H locs ce sl Q (F0 m tgt ls rest)) → (¬ P x → W p l e R s m args below meth c H locs ce sl Q (F0 m (pc + 3) ls rest)) → W p l e R s m args below meth c H locs ce sl Q (F0 m pc ls (.int x :: rest)))
    (kt : zWP (zG Z D cl tys A ad gh wr H0 ws0 nu0 nL) (fun H locs pc ls st => W p l e R s m args below meth c H locs ce sl Q (F0 m pc ls st)) tgt ((zas op env cd (n1, k1) (n2, k2)).1, (zas op env cd (n1, k1) (n2, k2)).2, L, st, fa, me))
    (kf : zWP (zG Z D cl tys A ad gh wr H0 ws0 nu0 nL) (fun H locs pc ls st => W p l e R s m args below meth c H locs ce sl Q (F0 m pc ls st)) (pc + 3) ((zas (zopn op) env cd (n1, k1) (n2, k2)).1, (zas (zopn op) env cd (n1, k1) (n2, k2)).2, L, st, fa, me)) : zWP (zG Z D cl tys A ad gh wr H0 ws0 nu0 nL) (fun H locs pc ls st => W p l e R s m args below meth c H locs ce sl Q (F0 m pc ls st)) pc (env, cd, L, (4, n1, k1, n2, k2) :: st, fa, me) := by
  intro nu ls stc ws H locs hG
  obtain ⟨hH, hN, hL, hS, hF, hM⟩ := hG
  match stc, hS with
  | v1 :: stc, ⟨⟨x, y, hx', h1, h2⟩, hS⟩ =>
    subst hx'
    refine row H locs ls stc _ (fun h => ?_) (fun h => ?_)
    · have z := zas_ok (a := (n1, k1)) (b := (n2, k2)) hN.1 hN.2.1 h1 h2 ((hP x y).1 h)
      exact kt nu ls _ ws H locs ⟨hH, ⟨z.1, z.2, hN.2.2⟩, hL, hS, hF, hM⟩
    · have z := zas_ok (a := (n1, k1)) (b := (n2, k2)) hN.1 hN.2.1 h1 h2 ((hP x y).2 h)
      exact kf nu ls _ ws H locs ⟨hH, ⟨z.1, z.2, hN.2.2⟩, hL, hS, hF, hM⟩
theorem zs_goto (hx : p.tables.exec = Jvm.exec) (hb : c.code = cc) {off : Int} {tgt : Nat} (hd : decode cc pc = .ok (.goto off, 3)) (ht : (pc : Int) + off = (tgt : Int)) (k : zWP (zG Z D cl tys A ad gh wr H0 ws0 nu0 nL) (fun H locs pc ls st => W p l e R s m args below meth c H locs ce sl Q (F0 m pc ls st)) tgt (env, cd, L, st, fa, me)) : zWP (zG Z D cl tys A ad gh wr H0 ws0 nu0 nL) (fun H locs pc ls st => W p l e R s m args below meth c H locs ce sl Q (F0 m pc ls st)) pc (env, cd, L, st, fa, me) := by
  intro nu ls stc ws H locs hG
  exact lv_goto hx hb hd ht (k nu ls stc ws H locs hG)
/-- the stack -/
def zcat (a : zAV) : Nat := if a.1 = 2 then 2 else 1
theorem zcat_ok {nu : List Int} {a : zAV} {v : Value} (h : zm ad nu a v) (h0 : a.1 ≠ 0) : v.category = zcat a := by
  obtain ⟨tg, n, k, n2, k2⟩ := a
  match tg, h with
  | 0, _ => exact absurd rfl h0
  | 1, ⟨x, h1, h2⟩ => subst h1; rfl
  | 2, ⟨x, h1, h2⟩ => subst h1; rfl
  | 3, ⟨x, h1, h2⟩ => subst h1; rfl
  | 4, ⟨x, y, h1, h2, h3⟩ => subst h1; rfl
theorem zs_dup (hx : p.tables.exec = Jvm.exec) (hb : c.code = cc) {a : zAV} (h1 : a.1 ≠ 0) (h2 : a.1 ≠ 2) (hd : decode cc pc = .ok (.dup, 1)) (k : zWP (zG Z D cl tys A ad gh wr H0 ws0 nu0 nL) (fun H locs pc ls st => W p l e R s m args below meth c H locs ce sl Q (F0 m pc ls st)) (pc + 1) (env, cd, L, a :: a :: st, fa, me)) : zWP (zG Z D cl tys A ad gh wr H0 ws0 nu0 nL) (fun H locs pc ls st => W p l e R s m args below meth c H locs ce sl Q (F0 m pc ls st)) pc (env, cd, L, a :: st, fa, me) := by
  intro nu ls stc ws H locs hG
  obtain ⟨hH, hN, hL, hS, hF, hM⟩ := hG
  match stc, hS with
  | v1 :: stc, ⟨g1, hS⟩ => exact lv_dup hx hb hd (by rw [zcat_ok g1 h1]; simp [zcat, h2]) (k nu ls _ ws H locs ⟨hH, hN, hL, ⟨g1, g1, hS⟩, hF, hM⟩)
theorem zs_pop (hx : p.tables.exec = Jvm.exec) (hb : c.code = cc) {a : zAV} (h1 : a.1 ≠ 0) (h2 : a.1 ≠ 2) (hd : decode cc pc = .ok (.pop, 1)) (k : zWP (zG Z D cl tys A ad gh wr H0 ws0 nu0 nL) (fun H locs pc ls st => W p l e R s m args below meth c H locs ce sl Q (F0 m pc ls st)) (pc + 1) (env, cd, L, st, fa, me)) : zWP (zG Z D cl tys A ad gh wr H0 ws0 nu0 nL) (fun H locs pc ls st => W p l e R s m args below meth c H locs ce sl Q (F0 m pc ls st)) pc (env, cd, L, a :: st, fa, me) := by
  intro nu ls stc ws H locs hG
  obtain ⟨hH, hN, hL, hS, hF, hM⟩ := hG
  match stc, hS with
  | v1 :: stc, ⟨g1, hS⟩ => exact lv_pop hx hb hd (by rw [zcat_ok g1 h1]; simp [zcat, h2]) (k nu ls _ ws H locs ⟨hH, hN, hL, hS, hF, hM⟩)
end ZS
