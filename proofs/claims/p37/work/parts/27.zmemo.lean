/-! MEMOS of differences: r = a - n -/
theorem zpu_sub2 (x y : Int32) : (x - y).toInt = zpure 6 x.toInt y.toInt := by
  rw [Int32.toInt_sub]
  rfl
/-- the difference does not wrap around -/
def zdok (env : List zIv) (q : zMe) : Bool := q.1 == 16 && (zleI (-2147483648) (zlo env q.2.1 + q.2.2.1 - zhi env q.2.2.2.1.toNat) && zleI (zhi env q.2.1 + q.2.2.1 - zlo env q.2.2.2.1.toNat) 2147483647)
theorem zdok_ok {env : List zIv} {nu : List Int} {q : zMe} (h : zdok env q = true) (he : zEnv env nu) (g : ∃ z r, zV nu q.2.1 q.2.2.1 z ∧ zV nu q.2.2.2.2.1 q.2.2.2.2.2 r ∧ zpu nu q.1 z q.2.2.2.1 r) : ∃ z r y, zV nu q.2.1 q.2.2.1 z ∧ zV nu q.2.2.2.2.1 q.2.2.2.2.2 r ∧ zV nu q.2.2.2.1.toNat 0 y ∧ r = z - y := by
  unfold zdok at h
  rw [Bool.and_eq_true, Bool.and_eq_true, beq_iff_eq] at h
  obtain ⟨h1, h2, h3⟩ := h
  have h2 := zleI_ok h2
  have h3 := zleI_ok h3
  obtain ⟨z, r, g1, g2, g3⟩ := g
  rw [h1] at g3
  rcases g3 with ⟨g4, -⟩ | ⟨-, y, y1, y2⟩
  · exact absurd g4 (by decide)
  · have hy : zV nu q.2.2.2.1.toNat 0 y := ⟨y, y1, (Int.add_zero y).symm⟩
    have bz := g1.bd he
    have by' := hy.bd he
    have y2 : r = Int.bmod (z - y) 4294967296 := y2
    refine ⟨z, r, y, g1, g2, hy, ?_⟩
    rw [y2, Int.bmod_eq_of_le (by omega) (by omega)]
/-- ends by a memo -/
def zmrE (env : List zIv) (n : Nat) (lo hi : Int) : List zIv := env.set n (zclipHi (zclipLo (zE env n) lo) hi)
theorem zmrE_ok {env : List zIv} {nu : List Int} {n : Nat} {lo hi : Int} (he : zEnv env nu) (h : ∀ a, nu[n]? = some a → lo ≤ a ∧ a ≤ hi) : zEnv (zmrE env n lo hi) nu :=
  he.set (fun a ha => zclipHi_ok (zclipLo_ok (he.at ha) (h a ha).1) (h a ha).2)
def zmr1 (env : List zIv) (q : zMe) : List zIv := zmrE env q.2.2.2.2.1 (zlo env q.2.1 + q.2.2.1 - zhi env q.2.2.2.1.toNat - q.2.2.2.2.2) (zhi env q.2.1 + q.2.2.1 - zlo env q.2.2.2.1.toNat - q.2.2.2.2.2)
def zmr2 (env : List zIv) (q : zMe) : List zIv := zmrE env q.2.2.2.1.toNat (zlo env q.2.1 + q.2.2.1 - zhi env q.2.2.2.2.1 - q.2.2.2.2.2) (zhi env q.2.1 + q.2.2.1 - zlo env q.2.2.2.2.1 - q.2.2.2.2.2)
def zmr3 (n : Nat) : List zIv → List zCd → List zIv
  | env, [] => env
  | env, c :: r => zmr3 n (if c.2.1 = n then zasE env (c.1, 0) (c.2.1, c.2.2) else env) r
theorem zmr3_ok {nu : List Int} {n : Nat} : ∀ {cd : List zCd} {env : List zIv}, zEnv env nu → zCds cd nu → zEnv (zmr3 n env cd) nu
  | [], env, he, _ => he
  | q :: r, env, he, hc => by
    unfold zmr3
    refine zmr3_ok (cd := r) ?_ (fun p hp => hc p (List.mem_cons_of_mem _ hp))
    split
    · obtain ⟨x, y, h1, h2, h3⟩ := hc q List.mem_cons_self
      exact zasE_ok (a := (q.1, 0)) (b := (q.2.1, q.2.2)) he ⟨x, h1, rfl⟩ ⟨y, h2, rfl⟩ (by omega)
    · exact he
def zmrA (cd : List zCd) (env : List zIv) (q : zMe) : List zIv := if zdok env q = true then zmr3 q.2.2.2.2.1 (zmr2 (zmr1 env q) q) cd else env
theorem zmrA_ok {env : List zIv} {nu : List Int} {cd : List zCd} {q : zMe} (he : zEnv env nu) (hc : zCds cd nu) (g : ∃ z r, zV nu q.2.1 q.2.2.1 z ∧ zV nu q.2.2.2.2.1 q.2.2.2.2.2 r ∧ zpu nu q.1 z q.2.2.2.1 r) : zEnv (zmrA cd env q) nu := by
  unfold zmrA
  split
  · rename_i hd
    obtain ⟨z, r, y, g1, g2, g3, e⟩ := zdok_ok hd he g
    have h1 : zEnv (zmr1 env q) nu := by
      refine zmrE_ok he (fun a ha => ?_)
      have bz := g1.bd he
      have by' := g3.bd he
      obtain ⟨u, u1, u2⟩ := g2
      rw [u1] at ha
      cases ha
      exact ⟨by omega, by omega⟩
    refine zmr3_ok (zmrE_ok h1 (fun a ha => ?_)) hc
    have bz := g1.bd h1
    have br := g2.bd h1
    obtain ⟨u, u1, u2⟩ := g3
    rw [u1] at ha
    cases ha
    exact ⟨by omega, by omega⟩
  · exact he
def zmrL (cd : List zCd) : List zIv → List zMe → List zIv
  | env, [] => env
  | env, q :: r => zmrL cd (zmrA cd env q) r
theorem zmrL_ok {nu : List Int} {cd : List zCd} (hc : zCds cd nu) : ∀ {me : List zMe} {env : List zIv}, zEnv env nu → zMes me nu → zEnv (zmrL cd env me) nu
  | [], env, he, _ => he
  | q :: r, env, he, hm => zmrL_ok hc (me := r) (zmrA_ok he hc (hm q List.mem_cons_self)) (fun p hp => hm p (List.mem_cons_of_mem _ hp))
def zmref (sg : zS) : zS := (zmrL sg.2.1 sg.1 sg.2.2.2.2.2, sg.2)
/-- upper ends of a sum: x ≤ r + c1, y ≤ n + c2, r = a - n -/
def zups (cd : List zCd) (u : Nat × Int) (n : Nat) : List Int := (if u.1 = n then [u.2] else []) ++ cd.filterMap (fun q => if q.1 = u.1 ∧ q.2.1 = n then some (q.2.2 + u.2) else none)
theorem zups_ok {cd : List zCd} {nu : List Int} {u : Nat × Int} {n : Nat} {c x a : Int} (h : c ∈ zups cd u n) (hc : zCds cd nu) (hx : zV nu u.1 u.2 x) (ha : nu[n]? = some a) : x ≤ a + c := by
  obtain ⟨w, w1, w2⟩ := hx
  rcases List.mem_append.mp h with h | h
  · split at h
    · rename_i e
      cases List.mem_singleton.mp h
      rw [e, ha] at w1
      cases w1
      omega
    · cases h
  · obtain ⟨q, hq, h1⟩ := List.mem_filterMap.mp h
    split at h1
    · rename_i e
      cases h1
      obtain ⟨x1, y1, g1, g2, g3⟩ := hc q hq
      rw [e.1, w1] at g1
      cases g1
      rw [e.2, ha] at g2
      cases g2
      omega
    · cases h1
def zsum1 (env : List zIv) (cd : List zCd) (q : zMe) (u v : Nat × Int) : List Int := (zups cd u q.2.2.2.2.1).flatMap (fun c1 => (zups cd v q.2.2.2.1.toNat).map (fun c2 => zhi env q.2.1 + q.2.2.1 + c1 - q.2.2.2.2.2 + c2))
def zsumL (env : List zIv) (cd : List zCd) (me : List zMe) (x y : Nat × Int) : List Int := me.flatMap (fun q => if zdok env q = true then zsum1 env cd q x y ++ zsum1 env cd q y x else [])
theorem zsum1_ok {env : List zIv} {cd : List zCd} {nu : List Int} {q : zMe} {u v : Nat × Int} {B x y : Int} (h : B ∈ zsum1 env cd q u v) (hd : zdok env q = true) (he : zEnv env nu) (hc : zCds cd nu) (g : ∃ z r, zV nu q.2.1 q.2.2.1 z ∧ zV nu q.2.2.2.2.1 q.2.2.2.2.2 r ∧ zpu nu q.1 z q.2.2.2.1 r) (hx : zV nu u.1 u.2 x) (hy : zV nu v.1 v.2 y) : x + y ≤ B := by
  obtain ⟨c1, h1, h2⟩ := List.mem_flatMap.mp h
  obtain ⟨c2, h3, rfl⟩ := List.mem_map.mp h2
  obtain ⟨z, r, w, g1, g2, g3, e⟩ := zdok_ok hd he g
  have bz := g1.bd he
  obtain ⟨a, a1, a2⟩ := g2
  obtain ⟨b, b1, b2⟩ := g3
  have k1 := zups_ok h1 hc hx a1
  have k2 := zups_ok h3 hc hy b1
  omega
theorem zsumL_ok {env : List zIv} {cd : List zCd} {me : List zMe} {nu : List Int} {a b : Nat × Int} {B x y : Int} (h : B ∈ zsumL env cd me a b) (he : zEnv env nu) (hc : zCds cd nu) (hm : zMes me nu) (hx : zV nu a.1 a.2 x) (hy : zV nu b.1 b.2 y) : x + y ≤ B := by
  obtain ⟨q, hq, h1⟩ := List.mem_flatMap.mp h
  split at h1
  · rename_i hd
    rcases List.mem_append.mp h1 with h1 | h1
    · exact zsum1_ok h1 hd he hc (hm q hq) hx hy
    · have := zsum1_ok h1 hd he hc (hm q hq) hy hx
      omega
  · cases h1
/-- the least of them -/
def zmin : List Int → Option Int
  | [] => none
  | a :: r => match zmin r with
    | none => some a
    | some b => some (bif zltI b a then b else a)
theorem zmin_mem : ∀ {l : List Int} {b : Int}, zmin l = some b → b ∈ l
  | [], b, h => by cases h
  | a :: r, b, h => by
    unfold zmin at h
    split at h
    · cases h
      exact List.mem_cons_self
    · rename_i c hc
      cases h
      cases zltI c a with
      | true => exact List.mem_cons_of_mem _ (zmin_mem hc)
      | false => exact List.mem_cons_self
def zmoI (op : Nat) (c : Int) (iv : zIv) (sg : zS) (rest : List zAV) (a : Nat × Int) : zS :=
  match sg.2.2.2.2.2.find? (fun q => q.1 == op && (q.2.1 == a.1 && (q.2.2.1 == a.2 && q.2.2.2.1 == c))) with
    | some q => (sg.1, sg.2.1, sg.2.2.1, (1, q.2.2.2.2.1, q.2.2.2.2.2, 0, 0) :: rest, sg.2.2.2.2.1, sg.2.2.2.2.2)
    | none => (sg.1 ++ [iv], sg.2.1, sg.2.2.1, (1, sg.1.length, 0, 0, 0) :: rest, sg.2.2.2.2.1, (op, a.1, a.2, c, sg.1.length, 0) :: sg.2.2.2.2.2)
section ZMO
variable {p : Program} {l : Launch} {e : Env} {R : Room} {s : State} {m : MethodId} {args : Array Value} {below : List Frame} {meth : Method} {c : Code} {Q : State → Prop} {cc : ByteArray} {pc ce sl : Nat}
variable {Z : zZ} {D : va_G} {cl : List vw_C} {tys : List (ClassId × FieldType)} {A : Nat → Prop} {ad : Nat → Nat} {gh : Nat → Int} {wr : zWr} {H0 : Heap} {ws0 : va_W} {nu0 : List Int} {nL : Nat}
variable {env : List zIv} {cd : List zCd} {L st : List zAV} {fa : List zFa} {me : List zMe}
theorem zmref_ok {nu : List Int} {ls : Array Slot} {stc : List Value} {ws : va_W} {H : Heap} {locs : List Loc} {sg : zS} (h : zG Z D cl tys A ad gh wr H0 ws0 nu0 nL sg nu ls stc ws H locs) : zG Z D cl tys A ad gh wr H0 ws0 nu0 nL (zmref sg) nu ls stc ws H locs :=
  ⟨h.1, ⟨zmrL_ok h.2.1.2.1 h.2.1.1 h.2.2.2.2.2, h.2.1.2⟩, h.2.2⟩
theorem zwp_mref {sg : zS} {pc' : Nat} (k : zWP (zG Z D cl tys A ad gh wr H0 ws0 nu0 nL) (fun H locs pc ls st => W p l e R s m args below meth c H locs ce sl Q (F0 m pc ls st)) pc' (zmref sg)) : zWP (zG Z D cl tys A ad gh wr H0 ws0 nu0 nL) (fun H locs pc ls st => W p l e R s m args below meth c H locs ce sl Q (F0 m pc ls st)) pc' sg := fun nu ls stc ws H locs hG => k nu ls stc ws H locs (zmref_ok hG)
theorem zmoI_ok {op : Nat} {k0 : Int} {iv : zIv} {nu : List Int} {ls : Array Slot} {stc stc' : List Value} {ws : va_W} {H : Heap} {locs : List Loc} {sg : zS} {rest : List zAV} {a : Nat × Int} {x r : Int32} (h : zG Z D cl tys A ad gh wr H0 ws0 nu0 nL sg nu ls stc' ws H locs) (hs : zall (zm ad nu) rest stc) (hx : zV nu a.1 a.2 x.toInt) (hr : zpu nu op x.toInt k0 r.toInt) (hi : zInIv r.toInt iv) : ∃ nu', zG Z D cl tys A ad gh wr H0 ws0 nu0 nL (zmoI op k0 iv sg rest a) nu' ls (.int r :: stc) ws H locs := by
  have hE := h.2.1.1
  unfold zmoI
  split
  · rename_i q hq
    have hm := List.mem_of_find?_eq_some hq
    have hq2 := List.find?_some hq
    simp only [Bool.and_eq_true, beq_iff_eq] at hq2
    obtain ⟨z, w, g1, g2, g3⟩ := h.2.2.2.2.2 q hm
    rw [hq2.2.1, hq2.2.2.1] at g1
    have ez := g1.eq hx
    rw [hq2.1, ez, hq2.2.2.2] at g3
    rw [g3.fn hr] at g2
    exact ⟨nu, h.1, h.2.1, h.2.2.1, ⟨⟨r, rfl, g2⟩, hs⟩, h.2.2.2.2.1, h.2.2.2.2.2⟩
  · refine ⟨nu ++ [r.toInt], h.1, h.2.1.push hi, h.2.2.1.app, ⟨⟨r, rfl, zV.new hE _⟩, hs.mono fun a v h => h.app⟩, h.2.2.2.2.1.app, ?_⟩
    intro q hq
    rcases List.mem_cons.mp hq with rfl | hq
    · exact ⟨x.toInt, r.toInt, hx.app, zV.new hE _, hr.app⟩
    · exact h.2.2.2.2.2.app q hq
/-- a branch, by lists of relations -/
theorem zs_icmpL {n1 n2 a1 a2 : Nat} {k1 k2 b1 b2 : Int} {tgt : Nat} {P : Int32 → Int32 → Prop} (lt lf : List Nat) (hP : ∀ x y : Int32, (P x y → ∃ o ∈ lt, zrel o x.toInt y.toInt) ∧ (¬ P x y → ∃ o ∈ lf, zrel o x.toInt y.toInt))
    (row : ∀ (H : Heap) (locs : List Loc) (ls : Array Slot) (rest : List Value) (x y : Int32), (P x y → W p l e R s m args below meth c H locs ce sl Q (F0 m tgt ls rest)) → (¬ P x y → W p l e R s m args below meth c H locs ce sl Q (F0 m (pc + 3) ls rest)) → W p l e R s m args below meth c H locs ce sl Q (F0 m pc ls (.int y :: .int x :: rest)))
    (kt : ∀ o ∈ lt, zWP (zG Z D cl tys A ad gh wr H0 ws0 nu0 nL) (fun H locs pc ls st => W p l e R s m args below meth c H locs ce sl Q (F0 m pc ls st)) tgt ((zas o env cd (n1, k1) (n2, k2)).1, (zas o env cd (n1, k1) (n2, k2)).2, L, st, fa, me))
    (kf : ∀ o ∈ lf, zWP (zG Z D cl tys A ad gh wr H0 ws0 nu0 nL) (fun H locs pc ls st => W p l e R s m args below meth c H locs ce sl Q (F0 m pc ls st)) (pc + 3) ((zas o env cd (n1, k1) (n2, k2)).1, (zas o env cd (n1, k1) (n2, k2)).2, L, st, fa, me)) : zWP (zG Z D cl tys A ad gh wr H0 ws0 nu0 nL) (fun H locs pc ls st => W p l e R s m args below meth c H locs ce sl Q (F0 m pc ls st)) pc (env, cd, L, (1, n2, k2, a2, b2) :: (1, n1, k1, a1, b1) :: st, fa, me) := by
  intro nu ls stc ws H locs hG
  obtain ⟨hH, hN, hL, hS, hF, hM⟩ := hG
  match stc, hS with
  | v2 :: v1 :: stc, ⟨⟨y, hy, h2⟩, ⟨x, hx', h1⟩, hS⟩ =>
    subst hy
    subst hx'
    refine row H locs ls stc x y (fun h => ?_) (fun h => ?_)
    · obtain ⟨o, ho, hr⟩ := (hP x y).1 h
      have z := zas_ok (a := (n1, k1)) (b := (n2, k2)) hN.1 hN.2.1 h1 h2 hr
      exact kt o ho nu ls _ ws H locs ⟨hH, ⟨z.1, z.2, hN.2.2⟩, hL, hS, hF, hM⟩
    · obtain ⟨o, ho, hr⟩ := (hP x y).2 h
      have z := zas_ok (a := (n1, k1)) (b := (n2, k2)) hN.1 hN.2.1 h1 h2 hr
      exact kf o ho nu ls _ ws H locs ⟨hH, ⟨z.1, z.2, hN.2.2⟩, hL, hS, hF, hM⟩
end ZMO
