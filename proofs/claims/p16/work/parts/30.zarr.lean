/-! ARRAYS, SWITCHES -/
def zaread (Z : zZ) (sg : zS) (rest : List zAV) (a i : Nat × Int) (ft : zFT) : Option zS := if zcst sg.1 i = true then zread Z sg rest a (zlo sg.1 i.1 + i.2).toNat ft else zreadU Z sg rest a ft
def zawF (env : List zIv) (fa : List zFa) (a i : Nat × Int) (av : zAV) : List zFa := if zcst env i = true then (a.1, a.2, (zlo env i.1 + i.2).toNat, av) :: zfk env fa a (zlo env i.1 + i.2).toNat else zfkA env fa a
def zawC (wr : zWr) (env : List zIv) (a i : Nat × Int) : Bool := zcovA wr env a || (zcst env i && zcovB wr env a (zlo env i.1 + i.2).toNat)
def zbds (env : List zIv) (cd : List zCd) (i : Nat × Int) (len : Nat) : Bool := zle env cd (0, 0) i && zle env cd i (0, (len : Int) - 1)
theorem zbds_ok {env : List zIv} {cd : List zCd} {nu : List Int} {i : Nat × Int} {len : Nat} {x : Int32} (h : zbds env cd i len = true) (h0 : nu[0]? = some 0) (he : zEnv env nu) (hc : zCds cd nu) (hx : zV nu i.1 i.2 x.toInt) : vp_in x len ∧ x.toNatClampNeg < len ∧ (x.toNatClampNeg : Int) = x.toInt := by
  unfold zbds at h
  rw [Bool.and_eq_true] at h
  have l1 := zle_ok h.1 he hc (x := 0 + 0) ⟨0, h0, rfl⟩ hx
  have l2 := zle_ok h.2 he hc (y := 0 + ((len : Int) - 1)) hx ⟨0, h0, rfl⟩
  have e : x.toNatClampNeg = x.toInt.toNat := rfl
  refine ⟨vp_in_iff.mpr ⟨by omega, by omega⟩, by rw [e]; omega, by rw [e]; omega⟩
theorem zfit_int {ad : Nat → Nat} {nu : List Int} {n n2 : Nat} {k k2 : Int} {v : Value} (h : zm ad nu (1, n, k, n2, k2) v) : narrow .int v = v ∧ fits .int v = true := by
  obtain ⟨x, rfl, -⟩ := h
  exact ⟨rfl, rfl⟩
theorem zfit_bool {ad : Nat → Nat} {env : List zIv} {nu : List Int} {n n2 : Nat} {k k2 : Int} {v : Value} (h : zm ad nu (1, n, k, n2, k2) v) (he : zEnv env nu) (hz : zin env (n, k) [(0, 1)] = true) : narrow .boolean v = v ∧ fits .boolean v = true := by
  obtain ⟨x, rfl, h2⟩ := h
  obtain ⟨p, hp, g1, g2⟩ := zin_ok (a := (n, k)) hz he h2
  rw [List.mem_singleton] at hp
  subst hp
  have g1 : (0 : Int) ≤ x.toInt := g1
  have g2 : x.toInt ≤ 1 := g2
  rcases (show x.toInt = 0 ∨ x.toInt = 1 by omega) with e | e
  · have : x = 0 := Int32.toInt_inj.mp (by rw [e]; rfl)
    subst this
    exact ⟨by decide, by decide⟩
  · have : x = 1 := Int32.toInt_inj.mp (by rw [e]; rfl)
    subst this
    exact ⟨by decide, by decide⟩
theorem zfit_ref {ad : Nat → Nat} {nu : List Int} {n n2 : Nat} {k k2 : Int} {v : Value} (h : zm ad nu (3, n, k, n2, k2) v) {ty : FieldType} (ht : ∃ n, ty = .object n) : narrow ty v = v ∧ fits ty v = true := by
  obtain ⟨x, rfl, -⟩ := h
  obtain ⟨n, rfl⟩ := ht
  exact ⟨rfl, rfl⟩
/-- the kinds of a store: which values go into which fields -/
def zfitB (env : List zIv) (tc : Nat) (av : zAV) : Bool := match tc, av with
  | 0, (1, _, _, _, _) => true
  | 1, (1, n, k, _, _) => zin env (n, k) [(0, 1)]
  | 2, (3, _, _, _, _) => true
  | _, _ => false
theorem zfitB_ok {ad : Nat → Nat} {env : List zIv} {nu : List Int} {tc : Nat} {av : zAV} {v : Value} {ty : FieldType} (h : zfitB env tc av = true) (he : zEnv env nu) (hv : zm ad nu av v) (h0 : tc = 0 → ty = .int) (h1 : tc = 1 → ty = .boolean) (h2 : tc = 2 → ∃ n, ty = .object n) : narrow ty v = v ∧ fits ty v = true := by
  obtain ⟨tg, n, k, n2, k2⟩ := av
  match tc, tg, h, hv with
  | 0, 1, h, hv => rw [h0 rfl]; exact zfit_int hv
  | 1, 1, h, hv => rw [h1 rfl]; exact zfit_bool hv he h
  | 2, 3, h, hv => exact zfit_ref hv (h2 rfl)
section ZA
variable {p : Program} {l : Launch} {e : Env} {R : Room} {s : State} {m : MethodId} {args : Array Value} {below : List Frame} {meth : Method} {c : Code} {Q : State → Prop} {cc : ByteArray} {pc ce sl : Nat}
variable {Z : zZ} {D : va_G} {cl : List vw_C} {tys : List (ClassId × FieldType)} {A : Nat → Prop} {ad : Nat → Nat} {gh : Nat → Int} {wr : zWr} {H0 : Heap} {ws0 : va_W} {nu0 : List Int} {nL : Nat}
variable {env : List zIv} {cd : List zCd} {L st : List zAV} {fa : List zFa} {me : List zMe}
theorem zs_put (hx : p.tables.exec = Jvm.exec) (hb : c.code = cc) (h0 : 0 < Z.2.2 ∧ gh 0 = 0) {own : String} (hown : s.vm.findClass own = some m.cls) (hK : va_K D cl tys s) (hZ : zDj Z) {idx ci j tc n n2 x : Nat} {k k2 : Int} {fts : List zFT} {ft : zFT} {av : zAV} (hd : decode cc pc = .ok (.putfield idx, 3)) (hf : zFldP cl s args own idx ci j tc)
    (ht : zty Z env (n, k) = some (0, ci, x, fts)) (hj : fts[j]? = some ft) (hw : zwt Z env cd (n, k) ft av = true) (hcv : zcovB wr env (n, k) j = true) (hfit : zfitB env tc av = true)
    (kk : zWP (zG Z D cl tys A ad gh wr H0 ws0 nu0 nL) (fun H locs pc ls st => W p l e R s m args below meth c H locs ce sl Q (F0 m pc ls st)) (pc + 3) (env, cd, L, st, (n, k, j, av) :: zfk env fa (n, k) j, me)) : zWP (zG Z D cl tys A ad gh wr H0 ws0 nu0 nL) (fun H locs pc ls st => W p l e R s m args below meth c H locs ce sl Q (F0 m pc ls st)) pc (env, cd, L, av :: (3, n, k, n2, k2) :: st, fa, me) :=
  zs_putV hx hb h0 hown hK hZ hd hf ht hj hw hcv (fun nu v ty hN hv h0 h1 h2 => zfitB_ok hfit hN.1 hv h0 h1 h2) kk
theorem zaread_ok {nu : List Int} {ls : Array Slot} {stc stc' : List Value} {ws : va_W} {H : Heap} {locs : List Loc} {sg sg' : zS} {rest : List zAV} {a i : Nat × Int} {q : Nat} {ft : zFT} {v : Value} {x : Int} (h0 : 0 < Z.2.2 ∧ gh 0 = 0) (h : zG Z D cl tys A ad gh wr H0 ws0 nu0 nL sg nu ls stc' ws H locs) (hs : zall (zm ad nu) rest stc)
    (ha : zV nu a.1 a.2 q) (hi : zV nu i.1 i.2 x) (hv : zfv ws q x.toNat = some v) (ht : zft ad gh Z.2.1 q ft v) (he : zaread Z sg rest a i ft = some sg') : ∃ nu', zG Z D cl tys A ad gh wr H0 ws0 nu0 nL sg' nu' ls (v :: stc) ws H locs := by
  unfold zaread at he
  by_cases hc : zcst sg.1 i = true
  · rw [if_pos hc] at he
    have e := zcst_ok hc h.2.1.1 hi
    rw [e] at hv
    exact zread_ok h0 h hs ha hv ht he
  · rw [if_neg hc] at he
    exact zreadU_ok h0 h hs ha ht he
theorem zs_iald (hx : p.tables.exec = Jvm.exec) (hb : c.code = cc) (h0 : 0 < Z.2.2 ∧ gh 0 = 0) (hK : va_K D cl tys s) {n n2 t0 len ni m2 : Nat} {k k2 ki l2 : Int} {fts : List zFT} {ft : zFT} {sg' : zS} (hd : decode cc pc = .ok (.iaload, 1))
    (ht : zty Z env (n, k) = some (1, t0, len, fts)) (hj : fts[0]? = some ft) (hi : zbds env cd (ni, ki) len = true) (hr : zaread Z (env, cd, L, st, fa, me) st (n, k) (ni, ki) ft = some sg') (kk : zWP (zG Z D cl tys A ad gh wr H0 ws0 nu0 nL) (fun H locs pc ls st => W p l e R s m args below meth c H locs ce sl Q (F0 m pc ls st)) (pc + 1) sg') : zWP (zG Z D cl tys A ad gh wr H0 ws0 nu0 nL) (fun H locs pc ls st => W p l e R s m args below meth c H locs ce sl Q (F0 m pc ls st)) pc (env, cd, L, (1, ni, ki, m2, l2) :: (3, n, k, n2, k2) :: st, fa, me) := by
  intro nu ls stc ws H locs hG
  obtain ⟨hH, hN, hL, hS, hF, hM⟩ := hG
  match stc, hS with
  | v2 :: v1 :: stc, ⟨⟨x, hx', h2⟩, ⟨q, hq, h1⟩, hS⟩ =>
    subst hq
    subst hx'
    obtain ⟨e0, he0, g1, g2, g3⟩ := zty_ok ht hN.1 h1
    have hc := hH.2.2.2.1 e0 he0 q g1 g2
    rw [g3] at hc
    obtain ⟨cA, f, c1, c2, c3⟩ := hc
    obtain ⟨b1, b2, b3⟩ := zbds_ok (i := (ni, ki)) hi (hN.z0 h0) hN.1 hN.2.1 h2
    obtain ⟨nu', h⟩ := zaread_ok (sg := (env, cd, L, st, fa, me)) (stc' := stc) h0 ⟨hH, hN, hL, hS, hF, hM⟩ hS h1 (i := (ni, ki)) h2 (show zfv ws q x.toInt.toNat = some (.int (f x.toNatClampNeg)) by unfold zfv; rw [c1]; exact if_pos b2) (c3 _ ft b2 hj) hr
    exact va_iald hx hb hK hH.1 q t0 c1 c2 b1 hd (kk nu' ls _ ws H locs h)
theorem zs_bald (hx : p.tables.exec = Jvm.exec) (hb : c.code = cc) (h0 : 0 < Z.2.2 ∧ gh 0 = 0) (hK : va_K D cl tys s) {n n2 t0 len ni m2 : Nat} {k k2 ki l2 : Int} {fts : List zFT} {ft : zFT} {sg' : zS} (hd : decode cc pc = .ok (.baload, 1))
    (ht : zty Z env (n, k) = some (2, t0, len, fts)) (hj : fts[0]? = some ft) (hi : zbds env cd (ni, ki) len = true) (hr : zaread Z (env, cd, L, st, fa, me) st (n, k) (ni, ki) ft = some sg') (kk : zWP (zG Z D cl tys A ad gh wr H0 ws0 nu0 nL) (fun H locs pc ls st => W p l e R s m args below meth c H locs ce sl Q (F0 m pc ls st)) (pc + 1) sg') : zWP (zG Z D cl tys A ad gh wr H0 ws0 nu0 nL) (fun H locs pc ls st => W p l e R s m args below meth c H locs ce sl Q (F0 m pc ls st)) pc (env, cd, L, (1, ni, ki, m2, l2) :: (3, n, k, n2, k2) :: st, fa, me) := by
  intro nu ls stc ws H locs hG
  obtain ⟨hH, hN, hL, hS, hF, hM⟩ := hG
  match stc, hS with
  | v2 :: v1 :: stc, ⟨⟨x, hx', h2⟩, ⟨q, hq, h1⟩, hS⟩ =>
    subst hq
    subst hx'
    obtain ⟨e0, he0, g1, g2, g3⟩ := zty_ok ht hN.1 h1
    have hc := hH.2.2.2.1 e0 he0 q g1 g2
    rw [g3] at hc
    obtain ⟨cA, f, c1, c2, c3⟩ := hc
    obtain ⟨b1, b2, b3⟩ := zbds_ok (i := (ni, ki)) hi (hN.z0 h0) hN.1 hN.2.1 h2
    obtain ⟨nu', h⟩ := zaread_ok (sg := (env, cd, L, st, fa, me)) (stc' := stc) h0 ⟨hH, hN, hL, hS, hF, hM⟩ hS h1 (i := (ni, ki)) h2 (show zfv ws q x.toInt.toNat = some (.int (f x.toNatClampNeg)) by unfold zfv; rw [c1]; exact if_pos b2) (c3 _ ft b2 hj) hr
    exact va_bald hx hb hK hH.1 q t0 c1 c2 b1 hd (kk nu' ls _ ws H locs h)
theorem zs_lald (hx : p.tables.exec = Jvm.exec) (hb : c.code = cc) (h0 : 0 < Z.2.2 ∧ gh 0 = 0) (hK : va_K D cl tys s) {n n2 t0 len ni m2 : Nat} {k k2 ki l2 : Int} {fts : List zFT} {sg' : zS} (hd : decode cc pc = .ok (.laload, 1))
    (ht : zty Z env (n, k) = some (3, t0, len, fts)) (hi : zbds env cd (ni, ki) len = true) (hr : zaread Z (env, cd, L, st, fa, me) st (n, k) (ni, ki) (1, 0, 0) = some sg') (kk : zWP (zG Z D cl tys A ad gh wr H0 ws0 nu0 nL) (fun H locs pc ls st => W p l e R s m args below meth c H locs ce sl Q (F0 m pc ls st)) (pc + 1) sg') : zWP (zG Z D cl tys A ad gh wr H0 ws0 nu0 nL) (fun H locs pc ls st => W p l e R s m args below meth c H locs ce sl Q (F0 m pc ls st)) pc (env, cd, L, (1, ni, ki, m2, l2) :: (3, n, k, n2, k2) :: st, fa, me) := by
  intro nu ls stc ws H locs hG
  obtain ⟨hH, hN, hL, hS, hF, hM⟩ := hG
  match stc, hS with
  | v2 :: v1 :: stc, ⟨⟨x, hx', h2⟩, ⟨q, hq, h1⟩, hS⟩ =>
    subst hq
    subst hx'
    obtain ⟨e0, he0, g1, g2, g3⟩ := zty_ok ht hN.1 h1
    have hc := hH.2.2.2.1 e0 he0 q g1 g2
    rw [g3] at hc
    obtain ⟨cA, f, c1, c2⟩ := hc
    obtain ⟨b1, b2, b3⟩ := zbds_ok (i := (ni, ki)) hi (hN.z0 h0) hN.1 hN.2.1 h2
    obtain ⟨nu', h⟩ := zaread_ok (sg := (env, cd, L, st, fa, me)) (stc' := stc) (ft := (1, 0, 0)) h0 ⟨hH, hN, hL, hS, hF, hM⟩ hS h1 (i := (ni, ki)) h2 (show zfv ws q x.toInt.toNat = some (.long (f x.toNatClampNeg)) by unfold zfv; rw [c1]; exact if_pos b2) ⟨_, rfl⟩ hr
    exact va_lald hx hb hK hH.1 q t0 c1 c2 b1 hd (kk nu' ls _ ws H locs h)
theorem zF.aw {nu : List Int} {ws ws' : va_W} {a i : Nat × Int} {q : Nat} {x : Int} {av : zAV} {v : Value} (h : zF ad nu ws fa) (he : zEnv env nu) (ha : zV nu a.1 a.2 q) (hi : zV nu i.1 i.2 x) (hu : zUpd ws ws' q x.toNat v) (hv : zm ad nu av v) : zF ad nu ws' (zawF env fa a i av) := by
  unfold zawF
  by_cases hc : zcst env i = true
  · rw [if_pos hc]
    rw [zcst_ok hc he hi] at hu
    exact h.put he ha hu hv
  · rw [if_neg hc]
    exact h.putA he ha hu.1
theorem zawC_ok {nu : List Int} {a i : Nat × Int} {q : Nat} {x : Int} (h : zawC wr env a i = true) (he : zEnv env nu) (ha : zV nu a.1 a.2 q) (hi : zV nu i.1 i.2 x) : ∃ w ∈ wr, zcov w q x.toNat := by
  unfold zawC at h
  rcases Bool.or_eq_true_iff.mp h with h | h
  · exact zcovA_ok h he ha _
  · rw [Bool.and_eq_true] at h
    rw [zcst_ok h.1 he hi]
    exact zcovB_ok h.2 he ha
theorem zs_iast (hx : p.tables.exec = Jvm.exec) (hb : c.code = cc) (h0 : 0 < Z.2.2 ∧ gh 0 = 0) (hK : va_K D cl tys s) (hZ : zDj Z) {n n2 t0 len ni m2 nv m3 : Nat} {k k2 ki l2 kv l3 : Int} {fts : List zFT} {ft : zFT} (hd : decode cc pc = .ok (.iastore, 1))
    (ht : zty Z env (n, k) = some (1, t0, len, fts)) (hj : fts = [ft]) (hi : zbds env cd (ni, ki) len = true) (hw : zwt Z env cd (n, k) ft (1, nv, kv, m3, l3) = true) (hcv : zawC wr env (n, k) (ni, ki) = true)
    (kk : zWP (zG Z D cl tys A ad gh wr H0 ws0 nu0 nL) (fun H locs pc ls st => W p l e R s m args below meth c H locs ce sl Q (F0 m pc ls st)) (pc + 1) (env, cd, L, st, zawF env fa (n, k) (ni, ki) (1, nv, kv, m3, l3), me)) : zWP (zG Z D cl tys A ad gh wr H0 ws0 nu0 nL) (fun H locs pc ls st => W p l e R s m args below meth c H locs ce sl Q (F0 m pc ls st)) pc (env, cd, L, (1, nv, kv, m3, l3) :: (1, ni, ki, m2, l2) :: (3, n, k, n2, k2) :: st, fa, me) := by
  intro nu ls stc ws H locs hG
  obtain ⟨hH, hN, hL, hS, hF, hM⟩ := hG
  match stc, hS with
  | v3 :: v2 :: v1 :: stc, ⟨hv, ⟨x, hx', h2⟩, ⟨q, hq, h1⟩, hS⟩ =>
    have hft := zwt_ok (ad := ad) (a := (n, k)) h0 hN h1 hv hw
    obtain ⟨y, hy, h3⟩ := id hv
    subst hq
    subst hx'
    subst hy
    obtain ⟨e0, he0, g1, g2, g3⟩ := zty_ok ht hN.1 h1
    have hc := hH.2.2.2.1 e0 he0 q g1 g2
    rw [g3] at hc
    obtain ⟨cA, f, c1, c2, c3⟩ := hc
    obtain ⟨b1, b2, b3⟩ := zbds_ok (i := (ni, ki)) hi (hN.z0 h0) hN.1 hN.2.1 h2
    have hu := zUpd.int (x := y) c1 b2
    have hcell : zcell ad gh Z.2.1 tys (ws.set q (ad q, .inl (cA, len, .inl (upd f x.toNatClampNeg y)))) q e0.2.2 := by
      rw [g3]
      refine ⟨cA, _, zget_set c1, c2, fun j' ft' hj' hf' => ?_⟩
      rw [hj] at hf'
      cases hf'
      by_cases hjj : j' = x.toNatClampNeg
      · subst hjj
        simp only [upd, if_true]
        exact hft
      · simp only [upd, if_neg hjj]
        exact c3 j' ft hj' (by rw [hj]; rfl)
    exact va_iast hx hb hK hH.1 hH.2.1 hH.2.2.1 q t0 c1 c2 b1 hd (fun H1 locs1 p1 p2 p3 =>
      kk nu ls stc _ H1 locs1 ⟨⟨p1, p2, p3, zW.upd hZ hH.2.2.2.1 he0 g1 g2 hu.1 hcell (by rw [g3]; simp), zUn.upd hH.2.2.2.2 hu (zawC_ok (i := (ni, ki)) hcv hN.1 h1 h2)⟩, hN, hL, hS, zF.aw (i := (ni, ki)) (a := (n, k)) hF hN.1 h1 h2 hu hv, hM⟩)
/-- a byte: any int is cut to one -/
theorem zs_bast (hx : p.tables.exec = Jvm.exec) (hb : c.code = cc) (h0 : 0 < Z.2.2 ∧ gh 0 = 0) (hK : va_K D cl tys s) (hZ : zDj Z) {n n2 t0 len ni m2 nv m3 : Nat} {k k2 ki l2 kv l3 : Int} {fts : List zFT} (hd : decode cc pc = .ok (.bastore, 1))
    (ht : zty Z env (n, k) = some (2, t0, len, fts)) (hj : fts = [(0, -128, 127)]) (hi : zbds env cd (ni, ki) len = true) (hcv : zcovA wr env (n, k) = true)
    (kk : zWP (zG Z D cl tys A ad gh wr H0 ws0 nu0 nL) (fun H locs pc ls st => W p l e R s m args below meth c H locs ce sl Q (F0 m pc ls st)) (pc + 1) (env, cd, L, st, zfkA env fa (n, k), me)) : zWP (zG Z D cl tys A ad gh wr H0 ws0 nu0 nL) (fun H locs pc ls st => W p l e R s m args below meth c H locs ce sl Q (F0 m pc ls st)) pc (env, cd, L, (1, nv, kv, m3, l3) :: (1, ni, ki, m2, l2) :: (3, n, k, n2, k2) :: st, fa, me) := by
  intro nu ls stc ws H locs hG
  obtain ⟨hH, hN, hL, hS, hF, hM⟩ := hG
  match stc, hS with
  | v3 :: v2 :: v1 :: stc, ⟨⟨y, hy, h3⟩, ⟨x, hx', h2⟩, ⟨q, hq, h1⟩, hS⟩ =>
    subst hq
    subst hx'
    subst hy
    obtain ⟨e0, he0, g1, g2, g3⟩ := zty_ok ht hN.1 h1
    have hc := hH.2.2.2.1 e0 he0 q g1 g2
    rw [g3] at hc
    obtain ⟨cA, f, c1, c2, c3⟩ := hc
    obtain ⟨b1, b2, b3⟩ := zbds_ok (i := (ni, ki)) hi (hN.z0 h0) hN.1 hN.2.1 h2
    have hu := zUpd.int (x := vp_nar .byte y) c1 b2
    have hcell : zcell ad gh Z.2.1 tys (ws.set q (ad q, .inl (cA, len, .inl (upd f x.toNatClampNeg (vp_nar .byte y))))) q e0.2.2 := by
      rw [g3]
      refine ⟨cA, _, zget_set c1, c2, fun j' ft' hj' hf' => ?_⟩
      rw [hj] at hf'
      cases hf'
      by_cases hjj : j' = x.toNatClampNeg
      · subst hjj
        simp only [upd, if_true]
        rw [vp_nar_byte]
        obtain ⟨p, hp, g1, g2⟩ := zb_rng y
        rw [List.mem_singleton] at hp
        subst hp
        exact ⟨_, rfl, g1, g2⟩
      · simp only [upd, if_neg hjj]
        exact c3 j' _ hj' (by rw [hj]; rfl)
    exact va_bast hx hb hK hH.1 hH.2.1 hH.2.2.1 q t0 c1 c2 b1 hd (fun H1 locs1 p1 p2 p3 =>
      kk nu ls stc _ H1 locs1 ⟨⟨p1, p2, p3, zW.upd hZ hH.2.2.2.1 he0 g1 g2 hu.1 hcell (by rw [g3]; simp), zUn.upd hH.2.2.2.2 hu (zcovA_ok hcv hN.1 h1 _)⟩, hN, hL, hS, zF.putA (a := (n, k)) hF hN.1 h1 hu.1, hM⟩)
theorem zs_last (hx : p.tables.exec = Jvm.exec) (hb : c.code = cc) (h0 : 0 < Z.2.2 ∧ gh 0 = 0) (hK : va_K D cl tys s) (hZ : zDj Z) {n n2 t0 len ni m2 nv m3 : Nat} {k k2 ki l2 kv l3 : Int} {fts : List zFT} (hd : decode cc pc = .ok (.lastore, 1))
    (ht : zty Z env (n, k) = some (3, t0, len, fts)) (hi : zbds env cd (ni, ki) len = true) (hcv : zcovA wr env (n, k) = true)
    (kk : zWP (zG Z D cl tys A ad gh wr H0 ws0 nu0 nL) (fun H locs pc ls st => W p l e R s m args below meth c H locs ce sl Q (F0 m pc ls st)) (pc + 1) (env, cd, L, st, zfkA env fa (n, k), me)) : zWP (zG Z D cl tys A ad gh wr H0 ws0 nu0 nL) (fun H locs pc ls st => W p l e R s m args below meth c H locs ce sl Q (F0 m pc ls st)) pc (env, cd, L, (2, nv, kv, m3, l3) :: (1, ni, ki, m2, l2) :: (3, n, k, n2, k2) :: st, fa, me) := by
  intro nu ls stc ws H locs hG
  obtain ⟨hH, hN, hL, hS, hF, hM⟩ := hG
  match stc, hS with
  | v3 :: v2 :: v1 :: stc, ⟨⟨y, hy, h3⟩, ⟨x, hx', h2⟩, ⟨q, hq, h1⟩, hS⟩ =>
    subst hq
    subst hx'
    subst hy
    obtain ⟨e0, he0, g1, g2, g3⟩ := zty_ok ht hN.1 h1
    have hc := hH.2.2.2.1 e0 he0 q g1 g2
    rw [g3] at hc
    obtain ⟨cA, f, c1, c2⟩ := hc
    obtain ⟨b1, b2, b3⟩ := zbds_ok (i := (ni, ki)) hi (hN.z0 h0) hN.1 hN.2.1 h2
    have hu := zUpd.lng (x := y) c1 b2
    have hcell : zcell ad gh Z.2.1 tys (ws.set q (ad q, .inl (cA, len, .inr (.inl (vp_updL f x.toNatClampNeg y))))) q e0.2.2 := by
      rw [g3]
      exact ⟨cA, _, zget_set c1, c2⟩
    exact va_last hx hb hK hH.1 hH.2.1 hH.2.2.1 q t0 c1 c2 b1 hd (fun H1 locs1 p1 p2 p3 =>
      kk nu ls stc _ H1 locs1 ⟨⟨p1, p2, p3, zW.upd hZ hH.2.2.2.1 he0 g1 g2 hu.1 hcell (by rw [g3]; simp), zUn.upd hH.2.2.2.2 hu (zcovA_ok hcv hN.1 h1 _)⟩, hN, hL, hS, zF.putA (a := (n, k)) hF hN.1 h1 hu.1, hM⟩)
/-- an element that is a cell: its number follows its place -/
theorem zs_aald (hx : p.tables.exec = Jvm.exec) (hb : c.code = cc) (h0 : 0 < Z.2.2 ∧ gh 0 = 0) (hK : va_K D cl tys s) {n n2 t0 len ni m2 tg : Nat} {k k2 ki l2 : Int} {fts : List zFT} {ft : zFT} (hd : decode cc pc = .ok (.aaload, 1)) (hg : tg = 4 ∨ tg = 5)
    (ht : zty Z env (n, k) = some (tg, t0, len, fts)) (hj : fts[0]? = some ft) (hi : zbds env cd (ni, ki) len = true) (kk : zWP (zG Z D cl tys A ad gh wr H0 ws0 nu0 nL) (fun H locs pc ls st => W p l e R s m args below meth c H locs ce sl Q (F0 m pc ls st)) (pc + 1) (env, cd, L, (3, ni, ki + (ft.2.1.toNat : Int), 0, 0) :: st, fa, me)) : zWP (zG Z D cl tys A ad gh wr H0 ws0 nu0 nL) (fun H locs pc ls st => W p l e R s m args below meth c H locs ce sl Q (F0 m pc ls st)) pc (env, cd, L, (1, ni, ki, m2, l2) :: (3, n, k, n2, k2) :: st, fa, me) := by
  intro nu ls stc ws H locs hG
  obtain ⟨hH, hN, hL, hS, hF, hM⟩ := hG
  match stc, hS with
  | v2 :: v1 :: stc, ⟨⟨x, hx', h2⟩, ⟨q, hq, h1⟩, hS⟩ =>
    subst hq
    subst hx'
    obtain ⟨e0, he0, g1, g2, g3⟩ := zty_ok ht hN.1 h1
    have hc := hH.2.2.2.1 e0 he0 q g1 g2
    rw [g3] at hc
    obtain ⟨b1, b2, b3⟩ := zbds_ok (i := (ni, ki)) hi (hN.z0 h0) hN.1 hN.2.1 h2
    have hz : zV nu ni (ki + (ft.2.1.toNat : Int)) ((ft.2.1.toNat + x.toNatClampNeg : Nat) : Int) := by
      obtain ⟨u, hu, eu⟩ := h2
      exact ⟨u, hu, by omega⟩
    rcases hg with rfl | rfl
    · obtain ⟨cA, C, f, c1, c2, c3⟩ := hc
      refine va_aldq hx hb hK hH.1 q t0 c1 c2 b1 hd ?_
      rw [c3 _ ft b2 hj]
      exact kk nu ls _ ws H locs ⟨hH, hN, hL, ⟨⟨_, rfl, hz⟩, hS⟩, hF, hM⟩
    · obtain ⟨cA, f, c1, c2, c3⟩ := hc
      refine W.aald (v := va_rf (f x.toNatClampNeg)) (ty := .array .long) hx hb (hH.1 q _ c1) ((hK.2 t0 _ c2).1 len (fun j => va_rf (f j))) rfl (fun q => by cases q) (by show ¬ (x < 0 ∨ (arrV _ _ _).slots.size ≤ _); rw [arrV_size]; exact b1) (by show (arrV _ _ _).slots[_]? = _; rw [arrV_read _ _ b2]) rfl rfl hd ?_
      rw [c3 _ ft b2 hj]
      exact kk nu ls _ ws H locs ⟨hH, hN, hL, ⟨⟨_, rfl, hz⟩, hS⟩, hF, hM⟩
end ZA
