/-! CALLS OF EACH SORT, RETURNS, SWITCHES -/
theorem zall.split {M : zAV → Value → Prop} : ∀ {as bs : List zAV} {vs : List Value}, zall M (as ++ bs) vs → ∃ v1 v2, vs = v1 ++ v2 ∧ zall M as v1 ∧ zall M bs v2
  | [], bs, vs, h => ⟨[], vs, rfl, trivial, h⟩
  | a :: as, bs, v :: vs, h => by
    obtain ⟨v1, v2, e, h1, h2⟩ := zall.split (as := as) h.2
    exact ⟨v :: v1, v2, by rw [e]; rfl, ⟨h.1, h1⟩, h2⟩
theorem zall.rev {M : zAV → Value → Prop} : ∀ {as : List zAV} {vs : List Value}, zall M as vs → zall M as.reverse vs.reverse
  | [], [], _ => trivial
  | a :: as, v :: vs, h => by
    rw [List.reverse_cons, List.reverse_cons]
    exact h.2.rev.app ⟨h.1, trivial⟩
theorem zall.cats {ad : Nat → Nat} {nu : List Int} : ∀ {as : List zAV} {vs : List Value}, zall (zm ad nu) as vs → (∀ a ∈ as, a.1 ≠ 0) → (vs.map fun v => v.category).sum = (as.map zcat).sum
  | [], [], _, _ => rfl
  | a :: as, v :: vs, h, h0 => by
    rw [List.map_cons, List.map_cons, List.sum_cons, List.sum_cons, h.2.cats (fun b hb => h0 b (List.mem_cons_of_mem _ hb)), zcat_ok h.1 (h0 a List.mem_cons_self)]
/-- what the tables say of a call: plain, virtual -/
def zLkV (Ts : List Cond) (own : String) (idx : Nat) (K : zK) (n : Nat) : Prop := Cond.methodLink own idx K.1 ∈ Ts ∧ Cond.instanceMethod K.1 ∈ Ts ∧ Cond.selects K.1.cls K.1 K.1 ∈ Ts ∧ Cond.initialized K.1.cls ∈ Ts ∧ Cond.code K.1 K.2.1 K.2.2.1 K.2.2.2.1 ∈ Ts ∧
  K.1.cls ≠ "java/lang/invoke/MethodHandle" ∧ K.1.cls ≠ "java/lang/invoke/VarHandle" ∧ (parseMethodDescriptor K.1.desc).map (fun d => d.parameters.length) = some n
/-- static: its link is plain, or a nest mate's, which the read-only part says -/
def zLkS (Ts : List Cond) (K : zK) (n : Nat) : Prop := Cond.static K.1 ∈ Ts ∧ Cond.initialized K.1.cls ∈ Ts ∧ Cond.code K.1 K.2.1 K.2.2.1 K.2.2.2.1 ∈ Ts ∧
  K.1.cls ≠ "java/lang/invoke/MethodHandle" ∧ K.1.cls ≠ "java/lang/invoke/VarHandle" ∧ (parseMethodDescriptor K.1.desc).map (fun d => d.parameters.length) = some n
theorem zgoodIn {Ts : List Cond} (hTg : ∀ w ∈ Ts, goodWord w = true) {ws : List Cond} (h : ∀ w ∈ ws, w ∈ Ts) : GoodIn Ts ws := fun w hw => ⟨h w hw, good_of_word (hTg w (h w hw))⟩
section ZC2
variable {p : Program} {l : Launch} {e : Env} {R : Room} {s : State} {m : MethodId} {args : Array Value} {below : List Frame} {meth : Method} {c : Code} {Q : State → Prop} {cc : ByteArray} {pc ce sl : Nat}
variable {Z : zZ} {D : va_G} {cl : List vw_C} {tys : List (ClassId × FieldType)} {A : Nat → Prop} {ad : Nat → Nat} {gh : Nat → Int} {wr : zWr} {H0 : Heap} {ws0 : va_W} {nu0 : List Int} {nL : Nat}
variable {env : List zIv} {cd : List zCd} {L st : List zAV} {fa : List zFa} {me : List zMe}
variable {Ts : List Cond} {RO : zRO} {K : zK} {own : String} {nuE : List Int} {alts : List zTm}
theorem zent_ok {nu : List Int} {ls : Array Slot} {stc As : List Value} {ws : va_W} {H : Heap} {locs : List Loc} {avs st0 : List zAV} {ins : List (Nat × Int)} (h0 : 0 < Z.2.2 ∧ gh 0 = 0) (hG : zG Z D cl tys A ad gh wr H0 ws0 nu0 nL (env, cd, L, st0, fa, me) nu ls stc ws H locs) (hA : zall (zm ad nu) avs As) (ha : ∀ a ∈ avs, a.1 ≠ 0) (hl : (zlay avs).length ≤ K.2.2.1)
    (hin : zinst (env, cd, zlayP avs K.2.2.1, [], fa, me) (zpre Z.2.2) K.2.2.2.2.2.1.1 = some ins) (hm : zmB (env, cd, zlayP avs K.2.2.1, [], fa, me) ins (zKT K) = true) : ∃ nu', zIn nu ins nu' ∧ zEnt Z ad gh tys K ws nu' As := by
  obtain ⟨hH, hN, hL, hS, hF, hM⟩ := hG
  have hL2 := zlayP_ok hA ha hl
  have hGl : Z.2.2 ≤ nu.length := by
    rcases Nat.lt_or_ge nu.length Z.2.2 with q | q
    · have h1 := hN.2.2.1 _ q
      have h2 := (List.getElem?_eq_some_iff.mp h1).1
      omega
    · exact q
  obtain ⟨t, ht⟩ := zinst_ok (sg := (env, cd, zlayP avs K.2.2.1, [], fa, me)) (stc := []) (hN.z0 h0) hL2 trivial hF _ _ _ _ (zpre_ok hGl) hin
  obtain ⟨g1, g2, g3, g4, g5, g6⟩ := zmB_ok (sg := (env, cd, zlayP avs K.2.2.1, [], fa, me)) (stc := []) hm (hN.z0 h0) hN.1 hN.2.1 hL2 trivial hF ht
  refine ⟨_, ht, hH.2.2.2.1, g1, g2, fun g hg => ?_, g3, ?_, g5, ?_⟩
  · have h1 := hN.2.2.1 g hg
    rw [List.getElem?_append_left (by rw [List.length_take]; omega), List.getElem?_take_of_lt hg]
    exact h1
  · have := g4.len
    exact List.length_eq_zero_iff.mp this
  · unfold zmB at hm
    rw [Bool.and_eq_true, Bool.and_eq_true, Bool.and_eq_true, Bool.and_eq_true, Bool.and_eq_true] at hm
    exact List.isEmpty_iff.mp hm.2.2.2.2.2
theorem zs_callV (hx : p.tables.exec = Jvm.exec) (hb : c.code = cc) (h0 : 0 < Z.2.2 ∧ gh 0 = 0) (hcs : ce ≤ R.cells ∧ sl ≤ R.slots) (hml : c.maxLocals = nL) (hH0 : H0 = s.heap) (hown : s.vm.findClass own = some m.cls) (hts : ∀ w ∈ Ts, w.before args s = true) (hTg : ∀ w ∈ Ts, goodWord w = true) (hK : va_K D cl tys s) (hR : zROk RO) (hro : RO ad A s s.heap) (hM : zMet l Ts cl Z RO K)
    {idx n n2 ci x N : Nat} {k k2 : Int} {T : u_T} {fts : List zFT} {avs : List zAV} {ins : List (Nat × Int)} (hd : decode cc pc = .ok (.invokevirtual idx, 3)) (hlk : zLkV Ts own idx K avs.length) (ht : zty Z env (n, k) = some (0, ci, x, fts)) (hcl : cl[ci]? = some (K.1.cls, T, N)) (ha : ∀ a ∈ avs, a.1 ≠ 0) (hl : (zlay ((3, n, k, n2, k2) :: avs)).length ≤ K.2.2.1)
    (hin : zinst (env, cd, zlayP ((3, n, k, n2, k2) :: avs) K.2.2.1, [], fa, me) (zpre Z.2.2) K.2.2.2.2.2.1.1 = some ins) (hm : zmB (env, cd, zlayP ((3, n, k, n2, k2) :: avs) K.2.2.1, [], fa, me) ins (zKT K) = true)
    (hroom : K.2.2.2.2.1.1 + 1 ≤ R.frames ∧ 8 + (K.2.2.1 + 11) + K.2.2.2.2.1.2 ≤ R.locals) (hst : (st.map zcat).sum ≤ 8) (hst0 : ∀ a ∈ st, a.1 ≠ 0) (h4 : ∀ alt ∈ zKA K, zno4 alt.2 = true) (hw : zwrB wr (zKW K) = true)
    (kk : ∀ alt ∈ zKA K, zalB env ins alt.2.1 = true → zWP (zG Z D cl tys A ad gh wr H0 ws0 nu0 nL) (fun H locs pc ls st => W p l e R s m args below meth c H locs ce sl Q (F0 m pc ls st)) (pc + 3) (zpost (env, cd, L, st, fa, me) st ins (zKW K) alt.2)) : zWP (zG Z D cl tys A ad gh wr H0 ws0 nu0 nL) (fun H locs pc ls st => W p l e R s m args below meth c H locs ce sl Q (F0 m pc ls st)) pc (env, cd, L, avs.reverse ++ (3, n, k, n2, k2) :: st, fa, me) := by
  intro nu ls stc ws H locs hG
  obtain ⟨hH, hN, hL, hS, hF, hM2⟩ := hG
  obtain ⟨v1, v2, rfl, hS1, hS2⟩ := hS.split
  match v2, hS2 with
  | v0 :: restc, ⟨hv0, hS3⟩ =>
    have hS1r := hS1.rev
    rw [List.reverse_reverse] at hS1r
    have hG2 : zG Z D cl tys A ad gh wr H0 ws0 nu0 nL (env, cd, L, st, fa, me) nu ls restc ws H locs := ⟨hH, hN, hL, hS3, hF, hM2⟩
    have ha2 : ∀ a ∈ (3, n, k, n2, k2) :: avs, a.1 ≠ 0 := fun a h => by
      rcases List.mem_cons.mp h with h | h
      · rw [h]; simp
      · exact ha a h
    obtain ⟨nu', hi, hE⟩ := zent_ok (K := K) (avs := (3, n, k, n2, k2) :: avs) (As := v0 :: v1.reverse) h0 hG2 ⟨hv0, hS1r⟩ ha2 hl hin hm
    obtain ⟨q, rfl, hq⟩ := hv0
    obtain ⟨e0, he0, g1, g2, g3⟩ := zty_ok ht hN.1 hq
    have hc := hH.2.2.2.1 e0 he0 q g1 g2
    rw [g3] at hc
    obtain ⟨fs, c1, -⟩ := hc
    obtain ⟨l1, l2, l3, l4, l5, l6, l7, l8⟩ := hlk
    have hgd : GoodIn Ts (wsV own idx K.1.cls K.1 (Cond.code K.1 K.2.1 K.2.2.1 K.2.2.2.1 :: Ts)) := zgoodIn hTg (fun w hw => by
      unfold wsV at hw
      rcases List.mem_append.mp hw with hw | hw
      · simp only [List.mem_cons, List.not_mem_nil, or_false] at hw
        rcases hw with rfl | rfl | rfl | rfl
        · exact l1
        · exact l2
        · exact l3
        · exact l4
      · rcases List.mem_cons.mp hw with rfl | hw
        · exact l5
        · exact hw)
    have hsum : (restc.map fun v => v.category).sum ≤ 8 := by rw [hS3.cats hst0]; exact hst
    refine zs_run (ins := ins) (a := (Value.ref (ad q) :: v1.reverse).toArray) rfl hG2 hi ?_ h4 hw kk
    refine va_runV (As := v1.reverse) (rest := restc) (n := avs.length) ⟨hx, hb, hml, hown, hts⟩ (hM D tys A ad gh ws nu' (.ref (ad q) :: v1.reverse) h0 hE hH.2.1) (cwV avs.length hts hgd rfl rfl rfl ⟨rfl, l6, l7, l8⟩ hroom)
      ⟨zPc.blind hR, va_recv hK hH.1 hcl c1, fun U hU hW => ⟨rfl, by rw [hU]; exact hH.1, va_K.moved hW.alike hK, ?_⟩⟩ rfl (by rw [List.length_reverse]; have := hS1.len; rw [List.length_reverse] at this; omega) hL.1 (by rw [List.reverse_reverse]) (lv_room hsum) hd ⟨hcs.1, hcs.2⟩
    rw [hU]
    refine hR.1 ad A s U H hW (hR.2.2 ad A s s.heap H (fun a h1 h2 => ?_) hro)
    have := hH.2.2.1
    rw [hH0] at this
    exact this.2.1 a h1 h2
theorem zs_callS (hx : p.tables.exec = Jvm.exec) (hb : c.code = cc) (h0 : 0 < Z.2.2 ∧ gh 0 = 0) (hcs : ce ≤ R.cells ∧ sl ≤ R.slots) (hml : c.maxLocals = nL) (hH0 : H0 = s.heap) (hown : s.vm.findClass own = some m.cls) (hts : ∀ w ∈ Ts, w.before args s = true) (hTg : ∀ w ∈ Ts, goodWord w = true) (hK : va_K D cl tys s) (hR : zROk RO) (hro : RO ad A s s.heap) (hM : zMet l Ts cl Z RO K)
    {idx : Nat} {avs : List zAV} {ins : List (Nat × Int)} (hd : decode cc pc = .ok (.invokestatic idx, 3)) (hlk : zLkS Ts K avs.length) (hln : (Cond.methodLink own idx K.1) ∈ Ts ∨ ∃ host, va_Nw (Cond.methodLinkNest own idx K.1 host) s) (ha : ∀ a ∈ avs, a.1 ≠ 0) (hl : (zlay avs).length ≤ K.2.2.1)
    (hin : zinst (env, cd, zlayP avs K.2.2.1, [], fa, me) (zpre Z.2.2) K.2.2.2.2.2.1.1 = some ins) (hm : zmB (env, cd, zlayP avs K.2.2.1, [], fa, me) ins (zKT K) = true)
    (hroom : K.2.2.2.2.1.1 + 1 ≤ R.frames ∧ 8 + (K.2.2.1 + 11) + K.2.2.2.2.1.2 ≤ R.locals) (hst : (st.map zcat).sum ≤ 8) (hst0 : ∀ a ∈ st, a.1 ≠ 0) (h4 : ∀ alt ∈ zKA K, zno4 alt.2 = true) (hw : zwrB wr (zKW K) = true)
    (kk : ∀ alt ∈ zKA K, zalB env ins alt.2.1 = true → zWP (zG Z D cl tys A ad gh wr H0 ws0 nu0 nL) (fun H locs pc ls st => W p l e R s m args below meth c H locs ce sl Q (F0 m pc ls st)) (pc + 3) (zpost (env, cd, L, st, fa, me) st ins (zKW K) alt.2)) : zWP (zG Z D cl tys A ad gh wr H0 ws0 nu0 nL) (fun H locs pc ls st => W p l e R s m args below meth c H locs ce sl Q (F0 m pc ls st)) pc (env, cd, L, avs.reverse ++ st, fa, me) := by
  intro nu ls stc ws H locs hG
  obtain ⟨hH, hN, hL, hS, hF, hM2⟩ := hG
  obtain ⟨v1, restc, rfl, hS1, hS3⟩ := hS.split
  have hS1r := hS1.rev
  rw [List.reverse_reverse] at hS1r
  have hG2 : zG Z D cl tys A ad gh wr H0 ws0 nu0 nL (env, cd, L, st, fa, me) nu ls restc ws H locs := ⟨hH, hN, hL, hS3, hF, hM2⟩
  obtain ⟨nu', hi, hE⟩ := zent_ok (K := K) (avs := avs) (As := v1.reverse) h0 hG2 hS1r ha hl hin hm
  obtain ⟨l3, l4, l5, l6, l7, l8⟩ := hlk
  have hgd : GoodIn Ts (Cond.code K.1 K.2.1 K.2.2.1 K.2.2.2.1 :: Ts) := zgoodIn hTg (fun w hw => by
    rcases List.mem_cons.mp hw with rfl | hw
    · exact l5
    · exact hw)
  have hsum : (restc.map fun v => v.category).sum ≤ 8 := by rw [hS3.cats hst0]; exact hst
  have hpre : PreS s H (zPc D cl tys A ad RO ws v1.reverse) v1.reverse := ⟨zPc.blind hR, fun U hU hW => ⟨rfl, by rw [hU]; exact hH.1, va_K.moved hW.alike hK, by
    rw [hU]
    refine hR.1 ad A s U H hW (hR.2.2 ad A s s.heap H (fun a h1 h2 => ?_) hro)
    have := hH.2.2.1
    rw [hH0] at this
    exact this.2.1 a h1 h2⟩⟩
  have hlen : v1.reverse.length = avs.length := by rw [List.length_reverse]; have := hS1.len; rw [List.length_reverse] at this; omega
  refine zs_run (ins := ins) (a := v1.reverse.toArray) rfl hG2 hi ?_ h4 hw kk
  rcases hln with hln | ⟨host, hln⟩
  · exact va_runS (As := v1.reverse) (rest := restc) (n := avs.length) ⟨hx, hb, hml, hown, hts⟩ (hM D tys A ad gh ws nu' v1.reverse h0 hE hH.2.1) ⟨callB_of avs.length hts hgd rfl rfl rfl (hts _ l4) (hts _ hln) ⟨l6, l7, l8⟩ hroom, hts _ l3⟩ hpre rfl hlen hL.1 (by rw [List.reverse_reverse]) (lv_room hsum) hd ⟨hcs.1, hcs.2⟩
  · exact va_runSN (As := v1.reverse) (rest := restc) (n := avs.length) ⟨hx, hb, hml, hown, hts⟩ (hM D tys A ad gh ws nu' v1.reverse h0 hE hH.2.1) ⟨va_cnB avs.length hts hgd rfl rfl rfl hln (hts _ l4) ⟨l6, l7, l8⟩ hroom, hts _ l3, trivial⟩ hpre rfl hlen hL.1 (by rw [List.reverse_reverse]) (lv_room hsum) hd ⟨hcs.1, hcs.2⟩
/-- an exit is met -/
theorem zret_ok {nu : List Int} {ls : Array Slot} {stc : List Value} {ws : va_W} {H : Heap} {locs : List Loc} {sv : List zAV} {vo : Option Value} {alt : zTm} {ins : List (Nat × Int)} {t : State} {a : Array Value} (h0 : 0 < Z.2.2 ∧ gh 0 = 0) (hH0 : H0 = s.heap) (hE : ∃ u, nu0 = nuE ++ u) (hG : zG Z D cl tys A ad gh wr H0 ws0 nu0 nL (env, cd, L, st, fa, me) nu ls stc ws H locs) (hv : zall (zm ad nu) sv vo.toList)
    (hal : alt ∈ alts) (hin : zinst (env, cd, [], sv, fa, me) (zpre nuE.length) alt.1 = some ins) (hm : zmB (env, cd, [], sv, fa, me) ins alt.2 = true) (ht : t.heap = H) : zQc Z D cl tys A ad gh alts wr ws0 nuE a s (.returned vo) t := by
  obtain ⟨hH, hN, hL, hS, hF, hM⟩ := hG
  obtain ⟨u, rfl⟩ := hE
  obtain ⟨t0, rfl⟩ := hN.2.2.2
  have hL2 : zL ad (nuE ++ u ++ t0) 0 #[] [] := ⟨rfl, rfl, ⟨fun i v h => by simp at h, fun i h => by simp at h⟩, fun i a h => by simp at h⟩
  have hle : nuE.length ≤ (nuE ++ u ++ t0).length := by rw [List.length_append, List.length_append]; omega
  obtain ⟨t1, h1⟩ := zinst_ok (sg := (env, cd, [], sv, fa, me)) (hN.z0 h0) hL2 hv hF _ _ _ _ (zpre_ok hle) hin
  obtain ⟨g1, g2, g3, g4, g5, g6⟩ := zmB_ok (sg := (env, cd, [], sv, fa, me)) hm (hN.z0 h0) hN.1 hN.2.1 hL2 hv hF h1
  have e : (nuE ++ u ++ t0).take nuE.length = nuE := by rw [List.append_assoc, List.take_left']; rfl
  rw [e] at g1 g2 g4 g5
  have hS2 := hH.2.2.1
  rw [hH0] at hS2
  exact ⟨hS2.F ht, alt, vo, ws, hal, rfl, by rw [ht]; exact hH.1, hH.2.1, hH.2.2.2.1, hH.2.2.2.2, t1, g1, g2, g4, g5⟩
end ZC2
section ZR
variable {p : Program} {l : Launch} {e : Env} {R : Room} {s : State} {m : MethodId} {args : Array Value} {below : List Frame} {meth : Method} {c : Code} {cc : ByteArray} {pc : Nat}
variable {Z : zZ} {D : va_G} {cl : List vw_C} {tys : List (ClassId × FieldType)} {A : Nat → Prop} {ad : Nat → Nat} {gh : Nat → Int} {wr : zWr} {H0 : Heap} {ws0 : va_W} {nu0 : List Int} {nL : Nat}
variable {env : List zIv} {cd : List zCd} {L st : List zAV} {fa : List zFa} {me : List zMe} {nuE : List Int} {alts : List zTm}
theorem zs_iret (hx : p.tables.exec = Jvm.exec) (hb : c.code = cc) (h0 : 0 < Z.2.2 ∧ gh 0 = 0) (hlocks : meth.locks = false) (hH0 : H0 = s.heap) (hE : ∃ u, nu0 = nuE ++ u) (hr : meth.sig.returnType = some .int) {a : zAV} {alt : zTm} {ins : List (Nat × Int)} (h1 : a.1 = 1) (hal : alt ∈ alts) (hin : zinst (env, cd, [], [a], fa, me) (zpre nuE.length) alt.1 = some ins) (hm : zmB (env, cd, [], [a], fa, me) ins alt.2 = true) (hd : decode cc pc = .ok (.ireturn, 1)) :
    zWP (zG Z D cl tys A ad gh wr H0 ws0 nu0 nL) (fun H locs pc ls st => W p l e R s m args below meth c H locs 0 0 (MQ below (zQc Z D cl tys A ad gh alts wr ws0 nuE) args s 0 0 A) (F0 m pc ls st)) pc (env, cd, L, [a], fa, me) := by
  intro nu ls stc ws H locs hG
  obtain ⟨tg, n, k, n2, k2⟩ := a
  have h1 : tg = 1 := h1
  subst h1
  obtain ⟨hH, hN, hL, hS, hF, hM⟩ := id hG
  match stc, hS with
  | [v], ⟨⟨x, hv, hz⟩, _⟩ =>
    subst hv
    exact W.iret hx hb hr (fun t ht _ => zret_ok (sv := [(1, n, k, n2, k2)]) (vo := some (.int x)) h0 hH0 hE hG ⟨⟨x, rfl, hz⟩, trivial⟩ hal hin hm ht) hH.2.2.1.2.2 hd hlocks
theorem zs_zret (hx : p.tables.exec = Jvm.exec) (hb : c.code = cc) (h0 : 0 < Z.2.2 ∧ gh 0 = 0) (hlocks : meth.locks = false) (hH0 : H0 = s.heap) (hE : ∃ u, nu0 = nuE ++ u) (hr : meth.sig.returnType = some .boolean) {n n2 : Nat} {k k2 : Int} {alt : zTm} {ins : List (Nat × Int)} (h1 : zin env (n, k) [(0, 1)] = true) (hal : alt ∈ alts) (hin : zinst (env, cd, [], [(1, n, k, n2, k2)], fa, me) (zpre nuE.length) alt.1 = some ins) (hm : zmB (env, cd, [], [(1, n, k, n2, k2)], fa, me) ins alt.2 = true) (hd : decode cc pc = .ok (.ireturn, 1)) :
    zWP (zG Z D cl tys A ad gh wr H0 ws0 nu0 nL) (fun H locs pc ls st => W p l e R s m args below meth c H locs 0 0 (MQ below (zQc Z D cl tys A ad gh alts wr ws0 nuE) args s 0 0 A) (F0 m pc ls st)) pc (env, cd, L, [(1, n, k, n2, k2)], fa, me) := by
  intro nu ls stc ws H locs hG
  obtain ⟨hH, hN, hL, hS, hF, hM⟩ := id hG
  match stc, hS with
  | [v], ⟨hv, _⟩ =>
    have hf := zfit_bool hv hN.1 h1
    obtain ⟨x, hv', hz⟩ := hv
    subst hv'
    exact W.zret hx hb hr hf.1 (fun t ht _ => zret_ok (sv := [(1, n, k, n2, k2)]) (vo := some (.int x)) h0 hH0 hE hG ⟨⟨x, rfl, hz⟩, trivial⟩ hal hin hm ht) hH.2.2.1.2.2 hd hlocks
theorem zs_lret (hx : p.tables.exec = Jvm.exec) (hb : c.code = cc) (h0 : 0 < Z.2.2 ∧ gh 0 = 0) (hlocks : meth.locks = false) (hH0 : H0 = s.heap) (hE : ∃ u, nu0 = nuE ++ u) (hr : meth.sig.returnType = some .long) {n n2 : Nat} {k k2 : Int} {alt : zTm} {ins : List (Nat × Int)} (hal : alt ∈ alts) (hin : zinst (env, cd, [], [(2, n, k, n2, k2)], fa, me) (zpre nuE.length) alt.1 = some ins) (hm : zmB (env, cd, [], [(2, n, k, n2, k2)], fa, me) ins alt.2 = true) (hd : decode cc pc = .ok (.lreturn, 1)) :
    zWP (zG Z D cl tys A ad gh wr H0 ws0 nu0 nL) (fun H locs pc ls st => W p l e R s m args below meth c H locs 0 0 (MQ below (zQc Z D cl tys A ad gh alts wr ws0 nuE) args s 0 0 A) (F0 m pc ls st)) pc (env, cd, L, [(2, n, k, n2, k2)], fa, me) := by
  intro nu ls stc ws H locs hG
  obtain ⟨hH, hN, hL, hS, hF, hM⟩ := id hG
  match stc, hS with
  | [v], ⟨⟨x, hv, hz⟩, _⟩ =>
    subst hv
    exact W.lret hx hb hr (fun t ht _ => zret_ok (sv := [(2, n, k, n2, k2)]) (vo := some (.long x)) h0 hH0 hE hG ⟨⟨x, rfl, hz⟩, trivial⟩ hal hin hm ht) hH.2.2.1.2.2 hd hlocks
theorem zs_vret (hx : p.tables.exec = Jvm.exec) (hb : c.code = cc) (h0 : 0 < Z.2.2 ∧ gh 0 = 0) (hlocks : meth.locks = false) (hH0 : H0 = s.heap) (hE : ∃ u, nu0 = nuE ++ u) (hr : meth.sig.returnType = none) {alt : zTm} {ins : List (Nat × Int)} (hal : alt ∈ alts) (hin : zinst (env, cd, [], [], fa, me) (zpre nuE.length) alt.1 = some ins) (hm : zmB (env, cd, [], [], fa, me) ins alt.2 = true) (hd : decode cc pc = .ok (.return_, 1)) :
    zWP (zG Z D cl tys A ad gh wr H0 ws0 nu0 nL) (fun H locs pc ls st => W p l e R s m args below meth c H locs 0 0 (MQ below (zQc Z D cl tys A ad gh alts wr ws0 nuE) args s 0 0 A) (F0 m pc ls st)) pc (env, cd, L, [], fa, me) := by
  intro nu ls stc ws H locs hG
  obtain ⟨hH, hN, hL, hS, hF, hM⟩ := id hG
  match stc, hS with
  | [], _ => exact W.vret hx hb hr (fun t ht _ => zret_ok (sv := []) (vo := none) h0 hH0 hE hG trivial hal hin hm ht) hH.2.2.1.2.2 hd hlocks
end ZR
section ZSW
variable {p : Program} {l : Launch} {e : Env} {R : Room} {s : State} {m : MethodId} {args : Array Value} {below : List Frame} {meth : Method} {c : Code} {Q : State → Prop} {cc : ByteArray} {pc ce sl : Nat}
variable {Z : zZ} {D : va_G} {cl : List vw_C} {tys : List (ClassId × FieldType)} {A : Nat → Prop} {ad : Nat → Nat} {gh : Nat → Int} {wr : zWr} {H0 : Heap} {ws0 : va_W} {nu0 : List Int} {nL : Nat}
variable {env : List zIv} {cd : List zCd} {L st : List zAV} {fa : List zFa} {me : List zMe}
theorem zs_tsw (hx : p.tables.exec = Jvm.exec) (hb : c.code = cc) (h0 : 0 < Z.2.2 ∧ gh 0 = 0) {n1 a1 len dt : Nat} {k1 b1 dflt lo hi : Int} {offs : Array Int} (hd : decode cc pc = .ok (.tableswitch dflt lo hi offs, len)) (hsz : (offs.toList.length : Int) = hi - lo + 1) (hdt : (pc : Int) + dflt = (dt : Int))
    (kl : zWP (zG Z D cl tys A ad gh wr H0 ws0 nu0 nL) (fun H locs pc ls st => W p l e R s m args below meth c H locs ce sl Q (F0 m pc ls st)) dt ((zas 2 env cd (n1, k1) (0, lo)).1, (zas 2 env cd (n1, k1) (0, lo)).2, L, st, fa, me)) (kh : zWP (zG Z D cl tys A ad gh wr H0 ws0 nu0 nL) (fun H locs pc ls st => W p l e R s m args below meth c H locs ce sl Q (F0 m pc ls st)) dt ((zas 4 env cd (n1, k1) (0, hi)).1, (zas 4 env cd (n1, k1) (0, hi)).2, L, st, fa, me))
    (ki : ∀ (i : Nat) (off : Int), offs.toList[i]? = some off → ∃ tgt : Nat, (pc : Int) + off = (tgt : Int) ∧ zWP (zG Z D cl tys A ad gh wr H0 ws0 nu0 nL) (fun H locs pc ls st => W p l e R s m args below meth c H locs ce sl Q (F0 m pc ls st)) tgt ((zas 0 env cd (n1, k1) (0, lo + i)).1, (zas 0 env cd (n1, k1) (0, lo + i)).2, L, st, fa, me)) : zWP (zG Z D cl tys A ad gh wr H0 ws0 nu0 nL) (fun H locs pc ls st => W p l e R s m args below meth c H locs ce sl Q (F0 m pc ls st)) pc (env, cd, L, (1, n1, k1, a1, b1) :: st, fa, me) := by
  intro nu ls stc ws H locs hG
  obtain ⟨hH, hN, hL, hS, hF, hM⟩ := hG
  match stc, hS with
  | v1 :: stc, ⟨⟨x, hx', h1⟩, hS⟩ =>
    subst hx'
    by_cases hlo : x.toInt < lo
    · have z := zas_ok (op := 2) (a := (n1, k1)) (b := (0, lo)) hN.1 hN.2.1 h1 (hN.cst h0 lo) hlo
      exact lv_tableOut hx hb hd (Or.inl hlo) hdt (kl nu ls _ ws H locs ⟨hH, ⟨z.1, z.2, hN.2.2⟩, hL, hS, hF, hM⟩)
    · by_cases hhi : hi < x.toInt
      · have z := zas_ok (op := 4) (a := (n1, k1)) (b := (0, hi)) hN.1 hN.2.1 h1 (hN.cst h0 hi) hhi
        exact lv_tableOut hx hb hd (Or.inr hhi) hdt (kh nu ls _ ws H locs ⟨hH, ⟨z.1, z.2, hN.2.2⟩, hL, hS, hF, hM⟩)
      · have hl : (x.toInt - lo).toNat < offs.toList.length := by omega
        have ho : offs.toList[(x.toInt - lo).toNat]? = some (offs.toList[(x.toInt - lo).toNat]) := List.getElem?_eq_getElem hl
        obtain ⟨tgt, h2, h3⟩ := ki _ _ ho
        have z := zas_ok (op := 0) (a := (n1, k1)) (b := (0, lo + ((x.toInt - lo).toNat : Int))) hN.1 hN.2.1 h1 (hN.cst h0 _) (show x.toInt = lo + ((x.toInt - lo).toNat : Int) by omega)
        rw [Array.getElem?_toList] at ho
        exact lv_tableIn hx hb hd hlo hhi ho h2 (h3 nu ls _ ws H locs ⟨hH, ⟨z.1, z.2, hN.2.2⟩, hL, hS, hF, hM⟩)
theorem zlk_off (d x : Int) : ∀ ps : List (Int × Int), (Op.lookupswitch.offset ps d x = d ∧ ∀ q ∈ ps, q.1 ≠ x) ∨ ∃ q ∈ ps, q.1 = x ∧ Op.lookupswitch.offset ps d x = q.2
  | [] => Or.inl ⟨rfl, fun q h => by cases h⟩
  | (a, o) :: r => by
    rw [Op.lookupswitch.offset_cons]
    by_cases h : a = x
    · right
      exact ⟨(a, o), List.mem_cons_self, h, by rw [if_pos h]⟩
    · rw [if_neg h]
      rcases zlk_off d x r with ⟨h1, h2⟩ | ⟨q, h1, h2, h3⟩
      · left
        refine ⟨h1, fun q hq => ?_⟩
        rcases List.mem_cons.mp hq with rfl | hq
        · exact h
        · exact h2 q hq
      · right
        exact ⟨q, List.mem_cons_of_mem _ h1, h2, h3⟩
def zcuts (env : List zIv) (a : Nat × Int) : List (Int × Int) → List zIv
  | [] => env
  | q :: r => zcuts (zne env a (0, q.1)) a r
theorem zcuts_ok {nu : List Int} {a : Nat × Int} {x : Int} (h0' : nu[0]? = some 0) (hx : zV nu a.1 a.2 x) : ∀ {ps : List (Int × Int)} {env : List zIv}, zEnv env nu → (∀ q ∈ ps, q.1 ≠ x) → zEnv (zcuts env a ps) nu
  | [], env, he, _ => he
  | q :: r, env, he, h => zcuts_ok (ps := r) (env := zne env a (0, q.1)) h0' hx (zne_ok (b := (0, q.1)) he hx ⟨0, h0', rfl⟩ (by
      have := h q List.mem_cons_self
      show x ≠ 0 + q.1
      omega)) (fun p hp => h p (List.mem_cons_of_mem _ hp))
theorem zs_lsw (hx : p.tables.exec = Jvm.exec) (hb : c.code = cc) (h0 : 0 < Z.2.2 ∧ gh 0 = 0) {n1 a1 len dt : Nat} {k1 b1 dflt : Int} {ps : Array (Int × Int)} (hd : decode cc pc = .ok (.lookupswitch dflt ps, len)) (hp : (ps.toList.zip (ps.toList.drop 1)).all (fun (a, next) => a.1 < next.1) = true) (hdt : (pc : Int) + dflt = (dt : Int))
    (kd : zWP (zG Z D cl tys A ad gh wr H0 ws0 nu0 nL) (fun H locs pc ls st => W p l e R s m args below meth c H locs ce sl Q (F0 m pc ls st)) dt (zcuts env (n1, k1) ps.toList, cd, L, st, fa, me))
    (ki : ∀ q ∈ ps.toList, ∃ tgt : Nat, (pc : Int) + q.2 = (tgt : Int) ∧ zWP (zG Z D cl tys A ad gh wr H0 ws0 nu0 nL) (fun H locs pc ls st => W p l e R s m args below meth c H locs ce sl Q (F0 m pc ls st)) tgt ((zas 0 env cd (n1, k1) (0, q.1)).1, (zas 0 env cd (n1, k1) (0, q.1)).2, L, st, fa, me)) : zWP (zG Z D cl tys A ad gh wr H0 ws0 nu0 nL) (fun H locs pc ls st => W p l e R s m args below meth c H locs ce sl Q (F0 m pc ls st)) pc (env, cd, L, (1, n1, k1, a1, b1) :: st, fa, me) := by
  intro nu ls stc ws H locs hG
  obtain ⟨hH, hN, hL, hS, hF, hM⟩ := hG
  match stc, hS with
  | v1 :: stc, ⟨⟨x, hx', h1⟩, hS⟩ =>
    subst hx'
    rcases zlk_off dflt x.toInt ps.toList with ⟨g1, g2⟩ | ⟨q, g1, g2, g3⟩
    · exact lv_lookup hx hb hd hp g1 hdt (kd nu ls _ ws H locs ⟨hH, ⟨zcuts_ok (a := (n1, k1)) (hN.z0 h0) h1 hN.1 g2, hN.2.1, hN.2.2⟩, hL, hS, hF, hM⟩)
    · obtain ⟨tgt, h2, h3⟩ := ki q g1
      have z := zas_ok (op := 0) (a := (n1, k1)) (b := (0, q.1)) hN.1 hN.2.1 h1 (hN.cst h0 _) (show x.toInt = q.1 from g2.symm)
      exact lv_lookup hx hb hd hp g3 h2 (h3 nu ls _ ws H locs ⟨hH, ⟨z.1, z.2, hN.2.2⟩, hL, hS, hF, hM⟩)
end ZSW
