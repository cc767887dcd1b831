/-! READING AHEAD, CALLS, RETURNS: the checker is right -/
section ZP
variable {p : Program} {l : Launch} {e : Env} {R : Room} {s : State} {m : MethodId} {args : Array Value} {below : List Frame} {meth : Method} {c : Code} {Q : State → Prop} {cc : ByteArray} {pc ce sl : Nat}
variable {Z : zZ} {D : va_G} {cl : List vw_C} {tys : List (ClassId × FieldType)} {A : Nat → Prop} {ad : Nat → Nat} {gh : Nat → Int} {wr : zWr} {H0 : Heap} {ws0 : va_W} {nu0 : List Int} {nL : Nat}
variable {env : List zIv} {cd : List zCd} {L st : List zAV} {fa : List zFa} {me : List zMe}
theorem ztouch_ok (h0 : 0 < Z.2.2 ∧ gh 0 = 0) {nu : List Int} {ls : Array Slot} {stc : List Value} {ws : va_W} {H : Heap} {locs : List Loc} {a : Nat × Int} {j : Nat} (h : zG Z D cl tys A ad gh wr H0 ws0 nu0 nL (env, cd, L, st, fa, me) nu ls stc ws H locs) : ∃ t, zG Z D cl tys A ad gh wr H0 ws0 nu0 nL ((ztouch Z env cd fa a j).1, cd, L, st, (ztouch Z env cd fa a j).2, me) (nu ++ t) ls stc ws H locs := by
  have same : ∃ t, zG Z D cl tys A ad gh wr H0 ws0 nu0 nL (env, cd, L, st, fa, me) (nu ++ t) ls stc ws H locs := ⟨[], by rw [List.append_nil]; exact h⟩
  obtain ⟨hH, hN, hL, hS, hF, hM⟩ := h
  unfold ztouch
  split
  · exact same
  · split
    · rename_i ci x fts ht
      split
      · rename_i ft hj
        split
        · exact same
        · rename_i h9
          have hn9 : (zrdT Z env cd a ft).1 ≠ 9 := fun q => h9 (Or.inl q)
          have hl : a.1 < nu.length := by
            have e : nu.length = env.length := hN.1.1
            rw [e]
            exact Nat.not_le.mp fun q => h9 (Or.inr q)
          have hu : nu[a.1]? = some nu[a.1] := List.getElem?_eq_getElem hl
          have hz0 : zV nu a.1 a.2 (nu[a.1] + a.2) := ⟨_, hu, rfl⟩
          have bd := hz0.bd hN.1
          have hpos : 0 ≤ nu[a.1] + a.2 := by
            have h3 := zty_lo ht
            have bd1 := bd.1
            simp only at bd1
            omega
          obtain ⟨q, hq⟩ := Int.eq_ofNat_of_zero_le hpos
          have hz : zV nu a.1 a.2 q := by rw [← hq]; exact hz0
          obtain ⟨e0, he0, g1, g2, g3⟩ := zty_ok ht hN.1 hz
          have hc := hH.2.2.2.1 e0 he0 q g1 g2
          rw [g3] at hc
          obtain ⟨fs, c1, c2, c3⟩ := hc
          have hl2 : j < fs.length := by rw [c2]; exact (List.getElem?_eq_some_iff.mp hj).1
          have hv : fs[j]? = some fs[j] := List.getElem?_eq_getElem hl2
          have hfv : zfv ws q j = some fs[j] := by unfold zfv; rw [c1]; exact hv
          obtain ⟨z, r1, r2⟩ := zrdT_ok h0 hN hz (c3 j ft _ hj hv) hn9
          generalize zrdT Z env cd a ft = tr at r1 r2
          obtain ⟨tag, r⟩ := tr
          cases r with
          | inl b =>
            refine ⟨[], ?_⟩
            rw [List.append_nil]
            refine ⟨hH, hN, hL, hS, fun f hf => ?_, hM⟩
            rcases List.mem_cons.mp hf with rfl | hf
            · exact ⟨q, fs[j], hz, hfv, r2.zm r1⟩
            · exact hF f hf
          | inr iv =>
            have hn := zV.new hN.1 z
            refine ⟨[z], hH, hN.push r1, hL.app, hS.mono fun a v h => h.app, fun f hf => ?_, hM.app⟩
            rcases List.mem_cons.mp hf with rfl | hf
            · exact ⟨q, fs[j], hz.app, hfv, r2.zm hn⟩
            · exact hF.app f hf
      · exact same
    · exact same
theorem zpref_ok (h0 : 0 < Z.2.2 ∧ gh 0 = 0) {L' st' : List zAV} {ls : Array Slot} {stc : List Value} {ws : va_W} {H : Heap} {locs : List Loc} : ∀ (srs : List zSrc) (env : List zIv) (fa : List zFa) (acc : List (Nat × Int)) (nu : List Int), zG Z D cl tys A ad gh wr H0 ws0 nu0 nL (env, cd, L, st, fa, me) nu ls stc ws H locs → ∃ t, zG Z D cl tys A ad gh wr H0 ws0 nu0 nL ((zpref Z cd L' st' me env fa acc srs).1, cd, L, st, (zpref Z cd L' st' me env fa acc srs).2, me) (nu ++ t) ls stc ws H locs
  | [], env, fa, acc, nu, h => ⟨[], by rw [List.append_nil]; unfold zpref; exact h⟩
  | sr :: r, env, fa, acc, nu, h => by
    have same : ∃ t, zG Z D cl tys A ad gh wr H0 ws0 nu0 nL (env, cd, L, st, fa, me) (nu ++ t) ls stc ws H locs := ⟨[], by rw [List.append_nil]; exact h⟩
    unfold zpref
    by_cases h2 : sr.1 = 2
    · rw [if_pos h2]
      cases ha : acc[sr.2.1]? with
      | none => exact same
      | some a =>
        simp only
        cases hb : zsrc ((ztouch Z env cd fa (a.1, a.2 + sr.2.2.1) sr.2.2.2).1, cd, L', st', (ztouch Z env cd fa (a.1, a.2 + sr.2.2.1) sr.2.2.2).2, me) acc sr with
        | none => exact same
        | some b =>
          obtain ⟨t1, h1⟩ := ztouch_ok h0 (a := (a.1, a.2 + sr.2.2.1)) (j := sr.2.2.2) h
          obtain ⟨t2, h3⟩ := zpref_ok (L' := L') (st' := st') h0 r _ _ (acc ++ [b]) _ h1
          exact ⟨t1 ++ t2, by rw [← List.append_assoc]; exact h3⟩
    · rw [if_neg h2]
      cases hb : zsrc (env, cd, L', st', fa, me) acc sr with
      | none => exact same
      | some b => exact zpref_ok (L' := L') (st' := st') h0 r env fa (acc ++ [b]) nu h
theorem zwp_pref (h0 : 0 < Z.2.2 ∧ gh 0 = 0) {L' st' : List zAV} {srs : List zSrc} {acc : List (Nat × Int)} (k : zWP (zG Z D cl tys A ad gh wr H0 ws0 nu0 nL) (fun H locs pc ls st => W p l e R s m args below meth c H locs ce sl Q (F0 m pc ls st)) pc ((zpref Z cd L' st' me env fa acc srs).1, cd, L, st, (zpref Z cd L' st' me env fa acc srs).2, me)) : zWP (zG Z D cl tys A ad gh wr H0 ws0 nu0 nL) (fun H locs pc ls st => W p l e R s m args below meth c H locs ce sl Q (F0 m pc ls st)) pc (env, cd, L, st, fa, me) := by
  intro nu ls stc ws H locs hG
  obtain ⟨t, h⟩ := zpref_ok (L' := L') (st' := st') h0 srs env fa acc nu hG
  exact k _ ls stc ws H locs h
theorem zany_ok {f : zC → Option (List zS)} {x : List zS} : ∀ {CS : List zC}, zany f CS = some x → ∃ C ∈ CS, f C = some x
  | C :: r, h => by
    unfold zany at h
    split at h
    · rename_i y hy
      cases h
      exact ⟨C, List.mem_cons_self, hy⟩
    · obtain ⟨C', h1, h2⟩ := zany_ok h
      exact ⟨C', List.mem_cons_of_mem _ h1, h2⟩
/-- what the tables say of a class's calls -/
def zMLok (Ts : List Cond) (cl : List vw_C) (MT : zMT) (own : String) (s : State) (q : Nat × Nat × Nat × Nat × Nat) : Prop :=
  (q.2.1 = 0 → ∀ C : zC, C.1 = q.2.2.1 → zLkV Ts own q.1 (zKof MT C) q.2.2.2.1 ∧ ∃ (T : u_T) (N : Nat), cl[q.2.2.2.2]? = some ((MT C.1).1.cls, T, N)) ∧
  (q.2.1 = 1 → ∀ C : zC, C.1 = q.2.2.1 → zLkS Ts (zKof MT C) q.2.2.2.1 ∧ Cond.methodLink own q.1 (MT C.1).1 ∈ Ts) ∧
  (q.2.1 = 2 → ∀ C : zC, C.1 = q.2.2.1 → zLkS Ts (zKof MT C) q.2.2.2.1 ∧ ∃ host, va_Nw (Cond.methodLinkNest own q.1 (MT C.1).1 host) s) ∧
  (q.2.1 = 4 → Cond.methodLink own q.1 arraycopyName ∈ Ts ∧ Cond.native arraycopyName ∈ Ts ∧ Cond.static arraycopyName ∈ Ts ∧ Cond.initialized "java/lang/System" ∈ Ts)
theorem zok8_ok {st : List zAV} (h : zok8 st = true) : (st.map zcat).sum ≤ 8 ∧ ∀ a ∈ st, a.1 ≠ 0 := by
  unfold zok8 at h
  rw [Bool.and_eq_true, decide_eq_true_eq] at h
  refine ⟨h.1, fun a ha => ?_⟩
  have := List.all_eq_true.mp h.2 a ha
  simpa using this
/-- copying a stretch -/
theorem zs_copy (hx : p.tables.exec = Jvm.exec) (hb : c.code = cc) (h0 : 0 < Z.2.2 ∧ gh 0 = 0) {Ts : List Cond} {own : String} (hml : c.maxLocals = nL) (hown : s.vm.findClass own = some m.cls) (hts : ∀ w ∈ Ts, w.before args s = true) (hK : va_K D cl tys s) (hZ : zDj Z) {idx nn n2 nd m2 nt d2 ns s2 nr r2 : Nat} {kn l2 kd p2 kt e2 ks t2 kr u2 : Int} (hd : decode cc pc = .ok (.invokestatic idx, 3))
    (hlk : Cond.methodLink own idx arraycopyName ∈ Ts ∧ Cond.native arraycopyName ∈ Ts ∧ Cond.static arraycopyName ∈ Ts ∧ Cond.initialized "java/lang/System" ∈ Ts) (h8 : zok8 st = true) (hrm : 1 ≤ R.frames ∧ 1000 ≤ R.locals) (hB : zcopB Z env (nn, kn) (nd, kd) (nt, kt) (ns, ks) (nr, kr) = true) (hcv : zcovA wr env (nt, kt) = true)
    (kk : zWP (zG Z D cl tys A ad gh wr H0 ws0 nu0 nL) (fun H locs pc ls st => W p l e R s m args below meth c H locs ce sl Q (F0 m pc ls st)) (pc + 3) (env, cd, L, st, zfkA env fa (nt, kt), me)) : zWP (zG Z D cl tys A ad gh wr H0 ws0 nu0 nL) (fun H locs pc ls st => W p l e R s m args below meth c H locs ce sl Q (F0 m pc ls st)) pc (env, cd, L, (1, nn, kn, n2, l2) :: (1, nd, kd, m2, p2) :: (3, nt, kt, d2, e2) :: (1, ns, ks, s2, t2) :: (3, nr, kr, r2, u2) :: st, fa, me) := by
  intro nu ls stc ws H locs hG
  obtain ⟨hH, hN, hL, hS, hF, hM⟩ := hG
  match stc, hS with
  | v5 :: v4 :: v3 :: v2 :: v1 :: stc, ⟨⟨x, hx', hzx⟩, ⟨y, hy', hzy⟩, ⟨q, hq', hzq⟩, ⟨w, hw', hzw⟩, ⟨u, hu', hzu⟩, hS⟩ =>
    subst hx'
    subst hy'
    subst hq'
    subst hw'
    subst hu'
    obtain ⟨e8, e9⟩ := zok8_ok h8
    have bx := hzx.bd hN.1
    have by' := hzy.bd hN.1
    have bw := hzw.bd hN.1
    unfold zcopB at hB
    rw [Bool.and_eq_true, Bool.and_eq_true, Bool.and_eq_true, decide_eq_true_eq, decide_eq_true_eq, decide_eq_true_eq] at hB
    obtain ⟨b1, b2, b3, hB⟩ := hB
    have nx : ¬ x < 0 := by rw [Int32.lt_iff_toInt_lt, Int32.toInt_zero]; simp only at bx b1; omega
    have ny : ¬ y < 0 := by rw [Int32.lt_iff_toInt_lt, Int32.toInt_zero]; simp only at by' b2; omega
    have nw : ¬ w < 0 := by rw [Int32.lt_iff_toInt_lt, Int32.toInt_zero]; simp only at bw b3; omega
    have cx : (x.toNatClampNeg : Int) = x.toInt := by have e : x.toNatClampNeg = x.toInt.toNat := rfl; simp only at bx b1; omega
    have cy : (y.toNatClampNeg : Int) = y.toInt := by have e : y.toNatClampNeg = y.toInt.toNat := rfl; simp only at by' b2; omega
    have cw : (w.toNatClampNeg : Int) = w.toInt := by have e : w.toNatClampNeg = w.toInt.toNat := rfl; simp only at bw b3; omega
    have hloc : (stc.map fun v => v.category).sum + (nativeFrameWords "java/lang/System" "arraycopy" 5 + 11) ≤ R.locals := by
      rw [hS.cats e9]
      have h9 : nativeFrameWords "java/lang/System" "arraycopy" 5 + 11 ≤ 900 := by decide
      omega
    split at hB
    · rename_i t0 n0 f0 t1 n1 f1 ht0 ht1
      rw [Bool.and_eq_true, Bool.and_eq_true, Bool.and_eq_true, decide_eq_true_eq, decide_eq_true_eq, decide_eq_true_eq] at hB
      obtain ⟨g0, g00, g1, g2⟩ := hB
      obtain ⟨e0, he0, a1, a2, a3⟩ := zty_ok ht0 hN.1 hzu
      obtain ⟨e1, he1, c1, c2, c3⟩ := zty_ok ht1 hN.1 hzq
      have hc0 := hH.2.2.2.1 e0 he0 u a1 a2
      have hc1 := hH.2.2.2.1 e1 he1 q c1 c2
      rw [a3] at hc0
      rw [c3] at hc1
      obtain ⟨cA, f, s1, s2', s3⟩ := hc0
      obtain ⟨cB, g, s4, s5, s6⟩ := hc1
      refine va_copyi hx hb (hml.trans hL.1.symm) hown (hts _ hlk.1) (hts _ hlk.2.1) (hts _ hlk.2.2.1) (hts _ hlk.2.2.2) hK hH.1 hH.2.1 hH.2.2.1 u q t0 t1 s1 s4 s2' s5 rfl nw ny nx (by simp only at bx bw g1; omega) (by simp only at bx by' g2; omega) (fun i hi => rfl) hrm.1 hloc hd (fun H1 locs1 p1 p2 p3 => ?_)
      have hcell : zcell ad gh Z.2.1 tys (ws.set q (ad q, .inl (cB, n1, .inl (va_cpy f g w.toNatClampNeg y.toNatClampNeg x.toNatClampNeg)))) q e1.2.2 := by
        rw [c3]
        refine ⟨cB, _, zget_set s4, s5, fun j' ft' hj' hf' => ?_⟩
        show zft ad gh Z.2.1 q ft' (.int (va_cpy f g w.toNatClampNeg y.toNatClampNeg x.toNatClampNeg j'))
        unfold va_cpy
        split
        · rename_i hin
          have h3 := s3 (w.toNatClampNeg + (j' - y.toNatClampNeg)) ft' (by simp only at bx bw g1; omega) (by rw [g0]; exact hf')
          have h00 := List.all_eq_true.mp g00 ft' (by rw [g0]; exact List.mem_of_getElem? hf')
          obtain ⟨tg, lo, hi⟩ := ft'
          have e0 : tg = 0 := by simpa using h00
          subst e0
          exact h3
        · exact s6 j' ft' hj' hf'
      refine kk nu ls stc _ H1 locs1 ⟨⟨p1, p2, p3, zW.upd hZ hH.2.2.2.1 he1 c1 c2 (fun q' hq => List.getElem?_set_ne (Ne.symm hq)) hcell (by rw [c3]; simp), fun q' j' hn => ?_⟩, hN, hL, hS, zF.putA (a := (nt, kt)) hF hN.1 hzq (fun q' hq => List.getElem?_set_ne (Ne.symm hq)), hM⟩
      rw [← hH.2.2.2.2 q' j' hn]
      by_cases hqq : q' = q
      · subst hqq
        obtain ⟨w9, hw9, hc9⟩ := zcovA_ok hcv hN.1 hzq j'
        exact absurd hc9 (hn w9 hw9)
      · exact zfv_ne (List.getElem?_set_ne (Ne.symm hqq)) j'
    · rename_i t0 n0 f0 t1 n1 f1 ht0 ht1
      rw [Bool.and_eq_true, decide_eq_true_eq, decide_eq_true_eq] at hB
      obtain ⟨g1, g2⟩ := hB
      obtain ⟨e0, he0, a1, a2, a3⟩ := zty_ok ht0 hN.1 hzu
      obtain ⟨e1, he1, c1, c2, c3⟩ := zty_ok ht1 hN.1 hzq
      have hc0 := hH.2.2.2.1 e0 he0 u a1 a2
      have hc1 := hH.2.2.2.1 e1 he1 q c1 c2
      rw [a3] at hc0
      rw [c3] at hc1
      obtain ⟨cA, f, s1, s2'⟩ := hc0
      obtain ⟨cB, g, s4, s5⟩ := hc1
      refine va_copyl hx hb (hml.trans hL.1.symm) hown (hts _ hlk.1) (hts _ hlk.2.1) (hts _ hlk.2.2.1) (hts _ hlk.2.2.2) hK hH.1 hH.2.1 hH.2.2.1 u q t0 t1 s1 s4 s2' s5 rfl nw ny nx (by simp only at bx bw g1; omega) (by simp only at bx by' g2; omega) (fun i hi => rfl) hrm.1 hloc hd (fun H1 locs1 p1 p2 p3 => ?_)
      have hcell : zcell ad gh Z.2.1 tys (ws.set q (ad q, .inl (cB, n1, .inr (.inl (va_cpy f g w.toNatClampNeg y.toNatClampNeg x.toNatClampNeg))))) q e1.2.2 := by
        rw [c3]
        exact ⟨cB, _, zget_set s4, s5⟩
      refine kk nu ls stc _ H1 locs1 ⟨⟨p1, p2, p3, zW.upd hZ hH.2.2.2.1 he1 c1 c2 (fun q' hq => List.getElem?_set_ne (Ne.symm hq)) hcell (by rw [c3]; simp), fun q' j' hn => ?_⟩, hN, hL, hS, zF.putA (a := (nt, kt)) hF hN.1 hzq (fun q' hq => List.getElem?_set_ne (Ne.symm hq)), hM⟩
      rw [← hH.2.2.2.2 q' j' hn]
      by_cases hqq : q' = q
      · subst hqq
        obtain ⟨w9, hw9, hc9⟩ := zcovA_ok hcv hN.1 hzq j'
        exact absurd hc9 (hn w9 hw9)
      · exact zfv_ne (List.getElem?_set_ne (Ne.symm hqq)) j'
    · cases hB
theorem zk_call (hx : p.tables.exec = Jvm.exec) (hb : c.code = cc) (h0 : 0 < Z.2.2 ∧ gh 0 = 0) (hcs : ce ≤ R.cells ∧ sl ≤ R.slots) {Ts : List Cond} {RO : zRO} {own : String} (hml : c.maxLocals = nL) (hH0 : H0 = s.heap) (hown : s.vm.findClass own = some m.cls) (hts : ∀ w ∈ Ts, w.before args s = true) (hTg : ∀ w ∈ Ts, goodWord w = true) (hK : va_K D cl tys s) (hR : zROk RO) (hro : RO ad A s s.heap) (hZ : zDj Z)
    {P : zPool} {MT : zMT} {CS : List zC} {rm : Nat × Nat} {virt : Bool} {sg : zS} {su : List (Nat × zS)} {idx len : Nat} (hCS : ∀ C ∈ CS, zMet l Ts cl Z RO (zKof MT C)) (hML : ∀ q ∈ P.2.2.2.1, zMLok Ts cl MT own s q) (hrm : rm.1 ≤ R.frames ∧ rm.2 ≤ R.locals)
    (hSI : virt = true → len = 3 → ∀ q ∈ P.2.2.2.1, q.2.1 = 3 → q.1 = idx → ∀ (H : Heap) (locs : List Loc) (ls : Array Slot) (rest : List Value) (x : Int32), va_S A H0 H locs → ls.size = nL → (rest.map fun v => v.category).sum ≤ 8 → (∀ (r : Int32) (locs1 : List Loc), -1 ≤ r.toInt → r.toInt ≤ 7 → va_S A H0 H locs1 → W p l e R s m args below meth c H locs1 ce sl Q (F0 m (pc + 3) ls (.int r :: rest))) → W p l e R s m args below meth c H locs ce sl Q (F0 m pc ls (.int x :: .ref (ad 2000) :: rest)))
    (h : zi_call Z P MT CS wr rm virt pc sg idx len = some su) (hdv : virt = true → decode cc pc = .ok (.invokevirtual idx, len)) (hds : virt = false → decode cc pc = .ok (.invokestatic idx, len)) (k : ∀ x ∈ su, zWP (zG Z D cl tys A ad gh wr H0 ws0 nu0 nL) (fun H locs pc ls st => W p l e R s m args below meth c H locs ce sl Q (F0 m pc ls st)) x.1 x.2) : zWP (zG Z D cl tys A ad gh wr H0 ws0 nu0 nL) (fun H locs pc ls st => W p l e R s m args below meth c H locs ce sl Q (F0 m pc ls st)) pc sg := by
  obtain ⟨env, cd, L, st, fa, me⟩ := sg
  unfold zi_call at h
  split at h
  · rename_i q hq
    have hqm := List.mem_of_find?_eq_some hq
    have hqi : q.1 = idx := by have := List.find?_some hq; simpa using this
    have hML := hML q hqm
    split at h
    · rename_i hc
      obtain ⟨c1, c2, c3⟩ := hc
      subst c1
      split at h
      · rename_i a r hdr
        obtain ⟨t1, n1, k1, m1, l1⟩ := a
        split at h
        · rename_i hd
          obtain ⟨d1, d2, d3, d4⟩ := hd
          have d1 : t1 = 3 := d1
          subst d1
          obtain ⟨e1, e2⟩ := zok8_ok d4
          · obtain ⟨ps, hps, rfl⟩ := Option.map_eq_some_iff.mp h
            · obtain ⟨C, hC, hf⟩ := zany_ok hps
              split at hf
              · rename_i hmid
                unfold zone at hf
                split at hf
                · rename_i hz
                  obtain ⟨z1, z2, z3, z4, z5⟩ := hz
                  split at hf
                  · rename_i ins hin
                    split at hf
                    · rename_i hmb
                      obtain ⟨hck, hmb⟩ := hmb
                      cases hf
                      have hck : zrcv Z _ _ _ = true := hck
                      unfold zrcv at hck
                      split at hck
                      rotate_left
                      · cases hck
                      rename_i ci x fts ht
                      have hci : ci = q.2.2.2.2 := by simpa using hck
                      obtain ⟨lk, T, N, hcl⟩ := hML.1 c3 C hmid
                      rw [hqi] at lk
                      have hst : st = (st.take q.2.2.2.1).reverse.reverse ++ (3, n1, k1, m1, l1) :: r := by
                        rw [List.reverse_reverse, ← hdr]
                        exact (List.take_append_drop _ _).symm
                      have hln : (st.take q.2.2.2.1).reverse.length = q.2.2.2.1 := by rw [List.length_reverse]; exact d2
                      rw [← hln] at lk
                      have ha : ∀ a ∈ (st.take q.2.2.2.1).reverse, a.1 ≠ 0 := fun a ha => by
                        have := List.all_eq_true.mp d3 a (List.mem_reverse.mp ha)
                        simpa using this
                      refine zwp_pref (L' := zlayP ((3, n1, k1, m1, l1) :: (st.take q.2.2.2.1).reverse) (MT C.1).2.2.1) (st' := []) (srs := C.2.2.1.1) (acc := zpre Z.2.2) h0 ?_
                      have key := zs_callV (K := zKof MT C) (T := T) (N := N) (ci := ci) (x := x) (fts := fts) (st := r) (n := n1) (k := k1) (n2 := m1) (k2 := l1) (avs := (st.take q.2.2.2.1).reverse) (ins := ins) (cd := cd) (L := L) (me := me) (pc := pc) (wr := wr) (ws0 := ws0) (nu0 := nu0) (below := below) (e := e) (meth := meth) (Q := Q) hx hb h0 hcs hml hH0 hown hts hTg hK hR hro (hCS C hC) (hdv c2) lk ht (by rw [hci]; exact hcl) ha z1 hin hmb ⟨Nat.le_trans z2 hrm.1, Nat.le_trans z3 hrm.2⟩ e1 e2 (fun t htm => List.all_eq_true.mp z5 t htm) z4 (fun t htm hal => k _ (List.mem_map.mpr ⟨_, List.mem_map.mpr ⟨t, List.mem_filter.mpr ⟨htm, hal⟩, rfl⟩, rfl⟩))
                      rw [← hst] at key
                      exact key
                    · cases hf
                  · cases hf
                · cases hf
              · cases hf
        · cases h
      · cases h
    · split at h
      · rename_i hc
        obtain ⟨c1, c2, c3⟩ := hc
        subst c1
        split at h
        · rename_i hd
          obtain ⟨d2, d3, d4⟩ := hd
          obtain ⟨e1, e2⟩ := zok8_ok d4
          obtain ⟨ps, hps, rfl⟩ := Option.map_eq_some_iff.mp h
          obtain ⟨C, hC, hf⟩ := zany_ok hps
          split at hf
          · rename_i hmid
            unfold zone at hf
            split at hf
            · rename_i hz
              obtain ⟨z1, z2, z3, z4, z5⟩ := hz
              split at hf
              · rename_i ins hin
                split at hf
                · rename_i hmb
                  obtain ⟨-, hmb⟩ := hmb
                  cases hf
                  have hlk : zLkS Ts (zKof MT C) q.2.2.2.1 ∧ ((Cond.methodLink own idx (MT C.1).1) ∈ Ts ∨ ∃ host, va_Nw (Cond.methodLinkNest own idx (MT C.1).1 host) s) := by
                    rcases c3 with c3 | c3
                    · have := hML.2.1 c3 C hmid
                      rw [hqi] at this
                      exact ⟨this.1, Or.inl this.2⟩
                    · have := hML.2.2.1 c3 C hmid
                      rw [hqi] at this
                      exact ⟨this.1, Or.inr this.2⟩
                  obtain ⟨lk, ln⟩ := hlk
                  have hst : st = (st.take q.2.2.2.1).reverse.reverse ++ st.drop q.2.2.2.1 := by
                    rw [List.reverse_reverse]
                    exact (List.take_append_drop _ _).symm
                  have hln : (st.take q.2.2.2.1).reverse.length = q.2.2.2.1 := by rw [List.length_reverse]; exact d2
                  rw [← hln] at lk
                  have ha : ∀ a ∈ (st.take q.2.2.2.1).reverse, a.1 ≠ 0 := fun a ha => by
                    have := List.all_eq_true.mp d3 a (List.mem_reverse.mp ha)
                    simpa using this
                  refine zwp_pref (L' := zlayP (st.take q.2.2.2.1).reverse (MT C.1).2.2.1) (st' := []) (srs := C.2.2.1.1) (acc := zpre Z.2.2) h0 ?_
                  have key := zs_callS (K := zKof MT C) (st := st.drop q.2.2.2.1) (avs := (st.take q.2.2.2.1).reverse) (ins := ins) (cd := cd) (L := L) (me := me) (pc := pc) (wr := wr) (ws0 := ws0) (nu0 := nu0) (below := below) (e := e) (meth := meth) (Q := Q) hx hb h0 hcs hml hH0 hown hts hTg hK hR hro (hCS C hC) (hds c2) lk ln ha z1 hin hmb ⟨Nat.le_trans z2 hrm.1, Nat.le_trans z3 hrm.2⟩ e1 e2 (fun t htm => List.all_eq_true.mp z5 t htm) z4 (fun t htm hal => k _ (List.mem_map.mpr ⟨_, List.mem_map.mpr ⟨t, List.mem_filter.mpr ⟨htm, hal⟩, rfl⟩, rfl⟩))
                  rw [← hst] at key
                  exact key
                · cases hf
              · cases hf
            · cases hf
          · cases hf
        · cases h
      · split at h
        · rename_i hc
          obtain ⟨c1, c2, c3⟩ := hc
          split at h
          · rename_i i a r hst
            obtain ⟨t2, n2, k2, m2, l2⟩ := i
            have hst : st = (t2, n2, k2, m2, l2) :: a :: r := hst
            subst hst
            split at h
            · rename_i hd
              obtain ⟨d1, d2, d3⟩ := hd
              have d1 : t2 = 1 := d1
              subst d1
              subst d2
              cases h
              obtain ⟨e1, e2⟩ := zok8_ok d3
              intro nu ls stc ws H locs hG
              obtain ⟨hH, hN, hL, hS, hF, hM⟩ := hG
              match stc, hS with
              | v2 :: v1 :: stc, ⟨⟨x, hx', g2⟩, ⟨y, hy, g1⟩, hS⟩ =>
                subst hx'
                subst hy
                have ey : y = 2000 := by
                  have := g1.eq (hN.cst h0 2000)
                  omega
                subst ey
                refine hSI c2 c1 q hqm c3 hqi H locs ls stc x hH.2.2.1 hL.1 (by rw [hS.cats e2]; exact e1) (fun rr locs1 r1 r2 hS1 => ?_)
                obtain ⟨nu', hG'⟩ := zG.pushI (sg := (env, cd, L, r, fa, me)) (stc' := stc) (x := rr) (r := .inr [(-1, 7)]) (locs := locs1) ⟨⟨hH.1, hH.2.1, hS1, hH.2.2.2⟩, hN, hL, hS, hF, hM⟩ hS ⟨_, List.mem_cons_self, r1, r2⟩
                exact k _ List.mem_cons_self nu' ls _ ws H locs1 hG'
            · cases h
          · cases h
        · split at h
          · rename_i hc
            obtain ⟨c1, c2, c3⟩ := hc
            subst c1
            split at h
            · rename_i x y d w u r hst
              obtain ⟨x0, x1, x2, x3, x4⟩ := x
              obtain ⟨y0, y1, y2, y3, y4⟩ := y
              obtain ⟨d0, d1, d2, d3, d4⟩ := d
              obtain ⟨w0, w1, w2, w3, w4⟩ := w
              obtain ⟨u0, u1, u2, u3, u4⟩ := u
              have hst : st = (x0, x1, x2, x3, x4) :: (y0, y1, y2, y3, y4) :: (d0, d1, d2, d3, d4) :: (w0, w1, w2, w3, w4) :: (u0, u1, u2, u3, u4) :: r := hst
              subst hst
              split at h
              · rename_i hd
                obtain ⟨f1, f2, f3, f4, f5, f6, f7, f8, f9, f10⟩ := hd
                have f1 : x0 = 1 := f1
                have f2 : y0 = 1 := f2
                have f3 : d0 = 3 := f3
                have f4 : w0 = 1 := f4
                have f5 : u0 = 3 := f5
                subst f1
                subst f2
                subst f3
                subst f4
                subst f5
                cases h
                have lk := hML.2.2.2 c3
                rw [hqi] at lk
                exact zs_copy hx hb h0 hml hown hts hK hZ (hds c2) lk f6 ⟨Nat.le_trans f7 hrm.1, Nat.le_trans f8 hrm.2⟩ f9 f10 (k _ List.mem_cons_self)
              · cases h
            · cases h
          · cases h
  · cases h
end ZP
