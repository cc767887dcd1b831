/-! ONE STEP OF THE CHECKER, ALL INSTRUCTIONS -/
/-- what a method's walk rests on -/
def zCtx (p : Program) (l : Launch) (e : Env) (R : Room) (s : State) (m : MethodId) (args : Array Value) (below : List Frame) (meth : Method) (c : Code) (cc : ByteArray) (own : String) (nL : Nat) (Ts : List Cond) (RO : zRO) (cl : List vw_C) (Z : zZ) (RS : List (List Int)) (P : zPool) (MT : zMT) (CS : List zC) (Co : zCo) (D : va_G) (tys : List (ClassId × FieldType)) (A : Nat → Prop) (ad : Nat → Nat) (gh : Nat → Int) (ws0 : va_W) (nuE : List Int) (H0 : Heap) (ce sl : Nat) (Q : State → Prop) : Prop :=
  (p.tables.exec = Jvm.exec ∧ c.code = cc ∧ (0 < Z.2.2 ∧ gh 0 = 0) ∧ c.maxLocals = nL ∧ H0 = s.heap ∧ s.vm.findClass own = some m.cls) ∧
  ((∀ w ∈ Ts, w.before args s = true) ∧ (∀ w ∈ Ts, goodWord w = true) ∧ va_K D cl tys s ∧ zROk RO ∧ RO ad A s s.heap ∧ zDj Z ∧ meth.locks = false) ∧
  (Co.1 = nuE.length ∧ (Co.2.2.2.1.1 ≤ R.frames ∧ Co.2.2.2.1.2 ≤ R.locals)) ∧
  ((∀ f ∈ P.1, zFld cl s args own f.1 f.2.1 f.2.2.1) ∧ (∀ f ∈ P.1, f.2.2.2 ≤ 2 → zFldP cl s args own f.1 f.2.1 f.2.2.1 f.2.2.2) ∧ (∀ q ∈ P.2.1, -2147483648 ≤ q.2 ∧ q.2 ≤ 2147483647 ∧ (Jvm.Cond.constant own q.1 (Int32.ofInt q.2)).before args s = true) ∧ (∀ q ∈ P.2.2.1, -9223372036854775808 ≤ q.2 ∧ q.2 ≤ 9223372036854775807 ∧ (Jvm.Cond.constantLong own q.1 (Int64.ofInt q.2)).before args s = true) ∧ (∀ q ∈ P.2.2.2.1, zMLok Ts cl MT own s q)) ∧
  (∀ q ∈ P.2.2.2.2.1, ∀ (pc : Nat) (H : Heap) (locs : List Loc) (ls : Array Slot) (rest : List Value), decode cc pc = .ok (.getstatic q.1, 3) → va_S A H0 H locs → W p l e R s m args below meth c H locs ce sl Q (F0 m (pc + 3) ls (.ref (ad q.2) :: rest)) → W p l e R s m args below meth c H locs ce sl Q (F0 m pc ls rest)) ∧
  (∀ q ∈ P.2.2.2.2.2, ∀ (pc : Nat) (H : Heap) (locs : List Loc) (ls : Array Slot) (rest : List Value), decode cc pc = .ok (.ldc q.1, 2) → va_S A H0 H locs → W p l e R s m args below meth c H locs ce sl Q (F0 m (pc + 2) ls (.ref (ad q.2) :: rest)) → W p l e R s m args below meth c H locs ce sl Q (F0 m pc ls rest)) ∧
  (∀ q ∈ P.2.2.2.1, q.2.1 = 3 → ∀ (pc : Nat) (H : Heap) (locs : List Loc) (ls : Array Slot) (rest : List Value) (x : Int32), decode cc pc = .ok (.invokevirtual q.1, 3) → va_S A H0 H locs → ls.size = nL → (rest.map fun v => v.category).sum ≤ 8 → (∀ (r : Int32) (locs1 : List Loc), -1 ≤ r.toInt → r.toInt ≤ 7 → va_S A H0 H locs1 → W p l e R s m args below meth c H locs1 ce sl Q (F0 m (pc + 3) ls (.int r :: rest))) → W p l e R s m args below meth c H locs ce sl Q (F0 m pc ls (.int x :: .ref (ad 2000) :: rest))) ∧
  (∀ (i : Nat) (tb : List Int), RS[i]? = some tb → ∀ (pc : Nat) (H : Heap) (locs : List Loc) (ls : Array Slot) (rest : List Value) (x : Int32), decode cc pc = .ok (.iaload, 1) → va_S A H0 H locs → vp_in x tb.length → W p l e R s m args below meth c H locs ce sl Q (F0 m (pc + 1) ls (.int (Int32.ofInt (tb.getD x.toNatClampNeg 0)) :: rest)) → W p l e R s m args below meth c H locs ce sl Q (F0 m pc ls (.int x :: .ref (ad (1000 + i)) :: rest))) ∧
  (∀ C ∈ CS, zMet l Ts cl Z RO (zKof MT C)) ∧ (ce ≤ R.cells ∧ sl ≤ R.slots) ∧
  (∀ (nu0 : List Int) (rc pc len : Nat) (sg : zS) (su : List (Nat × zS)), (∃ u, nu0 = nuE ++ u) → zi_ret Z Co sg rc len = some su → (rc = 0 → decode cc pc = .ok (.return_, len)) → (rc = 1 → decode cc pc = .ok (.ireturn, len)) → (rc = 2 → decode cc pc = .ok (.lreturn, len)) → zWP (zG Z D cl tys A ad gh Co.2.2.1 H0 ws0 nu0 nL) (fun H locs pc ls st => W p l e R s m args below meth c H locs ce sl Q (F0 m pc ls st)) pc sg)
section ZST
variable {p : Program} {l : Launch} {e : Env} {R : Room} {s : State} {m : MethodId} {args : Array Value} {below : List Frame} {meth : Method} {c : Code} {cc : ByteArray} {own : String} {nL : Nat} {Ts : List Cond} {RO : zRO} {cl : List vw_C} {Z : zZ} {RS : List (List Int)} {P : zPool} {MT : zMT} {CS : List zC} {Co : zCo} {D : va_G} {tys : List (ClassId × FieldType)} {A : Nat → Prop} {ad : Nat → Nat} {gh : Nat → Int} {ws0 : va_W} {nuE : List Int} {H0 : Heap} {nu0 : List Int} {pc ce sl : Nat} {Q : State → Prop} {sg : zS} {su : List (Nat × zS)} {len : Nat}
theorem zex1_ok {P0 : Nat} {sv : List zAV} {alts : List zTm} (h : alts.any (zex1 Z P0 sg sv) = true) : ∃ (t : zTm) (ins : List (Nat × Int)), t ∈ alts ∧ zinst ((zpref Z sg.2.1 [] sv sg.2.2.2.2.2 sg.1 sg.2.2.2.2.1 (zpre P0) t.1).1, sg.2.1, [], sv, (zpref Z sg.2.1 [] sv sg.2.2.2.2.2 sg.1 sg.2.2.2.2.1 (zpre P0) t.1).2, sg.2.2.2.2.2) (zpre P0) t.1 = some ins ∧ zmB ((zpref Z sg.2.1 [] sv sg.2.2.2.2.2 sg.1 sg.2.2.2.2.1 (zpre P0) t.1).1, sg.2.1, [], sv, (zpref Z sg.2.1 [] sv sg.2.2.2.2.2 sg.1 sg.2.2.2.2.1 (zpre P0) t.1).2, sg.2.2.2.2.2) ins t.2 = true := by
  obtain ⟨t, ht, h2⟩ := List.any_eq_true.mp h
  unfold zex1 at h2
  rw [Bool.and_eq_true, Bool.and_eq_true] at h2
  have h2 := h2.2.2
  split at h2
  · rename_i ins hin
    exact ⟨t, ins, ht, hin, h2⟩
  · cases h2
theorem zk_ret {rc : Nat} (hx : p.tables.exec = Jvm.exec) (hb : c.code = cc) (h0 : 0 < Z.2.2 ∧ gh 0 = 0) (hH0 : H0 = s.heap) (hlocks : meth.locks = false) (hP0 : Co.1 = nuE.length) (hr0 : Co.2.2.2.2 = 0 → meth.sig.returnType = none) (hr1 : Co.2.2.2.2 = 1 → meth.sig.returnType = some .int) (hr2 : Co.2.2.2.2 = 2 → meth.sig.returnType = some .boolean) (hr3 : Co.2.2.2.2 = 3 → meth.sig.returnType = some .long) (hE : ∃ u, nu0 = nuE ++ u) (h : zi_ret Z Co sg rc len = some su) (hd0 : rc = 0 → decode cc pc = .ok (.return_, len)) (hd1 : rc = 1 → decode cc pc = .ok (.ireturn, len)) (hd2 : rc = 2 → decode cc pc = .ok (.lreturn, len)) : zWP (zG Z D cl tys A ad gh Co.2.2.1 H0 ws0 nu0 nL) (fun H locs pc ls st => W p l e R s m args below meth c H locs 0 0 (MQ below (zQc Z D cl tys A ad gh Co.2.1 Co.2.2.1 ws0 nuE) args s 0 0 A) (F0 m pc ls st)) pc sg := by
  obtain ⟨env, cd, L, st, fa, me⟩ := sg
  unfold zi_ret at h
  split at h
  · rename_i e2
    have e2 : st = [] := e2
    subst e2
    split at h
    · rename_i hc
      obtain ⟨c1, c2, c3⟩ := hc
      subst c1
      obtain ⟨t, ins, ht, hin, hm⟩ := zex1_ok c3
      rw [hP0] at hin hm
      refine zwp_pref (L' := []) (st' := []) (srs := t.1) (acc := zpre nuE.length) h0 ?_
      exact zs_vret hx hb h0 hlocks hH0 hE (hr0 c2) ht hin hm (hd0 rfl)
    · cases h
  · rename_i a e2
    obtain ⟨t1, n1, k1, m1, l1⟩ := a
    have e2 : st = [(t1, n1, k1, m1, l1)] := e2
    subst e2
    split at h
    · rename_i hc
      obtain ⟨c1, c2, c3, c4⟩ := hc
      have c2 : t1 = 1 := c2
      subst c1
      subst c2
      obtain ⟨t, ins, ht, hin, hm⟩ := zex1_ok c4
      rw [hP0] at hin hm
      rcases c3 with c3 | ⟨c3, c5⟩
      · refine zwp_pref (L' := []) (st' := [(1, n1, k1, m1, l1)]) (srs := t.1) (acc := zpre nuE.length) h0 ?_
        exact zs_iret hx hb h0 hlocks hH0 hE (hr1 c3) rfl ht hin hm (hd1 rfl)
      · intro nu ls stc ws H locs hG
        obtain ⟨t0, h2⟩ := zpref_ok (L' := []) (st' := [(1, n1, k1, m1, l1)]) h0 t.1 env fa (zpre nuE.length) nu hG
        obtain ⟨hH, hN, hL, hS, hF, hM⟩ := id h2
        have hv1 := hG.2.2.2.1
        match stc, hS, hv1 with
        | [v], ⟨hv, _⟩, ⟨hv1, _⟩ =>
          have hf := zfit_bool hv1 hG.2.1.1 c5
          obtain ⟨x, hv', hz⟩ := hv
          subst hv'
          exact W.zret hx hb (hr2 c3) hf.1 (fun t' ht' _ => zret_ok (sv := [(1, n1, k1, m1, l1)]) (vo := some (.int x)) h0 hH0 hE h2 ⟨⟨x, rfl, hz⟩, trivial⟩ ht hin hm ht') hH.2.2.1.2.2 (hd1 rfl) hlocks
    · cases h
  · rename_i a e2
    obtain ⟨t1, n1, k1, m1, l1⟩ := a
    have e2 : st = [(t1, n1, k1, m1, l1)] := e2
    subst e2
    split at h
    · rename_i hc
      obtain ⟨c1, c2, c3, c4⟩ := hc
      have c2 : t1 = 2 := c2
      subst c1
      subst c2
      obtain ⟨t, ins, ht, hin, hm⟩ := zex1_ok c4
      rw [hP0] at hin hm
      refine zwp_pref (L' := []) (st' := [(2, n1, k1, m1, l1)]) (srs := t.1) (acc := zpre nuE.length) h0 ?_
      exact zs_lret hx hb h0 hlocks hH0 hE (hr3 c3) ht hin hm (hd2 rfl)
    · cases h
  · cases h
theorem zlt0 {x : Int32} : x < 0 ↔ x.toInt < 0 := by rw [Int32.lt_iff_toInt_lt]; rfl
theorem zle0 {x : Int32} : x ≤ 0 ↔ x.toInt ≤ 0 := by rw [Int32.le_iff_toInt_le]; rfl
theorem zgt0 {x : Int32} : 0 < x ↔ 0 < x.toInt := by rw [Int32.lt_iff_toInt_lt]; rfl
theorem zge0 {x : Int32} : 0 ≤ x ↔ 0 ≤ x.toInt := by rw [Int32.le_iff_toInt_le]; rfl
theorem zeq0 {x : Int32} : x = 0 ↔ x.toInt = 0 := by rw [← Int32.toInt_inj]; rfl
set_option maxHeartbeats 4000000 in
theorem zstep_ok {ins : Instr} (X : zCtx p l e R s m args below meth c cc own nL Ts RO cl Z RS P MT CS Co D tys A ad gh ws0 nuE H0 ce sl Q) (hE : ∃ u, nu0 = nuE ++ u) (h : zstep Z RS P MT CS Co pc sg ins len = some su) (hd : decode cc pc = .ok (ins, len)) (k : ∀ x ∈ su, zWP (zG Z D cl tys A ad gh Co.2.2.1 H0 ws0 nu0 nL) (fun H locs pc ls st => W p l e R s m args below meth c H locs ce sl Q (F0 m pc ls st)) x.1 x.2) : zWP (zG Z D cl tys A ad gh Co.2.2.1 H0 ws0 nu0 nL) (fun H locs pc ls st => W p l e R s m args below meth c H locs ce sl Q (F0 m pc ls st)) pc sg := by
  obtain ⟨⟨hx, hb, h0, hml, hH0, hown⟩, ⟨hts, hTg, hK, hR, hro, hZ, hlocks⟩, ⟨hP0, hrm⟩, ⟨hFl, hFp, hI, hJ, hML⟩, hGS, hSL, hSI, hRS, hCS, hcs, hret⟩ := id X
  cases ins with
  | iconst n => exact zk_cI h0 (lo := -2147483648) (hi := 2147483647) (by decide) (by decide) h (fun a b => zofI a b) (fun e H locs ls rest => by subst e; exact lv_iconst hx hb hd rfl) k
  | bipush n => 
    refine zk_cI h0 (lo := -128) (hi := 127) (v := (Int8.ofInt n).toInt32) (by decide) (by decide) h (fun a b => ?_) (fun e H locs ls rest => by subst e; exact lv_bipush hx hb hd rfl) k
    have a : (-128 : Int) ≤ n := a
    have b : n ≤ 127 := b
    rw [Int8.toInt_toInt32, Int8.toInt_ofInt, show Int8.size = 256 from rfl, Int.bmod_eq_of_le (by omega) (by omega)]
  | sipush n => 
    refine zk_cI h0 (lo := -32768) (hi := 32767) (v := (Int16.ofInt n).toInt32) (by decide) (by decide) h (fun a b => ?_) (fun e H locs ls rest => by subst e; exact lv_sipush hx hb hd rfl) k
    have a : (-32768 : Int) ≤ n := a
    have b : n ≤ 32767 := b
    rw [Int16.toInt_toInt32, Int16.toInt_ofInt, show Int16.size = 65536 from rfl, Int.bmod_eq_of_le (by omega) (by omega)]
  | lconst n => 
    refine zk_cL h0 (v := Int64.ofNat (n : Nat)) h (fun a b => ?_) (fun e H locs ls rest => by subst e; exact lv_lconst hx hb hd rfl) k
    rw [Int64.toInt_ofNat_of_lt (by omega)]
  | ldc i => 
    have h : (match P.2.2.2.2.2.find? (fun f => f.1 == i) with
      | some _ => zi_cell P.2.2.2.2.2 pc sg i len 2
      | none => zi_ldc P.2.1 1 pc sg i len 2) = some su := h
    split at h
    · exact zk_cell h0 h (fun e q hq hi H locs ls rest hS => by subst e; subst hi; exact hSL q hq pc H locs ls rest hd hS) k
    · exact zk_ldcI h0 h (fun e q hq hi => by subst e; subst hi; exact ⟨_, zofI (hI q hq).1 (hI q hq).2.1, fun H locs ls rest => lv_ldc hx hb hown (hI q hq).2.2 hd⟩) k
  | ldc_w i => exact zk_ldcI h0 h (fun e q hq hi => by subst e; subst hi; exact ⟨_, zofI (hI q hq).1 (hI q hq).2.1, fun H locs ls rest => lv_ldcw hx hb hown (hI q hq).2.2 hd⟩) k
  | ldc2_w i => exact zk_ldcL h0 h (fun e q hq hi => by subst e; subst hi; exact ⟨_, zofL (hJ q hq).1 (hJ q hq).2.1, fun H locs ls rest => lv_ldc2 hx hb hown (hJ q hq).2.2 hd⟩) k
  | iload_n q => exact zk_ldI h (fun e H locs ls rest x hl => by subst e; exact lv_iload_n hx hb hd rfl hl) k
  | iload q => exact zk_ldI h (fun e H locs ls rest x hl => by subst e; exact lv_iload hx hb hd hl) k
  | istore_n q => exact zk_stI h (fun e H locs ls rest x hl hn kk => by subst e; exact lv_istore_n hx hb hd rfl hl hn rfl kk) k
  | istore q => exact zk_stI h (fun e H locs ls rest x hl hn kk => by subst e; exact lv_istore hx hb hd hl hn rfl kk) k
  | lload_n q => exact zk_ldL h (fun e H locs ls rest x hl => by subst e; exact lv_lload_n hx hb hd rfl hl) k
  | lload q => exact zk_ldL h (fun e H locs ls rest x hl => by subst e; exact lv_lload hx hb hd hl) k
  | lstore_n q => exact zk_stL h (fun e H locs ls rest x hl hn kk => by subst e; exact lv_lstore_n hx hb hd rfl hl hn rfl kk) k
  | lstore q => exact zk_stL h (fun e H locs ls rest x hl hn kk => by subst e; exact lv_lstore hx hb hd hl hn rfl kk) k
  | aload_n q => exact zk_ldA h (fun e H locs ls rest x hl => by subst e; exact lv_aload_n hx hb hd rfl hl) k
  | aload q => exact zk_ldA h (fun e H locs ls rest x hl => by subst e; exact lv_aload hx hb hd hl) k
  | astore_n q => exact zk_stA h (fun e H locs ls rest x hl hn kk => by subst e; exact lv_astore_n hx hb hd rfl hl hn rfl kk) k
  | astore q => exact zk_stA h (fun e H locs ls rest x hl hn kk => by subst e; exact lv_astore hx hb hd hl hn rfl kk) k
  | iinc i d => exact zk_iinc hx hb h0 h hd k
  | iadd => exact zk_bin (g := fun x y => x + y) h (fun e H locs ls rest x y kk => by subst e; exact lv_iadd hx hb hd kk) (fun env cd a b nu x y hN hx hy => zaddI_ok hN.1 hx hy) k
  | isub => exact zk_bin (g := fun x y => x - y) h (fun e H locs ls rest x y kk => by subst e; exact lv_isub hx hb hd kk) (fun env cd a b nu x y hN hx hy => zsub_ok (hN.z0 h0) hN.1 hx hy) k
  | imul => exact zk_bin (g := fun x y => x * y) h (fun e H locs ls rest x y kk => by subst e; exact lv_imul hx hb hd kk) (fun env cd a b nu x y hN hx hy => zmul_ok (hN.z0 h0) hN.1 hx hy) k
  | iand => exact zk_bin (g := fun x y => x &&& y) h (fun e H locs ls rest x y kk => by subst e; exact lv_iand hx hb hd kk) (fun env cd a b nu x y hN hx hy => zand_ok hN.1 hx hy) k
  | ior => exact zk_bin (f := fun _ _ _ => .inr zFull) (g := fun x y => x ||| y) h (fun e H locs ls rest x y kk => by subst e; exact lv_ior hx hb hd kk) (fun env cd a b nu x y hN hx hy => zFull_in _) k
  | ixor => exact zk_bin (f := fun _ _ _ => .inr zFull) (g := fun x y => x ^^^ y) h (fun e H locs ls rest x y kk => by subst e; exact lv_ixor hx hb hd kk) (fun env cd a b nu x y hN hx hy => zFull_in _) k
  | ishl => exact zk_bin (g := fun x y => x <<< (y &&& 31)) h (fun e H locs ls rest x y kk => by subst e; exact lv_ishl hx hb hd kk) (fun env cd a b nu x y hN hx hy => zshl_ok hN.1 hx hy) k
  | ishr => exact zk_bin (f := fun _ _ _ => .inr zFull) (g := fun x y => x >>> (y &&& 31)) h (fun e H locs ls rest x y kk => by subst e; exact lv_ishr hx hb hd kk) (fun env cd a b nu x y hN hx hy => zFull_in _) k
  | iushr => exact zk_bin (f := fun env _ b => zushr env b) (g := fun x y => (x.toUInt32 >>> (y.toUInt32 &&& Int32.toUInt32 31)).toInt32) h (fun e H locs ls rest x y kk => by subst e; exact lv_iushr hx hb hd rfl kk) (fun env cd a b nu x y hN hx hy => zushr_ok hN.1 hy) k
  | idiv => exact zk_div hx hb h hd k
  | irem => exact zk_rem hx hb h hd k
  | ineg => exact zk_una (g := fun x => -x) h (fun e H locs ls rest x kk => by subst e; exact lv_ineg hx hb hd kk) (fun x => zFull_in _) k
  | i2b => exact zk_una (g := fun x => x.toInt8.toInt32) h (fun e H locs ls rest x kk => by subst e; exact lv_i2b hx hb hd rfl kk) zb_rng k
  | i2s => exact zk_una (g := fun x => x.toInt16.toInt32) h (fun e H locs ls rest x kk => by subst e; exact lv_i2s hx hb hd rfl kk) zs_rng k
  | i2c => exact zk_una (g := fun x => (x.toUInt32 % 65536).toInt32) h (fun e H locs ls rest x kk => by subst e; exact lv_i2c hx hb hd rfl kk) zc_rng k
  | i2l => exact zk_i2l hx hb h hd k
  | l2i => exact zk_l2i hx hb h hd k
  | lcmp => exact zk_lcmp hx hb h hd k
  | ladd => exact zk_binL (g := fun x y => x + y) h (fun e H locs ls rest x y kk => by subst e; exact lv_ladd hx hb hd kk) (fun env cd a b nu x y hN hx hy => zaddL_ok hN.1 hx hy) k
  | land => exact zk_binL (f := fun _ _ _ => .inr zFullL) (g := fun x y => x &&& y) h (fun e H locs ls rest x y kk => by subst e; exact lv_land hx hb hd kk) (fun env cd a b nu x y hN hx hy => zFullL_in _) k
  | lor => exact zk_binL (f := fun _ _ _ => .inr zFullL) (g := fun x y => x ||| y) h (fun e H locs ls rest x y kk => by subst e; exact lv_lor hx hb hd kk) (fun env cd a b nu x y hN hx hy => zFullL_in _) k
  | lshl => exact zk_shL (g := fun x y => x <<< (y.toInt64 &&& 63)) h (fun e H locs ls rest x y kk => by subst e; exact lv_lshl hx hb hd rfl kk) k
  | lshr => exact zk_shL (g := fun x y => x >>> (y.toInt64 &&& 63)) h (fun e H locs ls rest x y kk => by subst e; exact lv_lshr hx hb hd rfl kk) k
  | lushr => exact zk_shL (g := fun x y => (x.toUInt64 >>> (y.toInt64.toUInt64 &&& Int64.toUInt64 63)).toInt64) h (fun e H locs ls rest x y kk => by subst e; exact lv_lushr hx hb hd rfl kk) k
  | dup => exact zk_dup hx hb h hd k
  | pop => exact zk_pop hx hb h hd k
  | pop2 => exact zk_pop2 hx hb h hd k
  | goto off => exact zk_goto hx hb h hd k
  | tableswitch d lo hi offs => exact zk_tsw hx hb h0 h hd k
  | lookupswitch d ps => exact zk_lsw hx hb h0 h hd k
  | getfield i => exact zk_get hx hb h0 hown hK hFl h hd k
  | putfield i => exact zk_put hx hb h0 hown hK hZ hFp h hd k
  | getstatic i => exact zk_cell h0 h (fun e q hq hi H locs ls rest hS => by subst e; subst hi; exact hGS q hq pc H locs ls rest hd hS) k
  | iaload => exact zk_iald hx hb h0 hK (fun i tb hi H locs ls rest x hd1 hS hin => hRS i tb hi pc H locs ls rest x hd1 hS hin) h hd k
  | baload => exact zk_bald hx hb h0 hK h hd k
  | laload => exact zk_lald hx hb h0 hK h hd k
  | aaload => exact zk_aald hx hb h0 hK h hd k
  | iastore => exact zk_iast hx hb h0 hK hZ h hd k
  | bastore => exact zk_bast hx hb h0 hK hZ h hd k
  | lastore => exact zk_last hx hb h0 hK hZ h hd k
  | invokevirtual i => exact zk_call hx hb h0 hcs hml hH0 hown hts hTg hK hR hro hZ hCS hML hrm (fun _ e q hq h3 hi H locs ls rest x hS hsz hc kk => by subst e; subst hi; exact hSI q hq h3 pc H locs ls rest x hd hS hsz hc kk) h (fun _ => hd) (fun e => by cases e) k
  | invokestatic i => exact zk_call hx hb h0 hcs hml hH0 hown hts hTg hK hR hro hZ hCS hML hrm (fun e => by cases e) h (fun e => by cases e) (fun _ => hd) k
  | return_ => exact hret _ _ _ _ _ _ hE h (fun _ => hd) (fun e => by cases e) (fun e => by cases e)
  | ireturn => exact hret _ _ _ _ _ _ hE h (fun e => by cases e) (fun _ => hd) (fun e => by cases e)
  | lreturn => exact hret _ _ _ _ _ _ hE h (fun e => by cases e) (fun e => by cases e) (fun _ => hd)
  | if_icmp cnd off =>
    cases cnd with
    | eq => exact zk_icmp (Pr := fun x y => x = y) h (fun x y => ⟨fun q => Int32.toInt_inj.mpr q, fun q => fun z => q (Int32.toInt_inj.mp z)⟩) (fun e et H locs ls rest x y kt kf => by subst e; exact lv_icmp_eq hx hb hd et kt kf) k
    | ne => exact zk_icmp (Pr := fun x y => ¬ x = y) h (fun x y => ⟨fun q => fun z => q (Int32.toInt_inj.mp z), fun q => Int32.toInt_inj.mpr (Classical.not_not.mp q)⟩) (fun e et H locs ls rest x y kt kf => by subst e; exact lv_icmp_ne hx hb hd et kt (fun z => kf (fun w => w z))) k
    | lt => exact zk_icmp (Pr := fun x y => x < y) h (fun x y => ⟨fun q => Int32.lt_iff_toInt_lt.mp q, fun q => by have := mt Int32.lt_iff_toInt_lt.mpr q; show y.toInt ≤ x.toInt; omega⟩) (fun e et H locs ls rest x y kt kf => by subst e; exact lv_icmp_lt hx hb hd et kt kf) k
    | ge => exact zk_icmp (Pr := fun x y => y ≤ x) h (fun x y => ⟨fun q => Int32.le_iff_toInt_le.mp q, fun q => by have := mt Int32.le_iff_toInt_le.mpr q; show x.toInt < y.toInt; omega⟩) (fun e et H locs ls rest x y kt kf => by subst e; exact lv_icmp_ge hx hb hd et kt kf) k
    | gt => exact zk_icmp (Pr := fun x y => y < x) h (fun x y => ⟨fun q => Int32.lt_iff_toInt_lt.mp q, fun q => by have := mt Int32.lt_iff_toInt_lt.mpr q; show x.toInt ≤ y.toInt; omega⟩) (fun e et H locs ls rest x y kt kf => by subst e; exact lv_icmp_gt hx hb hd et kt kf) k
    | le => exact zk_icmp (Pr := fun x y => x ≤ y) h (fun x y => ⟨fun q => Int32.le_iff_toInt_le.mp q, fun q => by have := mt Int32.le_iff_toInt_le.mpr q; show y.toInt < x.toInt; omega⟩) (fun e et H locs ls rest x y kt kf => by subst e; exact lv_icmp_le hx hb hd et kt kf) k
  | ifCond cnd off =>
    cases cnd with
    | eq => exact zk_if (Pr := fun x => x = 0) h0 h (fun x => ⟨fun q => zeq0.mp q, fun q => fun z => q (zeq0.mpr z)⟩) (fun x y => ⟨fun q => Int64.toInt_inj.mpr ((lg_cmp_eq x y).mp q), fun q => fun z => q ((lg_cmp_eq x y).mpr (Int64.toInt_inj.mp z))⟩) (fun e et H locs ls rest x kt kf => by subst e; exact lv_if_eq hx hb hd et kt kf) k
    | ne => exact zk_if (Pr := fun x => ¬ x = 0) h0 h (fun x => ⟨fun q => fun z => q (zeq0.mpr z), fun q => zeq0.mp (Classical.not_not.mp q)⟩) (fun x y => ⟨fun q => fun z => q ((lg_cmp_eq x y).mpr (Int64.toInt_inj.mp z)), fun q => Int64.toInt_inj.mpr ((lg_cmp_eq x y).mp (Classical.not_not.mp q))⟩) (fun e et H locs ls rest x kt kf => by subst e; exact lv_if_ne hx hb hd et kt (fun z => kf (fun w => w z))) k
    | lt => exact zk_if (Pr := fun x => x < 0) h0 h (fun x => ⟨fun q => zlt0.mp q, fun q => by have := mt zlt0.mpr q; show 0 ≤ x.toInt; omega⟩) (fun x y => ⟨fun q => Int64.lt_iff_toInt_lt.mp ((lg_cmp_lt x y).mp q), fun q => by have := mt Int64.lt_iff_toInt_lt.mpr (mt (lg_cmp_lt x y).mpr q); show y.toInt ≤ x.toInt; omega⟩) (fun e et H locs ls rest x kt kf => by subst e; exact lv_if_lt hx hb hd et kt kf) k
    | ge => exact zk_if (Pr := fun x => 0 ≤ x) h0 h (fun x => ⟨fun q => zge0.mp q, fun q => by have := mt zge0.mpr q; show x.toInt < 0; omega⟩) (fun x y => ⟨fun q => Int64.le_iff_toInt_le.mp ((lg_cmp_ge x y).mp q), fun q => by have := mt Int64.le_iff_toInt_le.mpr (mt (lg_cmp_ge x y).mpr q); show x.toInt < y.toInt; omega⟩) (fun e et H locs ls rest x kt kf => by subst e; exact lv_if_ge hx hb hd et kt kf) k
    | gt => exact zk_if (Pr := fun x => 0 < x) h0 h (fun x => ⟨fun q => zgt0.mp q, fun q => by have := mt zgt0.mpr q; show x.toInt ≤ 0; omega⟩) (fun x y => ⟨fun q => Int64.lt_iff_toInt_lt.mp ((lg_cmp_gt x y).mp q), fun q => by have := mt Int64.lt_iff_toInt_lt.mpr (mt (lg_cmp_gt x y).mpr q); show x.toInt ≤ y.toInt; omega⟩) (fun e et H locs ls rest x kt kf => by subst e; exact lv_if_gt hx hb hd et kt kf) k
    | le => exact zk_if (Pr := fun x => x ≤ 0) h0 h (fun x => ⟨fun q => zle0.mp q, fun q => by have := mt zle0.mpr q; show 0 < x.toInt; omega⟩) (fun x y => ⟨fun q => Int64.le_iff_toInt_le.mp ((lg_cmp_le x y).mp q), fun q => by have := mt Int64.le_iff_toInt_le.mpr (mt (lg_cmp_le x y).mpr q); show y.toInt < x.toInt; omega⟩) (fun e et H locs ls rest x kt kf => by subst e; exact lv_if_le hx hb hd et kt kf) k
  | _ => exact absurd (show (none : Option (List (Nat × zS))) = some su from h) (by simp)
end ZST
