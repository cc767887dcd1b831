/-! CALLS, RETURNS, ONE STEP, A METHOD'S CONTRACT OF THE PURE MACHINE -/
section YA
variable {p : Program} {l : Launch} {e : Env} {R : Room} {s : State} {m : MethodId} {args : Array Value} {below : List Frame} {meth : Method} {c : Code} {Q : State → Prop} {cc : ByteArray} {pc ce sl : Nat}
variable {Z : zZ} {D : va_G} {cl : List vw_C} {tys : List (ClassId × FieldType)} {A : Nat → Prop} {ad : Nat → Nat} {H0 : Heap} {nL : Nat}
variable {nx : yNx} {L st : List yV} {g : yM} {len : Nat}
theorem yk_call (hx : p.tables.exec = Jvm.exec) (hb : c.code = cc) (hcs : ce ≤ R.cells ∧ sl ≤ R.slots) (hml : c.maxLocals = nL) (hH0 : H0 = s.heap) {own : String} {Ts : List Cond} {RO : zRO} (hown : s.vm.findClass own = some m.cls) (hts : ∀ w ∈ Ts, w.before args s = true) (hTg : ∀ w ∈ Ts, goodWord w = true) (hK : va_K D cl tys s) (hR : zROk RO) (hro : RO ad A s s.heap) (hZ : zDj Z)
    {P : zPool} {MT : zMT} {CS : List yC} {rm : Nat × Nat} {virt : Bool} {idx : Nat} (hCS : ∀ cn ∈ CS, yMet l Ts cl Z RO MT cn) (hML : ∀ q ∈ P.2.2.2.1, zMLok Ts cl MT own s q) (hrm : rm.1 ≤ R.frames ∧ rm.2 ≤ R.locals)
    (h : yi_call Z P MT CS rm virt pc nx L st g idx len) (hdv : virt = true → decode cc pc = .ok (.invokevirtual idx, len)) (hds : virt = false → decode cc pc = .ok (.invokestatic idx, len)) (k : ∀ (pc' : Nat) (L' st' : List yV) (g' : yM), nx pc' L' st' g' → yWP (yG Z D cl tys A ad H0 nL) (fun H locs pc ls st => W p l e R s m args below meth c H locs ce sl Q (F0 m pc ls st)) pc' L' st' g') : yWP (yG Z D cl tys A ad H0 nL) (fun H locs pc ls st => W p l e R s m args below meth c H locs ce sl Q (F0 m pc ls st)) pc L st g := by
  unfold yi_call at h
  split at h
  · rename_i q hq
    have hqm := List.mem_of_find?_eq_some hq
    have hqi : q.1 = idx := by have := List.find?_some hq; simpa using this
    have hML := hML q hqm
    cases hc1 : (Nat.beq len 3 && (virt && Nat.beq q.2.1 0)) with
    | true =>
      rw [hc1] at h
      rw [Bool.and_eq_true, Bool.and_eq_true] at hc1
      have e3 := ybeq hc1.1
      subst e3
      have hq0 := ybeq hc1.2.2
      obtain ⟨a, r0, hst, hln, h⟩ := ytake_ok h
      simp only [List.append_nil] at h
      match r0, hst, h with
      | (t, z) :: r, hst, h =>
        simp only at h
        split at h
        · rename_i ci x fts ht
          obtain ⟨h1, h⟩ := ybif h
          have hci := ybeq h1
          unfold ycall at h
          split at h
          · rename_i cn hcn
            obtain ⟨h2, h⟩ := ybif h
            rw [Bool.and_eq_true, Bool.and_eq_true, Bool.and_eq_true, Bool.and_eq_true] at h2
            have hcm := List.mem_of_find?_eq_some hcn
            have hmid : cn.1 = q.2.2.1 := by have h9 := List.find?_some hcn; exact ybeq h9
            rw [← hmid] at h2
            obtain ⟨lk, T, N, hcl⟩ := hML.1 hq0 (yzC cn.1) hmid
            rw [hqi] at lk
            have hla : a.reverse.length = q.2.2.2.1 := by rw [List.length_reverse]; exact hln
            rw [← hla] at lk
            have key := ys_callV (as := a.reverse) (r := r) (g := g) (L := L) (pc := pc) (below := below) (e := e) (meth := meth) (Q := Q) hx hb hcs hml hH0 hown hts hTg hK hR hro (hCS cn hcm) (hdv hc1.2.1) lk ht (by rw [hci]; exact hcl) (yble h2.2.2.1) ⟨Nat.le_trans (yble h2.1) hrm.1, Nat.le_trans (yble h2.2.1) hrm.2⟩ h2.2.2.2.1 h (fun v g' hh => k _ _ _ _ hh)
            rw [List.reverse_reverse] at key
            rw [hst]
            exact key
          · exact h.elim
        · exact h.elim
    | false =>
      rw [hc1] at h
      cases hc2 : (Nat.beq len 3 && (!virt && (Nat.beq q.2.1 1 || Nat.beq q.2.1 2))) with
      | true =>
        rw [hc2] at h
        rw [Bool.and_eq_true, Bool.and_eq_true] at hc2
        have e3 := ybeq hc2.1
        subst e3
        have hvf : virt = false := by
          have := hc2.2.1
          cases virt with
          | true => cases this
          | false => rfl
        obtain ⟨a, r, hst, hln, h⟩ := ytake_ok h
        simp only [List.append_nil] at h
        unfold ycall at h
        split at h
        · rename_i cn hcn
          obtain ⟨h2, h⟩ := ybif h
          rw [Bool.and_eq_true, Bool.and_eq_true, Bool.and_eq_true, Bool.and_eq_true] at h2
          have hcm := List.mem_of_find?_eq_some hcn
          have hmid : cn.1 = q.2.2.1 := by have h9 := List.find?_some hcn; exact ybeq h9
          rw [← hmid] at h2
          have hlk : zLkS Ts (zKof MT (yzC cn.1)) q.2.2.2.1 ∧ ((Cond.methodLink own idx (MT cn.1).1) ∈ Ts ∨ ∃ host, va_Nw (Cond.methodLinkNest own idx (MT cn.1).1 host) s) := by
            rcases Bool.or_eq_true_iff.mp hc2.2.2 with c3 | c3
            · have := hML.2.1 (ybeq c3) (yzC cn.1) hmid
              rw [hqi] at this
              exact ⟨this.1, Or.inl this.2⟩
            · have := hML.2.2.1 (ybeq c3) (yzC cn.1) hmid
              rw [hqi] at this
              exact ⟨this.1, Or.inr this.2⟩
          obtain ⟨lk, ln⟩ := hlk
          have hla : a.reverse.length = q.2.2.2.1 := by rw [List.length_reverse]; exact hln
          rw [← hla] at lk
          have key := ys_callS (as := a.reverse) (r := r) (g := g) (L := L) (pc := pc) (below := below) (e := e) (meth := meth) (Q := Q) hx hb hcs hml hH0 hown hts hTg hK hR hro (hCS cn hcm) (hds hvf) lk ln (yble h2.2.2.1) ⟨Nat.le_trans (yble h2.1) hrm.1, Nat.le_trans (yble h2.2.1) hrm.2⟩ h2.2.2.2.1 h (fun v g' hh => k _ _ _ _ hh)
          rw [List.reverse_reverse] at key
          rw [hst]
          exact key
        · exact h.elim
      | false =>
        rw [hc2] at h
        cases hc3 : (Nat.beq len 3 && (!virt && (Nat.beq q.2.1 4 && (Nat.ble 1 rm.1 && Nat.ble 1000 rm.2)))) with
        | true =>
          rw [hc3] at h
          rw [Bool.and_eq_true, Bool.and_eq_true, Bool.and_eq_true, Bool.and_eq_true] at hc3
          have e3 := ybeq hc3.1
          subst e3
          have hvf : virt = false := by
            have := hc3.2.1
            cases virt with
            | true => cases this
            | false => rfl
          match st, h with
          | (tn, n) :: (td, dp) :: (t, z) :: (ts, sp) :: (u, y) :: r, h =>
            simp only [cond_true, cond_false] at h
            split at h
            · rename_i k1 t1 n1 f1 k0 t0 n0 f0 ht1 ht0
              obtain ⟨h1, hb0, hgo⟩ := ybif h
              rw [Bool.and_eq_true, Bool.and_eq_true, Bool.and_eq_true, Bool.and_eq_true] at h1
              have e1 := ybeq h1.1.1
              have e2 := ybeq h1.1.2.1
              have e4 := ybeq h1.1.2.2
              subst e1
              subst e2
              subst e4
              have hc4 := hML.2.2.2 (ybeq hc3.2.2.1)
              rw [hqi] at hc4
              exact ys_copy hx hb hml hown hts hK hZ (hds hvf) hc4 h1.2.1 ⟨Nat.le_trans (yble hc3.2.2.2.1) hrm.1, Nat.le_trans (yble hc3.2.2.2.2) hrm.2⟩ ht1 ht0 h1.2.2 hb0 (k _ _ _ _ hgo)
            · exact h.elim
        | false =>
          rw [hc3] at h
          exact h.elim
  · exact h.elim
theorem yk_ret (hx : p.tables.exec = Jvm.exec) (hb : c.code = cc) {rc kd : Nat} {K : List yV → yM → Prop} (hH0 : H0 = s.heap) (hlocks : meth.locks = false) (hr0 : rc = 0 → meth.sig.returnType = none) (hr1 : rc = 1 → meth.sig.returnType = some .int) (hr2 : rc = 2 → meth.sig.returnType = some .boolean) (hr3 : rc = 3 → meth.sig.returnType = some .long) (h : yi_ret rc K st g kd len) (hd0 : kd = 0 → decode cc pc = .ok (.return_, len)) (hd1 : kd = 1 → decode cc pc = .ok (.ireturn, len)) (hd2 : kd = 2 → decode cc pc = .ok (.lreturn, len)) : yWP (yG Z D cl tys A ad H0 nL) (fun H locs pc ls st => W p l e R s m args below meth c H locs 0 0 (MQ below (yQc Z D cl tys A ad K) args s 0 0 A) (F0 m pc ls st)) pc L st g := by
  intro ls stc ws H locs hG
  obtain ⟨hP, hD, hS, hM, hL, hT⟩ := hG
  have fin : ∀ (v : Option Value) (r : List yV) (t : State), yS Z ad r v.toList → K r g → t.heap = H → yQc Z D cl tys A ad K args s (.returned v) t := fun v r t h1 h2 ht => by
    have hS2 := hS
    rw [hH0] at hS2
    exact ⟨hS2.F ht, v, ws, r, g, rfl, by rw [ht]; exact hP, hD, hM, h1, h2⟩
  unfold yi_ret at h
  split at h
  · obtain ⟨h1, h2⟩ := ybif h
    rw [Bool.and_eq_true] at h1
    have el := ybeq h1.1
    subst el
    match stc, hT with
    | [], _ => exact W.vret hx hb (hr0 (ybeq h1.2)) (fun t ht _ => fin none [] t trivial h2 ht) hS.2.2 (hd0 rfl) hlocks
  · rename_i t x
    match stc, hT with
    | [v], ⟨hv, _⟩ =>
      cases hc : (Nat.beq len 1 && (Nat.beq t 1 && Nat.beq rc 1)) with
      | true =>
        rw [hc] at h
        rw [Bool.and_eq_true, Bool.and_eq_true] at hc
        have el := ybeq hc.1
        subst el
        have et := ybeq hc.2.1
        subst et
        have hv0 : yval Z ad 1 x v := hv
        obtain ⟨y, rfl, -⟩ := yvI' hv
        exact W.iret hx hb (hr1 (ybeq hc.2.2)) (fun t ht _ => fin (some (.int y)) [(1, x)] t ⟨hv0, trivial⟩ h ht) hS.2.2 (hd1 rfl) hlocks
      | false =>
        rw [hc] at h
        obtain ⟨h1, h3, h2⟩ := ybif h
        rw [Bool.and_eq_true, Bool.and_eq_true] at h1
        have el := ybeq h1.1
        subst el
        have et := ybeq h1.2.1
        subst et
        have hv0 : yval Z ad 1 x v := hv
        obtain ⟨y, rfl, hy⟩ := yvI' hv
        have hy : y.toInt = x := hy
        have hn : narrow .boolean (.int y) = .int y := by
          rcases (show y.toInt = 0 ∨ y.toInt = 1 by omega) with e | e
          · have : y = 0 := Int32.toInt_inj.mp (by rw [e]; rfl)
            subst this
            decide
          · have : y = 1 := Int32.toInt_inj.mp (by rw [e]; rfl)
            subst this
            decide
        exact W.zret hx hb (hr2 (ybeq h1.2.2)) hn (fun t ht _ => fin (some (.int y)) [(1, x)] t ⟨hv0, trivial⟩ h2 ht) hS.2.2 (hd1 rfl) hlocks
  · rename_i t x
    obtain ⟨h1, h2⟩ := ybif h
    rw [Bool.and_eq_true, Bool.and_eq_true] at h1
    have el := ybeq h1.1
    subst el
    have et := ybeq h1.2.1
    subst et
    match stc, hT with
    | [v], ⟨hv, _⟩ =>
      have hv0 : yval Z ad 2 x v := hv
      obtain ⟨y, rfl, -⟩ := yvL' hv
      exact W.lret hx hb (hr3 (ybeq h1.2.2)) (fun t ht _ => fin (some (.long y)) [(2, x)] t ⟨hv0, trivial⟩ h2 ht) hS.2.2 (hd2 rfl) hlocks
  · exact h.elim
end YA
/-- what a method's walk rests on -/
def yCtx (p : Program) (l : Launch) (e : Env) (R : Room) (s : State) (m : MethodId) (args : Array Value) (below : List Frame) (meth : Method) (c : Code) (cc : ByteArray) (own : String) (nL : Nat) (Ts : List Cond) (RO : zRO) (cl : List vw_C) (X : yX) (D : va_G) (tys : List (ClassId × FieldType)) (A : Nat → Prop) (ad : Nat → Nat) (H0 : Heap) (ce sl : Nat) (Q : State → Prop) (K : List yV → yM → Prop) : Prop :=
  (p.tables.exec = Jvm.exec ∧ c.code = cc ∧ c.maxLocals = nL ∧ H0 = s.heap ∧ s.vm.findClass own = some m.cls) ∧
  ((∀ w ∈ Ts, w.before args s = true) ∧ (∀ w ∈ Ts, goodWord w = true) ∧ va_K D cl tys s ∧ zROk RO ∧ RO ad A s s.heap ∧ zDj X.1) ∧
  (X.2.2.2.2.2.1.1 ≤ R.frames ∧ X.2.2.2.2.2.1.2 ≤ R.locals) ∧
  ((∀ f ∈ X.2.2.1.1, zFld cl s args own f.1 f.2.1 f.2.2.1) ∧ (∀ f ∈ X.2.2.1.1, f.2.2.2 ≤ 2 → zFldP cl s args own f.1 f.2.1 f.2.2.1 f.2.2.2) ∧ (∀ q ∈ X.2.2.1.2.1, -2147483648 ≤ q.2 ∧ q.2 ≤ 2147483647 ∧ (Jvm.Cond.constant own q.1 (Int32.ofInt q.2)).before args s = true) ∧ (∀ q ∈ X.2.2.1.2.2.1, -9223372036854775808 ≤ q.2 ∧ q.2 ≤ 9223372036854775807 ∧ (Jvm.Cond.constantLong own q.1 (Int64.ofInt q.2)).before args s = true) ∧ (∀ q ∈ X.2.2.1.2.2.2.1, zMLok Ts cl X.2.2.2.1 own s q)) ∧
  (∀ q ∈ X.2.2.1.2.2.2.2.1, ∀ (pc : Nat) (H : Heap) (locs : List Loc) (ls : Array Slot) (rest : List Value), decode cc pc = .ok (.getstatic q.1, 3) → va_S A H0 H locs → W p l e R s m args below meth c H locs ce sl Q (F0 m (pc + 3) ls (.ref (ad q.2) :: rest)) → W p l e R s m args below meth c H locs ce sl Q (F0 m pc ls rest)) ∧
  (∀ (i : Nat) (tb : List Int), X.2.1[i]? = some tb → ∀ (pc : Nat) (H : Heap) (locs : List Loc) (ls : Array Slot) (rest : List Value) (x : Int32), decode cc pc = .ok (.iaload, 1) → va_S A H0 H locs → vp_in x tb.length → W p l e R s m args below meth c H locs ce sl Q (F0 m (pc + 1) ls (.int (Int32.ofInt (tb.getD x.toNatClampNeg 0)) :: rest)) → W p l e R s m args below meth c H locs ce sl Q (F0 m pc ls (.int x :: .ref (ad (1000 + i)) :: rest))) ∧
  (∀ tb ∈ X.2.1, ∀ v ∈ tb, -2147483648 ≤ v ∧ v ≤ 2147483647) ∧ (∀ cn ∈ X.2.2.2.2.1, yMet l Ts cl X.1 RO X.2.2.2.1 cn) ∧ (ce ≤ R.cells ∧ sl ≤ R.slots) ∧
  (∀ (kd pc len : Nat) (L st : List yV) (g : yM), yi_ret X.2.2.2.2.2.2 K st g kd len → (kd = 0 → decode cc pc = .ok (.return_, len)) → (kd = 1 → decode cc pc = .ok (.ireturn, len)) → (kd = 2 → decode cc pc = .ok (.lreturn, len)) → yWP (yG X.1 D cl tys A ad H0 nL) (fun H locs pc ls st => W p l e R s m args below meth c H locs ce sl Q (F0 m pc ls st)) pc L st g)
section YB
variable {p : Program} {l : Launch} {e : Env} {R : Room} {s : State} {m : MethodId} {args : Array Value} {below : List Frame} {meth : Method} {c : Code} {Q : State → Prop} {cc : ByteArray} {pc ce sl : Nat}
variable {Z : zZ} {D : va_G} {cl : List vw_C} {tys : List (ClassId × FieldType)} {A : Nat → Prop} {ad : Nat → Nat} {H0 : Heap} {nL : Nat}
variable {nx : yNx} {L st : List yV} {g : yM} {len : Nat}
variable {own : String} {Ts : List Cond} {RO : zRO} {K : List yV → yM → Prop} {X : yX}
set_option maxHeartbeats 4000000 in
theorem ystep_ok {ins : Instr} (C : yCtx p l e R s m args below meth c cc own nL Ts RO cl X D tys A ad H0 ce sl Q K) (h : ystep X K nx pc L st g ins len) (hd : decode cc pc = .ok (ins, len)) (k : ∀ (pc' : Nat) (L' st' : List yV) (g' : yM), nx pc' L' st' g' → yWP (yG X.1 D cl tys A ad H0 nL) (fun H locs pc ls st => W p l e R s m args below meth c H locs ce sl Q (F0 m pc ls st)) pc' L' st' g') : yWP (yG X.1 D cl tys A ad H0 nL) (fun H locs pc ls st => W p l e R s m args below meth c H locs ce sl Q (F0 m pc ls st)) pc L st g := by
  obtain ⟨⟨hx, hb, hml, hH0, hown⟩, ⟨hts, hTg, hK, hR, hro, hZ⟩, hrm, ⟨hFl, hFp, hI, hJ, hML⟩, hGS, hRS, hRb, hCS, hcs, hret⟩ := C
  cases ins with
  | iconst n => exact yk_cI h (fun a b => zofI a b) (fun e H locs ls rest => by subst e; exact lv_iconst hx hb hd rfl) k
  | bipush n => 
    refine yk_cI (v := (Int8.ofInt n).toInt32) h (fun a b => ?_) (fun e H locs ls rest => by subst e; exact lv_bipush hx hb hd rfl) k
    have a : (-128 : Int) ≤ n := a
    have b : n ≤ 127 := b
    rw [Int8.toInt_toInt32, Int8.toInt_ofInt, show Int8.size = 256 from rfl, Int.bmod_eq_of_le (by omega) (by omega)]
  | sipush n => 
    refine yk_cI (v := (Int16.ofInt n).toInt32) h (fun a b => ?_) (fun e H locs ls rest => by subst e; exact lv_sipush hx hb hd rfl) k
    have a : (-32768 : Int) ≤ n := a
    have b : n ≤ 32767 := b
    rw [Int16.toInt_toInt32, Int16.toInt_ofInt, show Int16.size = 65536 from rfl, Int.bmod_eq_of_le (by omega) (by omega)]
  | lconst n => 
    refine yk_cL (v := Int64.ofNat (n : Nat)) h (fun a b => ?_) (fun e H locs ls rest => by subst e; exact lv_lconst hx hb hd rfl) k
    rw [Int64.toInt_ofNat_of_lt (by omega)]
  | ldc i => exact yk_ldcI h (fun e q hq hi => by subst e; subst hi; exact ⟨_, zofI (hI q hq).1 (hI q hq).2.1, fun H locs ls rest => lv_ldc hx hb hown (hI q hq).2.2 hd⟩) k
  | ldc_w i => exact yk_ldcI h (fun e q hq hi => by subst e; subst hi; exact ⟨_, zofI (hI q hq).1 (hI q hq).2.1, fun H locs ls rest => lv_ldcw hx hb hown (hI q hq).2.2 hd⟩) k
  | ldc2_w i => exact yk_ldcL h (fun e q hq hi => by subst e; subst hi; exact ⟨_, zofL (hJ q hq).1 (hJ q hq).2.1, fun H locs ls rest => lv_ldc2 hx hb hown (hJ q hq).2.2 hd⟩) k
  | iload_n q => exact yk_ldI h (fun e H locs ls rest x hl => by subst e; exact lv_iload_n hx hb hd rfl hl) k
  | iload q => exact yk_ldI h (fun e H locs ls rest x hl => by subst e; exact lv_iload hx hb hd hl) k
  | istore_n q => exact yk_stI h (fun e H locs ls rest x hl hn kk => by subst e; exact lv_istore_n hx hb hd rfl hl hn rfl kk) k
  | istore q => exact yk_stI h (fun e H locs ls rest x hl hn kk => by subst e; exact lv_istore hx hb hd hl hn rfl kk) k
  | lload_n q => exact yk_ldL h (fun e H locs ls rest x hl => by subst e; exact lv_lload_n hx hb hd rfl hl) k
  | lload q => exact yk_ldL h (fun e H locs ls rest x hl => by subst e; exact lv_lload hx hb hd hl) k
  | lstore_n q => exact yk_stL h (fun e H locs ls rest x hl hn kk => by subst e; exact lv_lstore_n hx hb hd rfl hl hn rfl kk) k
  | lstore q => exact yk_stL h (fun e H locs ls rest x hl hn kk => by subst e; exact lv_lstore hx hb hd hl hn rfl kk) k
  | aload_n q => exact yk_ldA h (fun e H locs ls rest x hl => by subst e; exact lv_aload_n hx hb hd rfl hl) k
  | aload q => exact yk_ldA h (fun e H locs ls rest x hl => by subst e; exact lv_aload hx hb hd hl) k
  | astore_n q => exact yk_stA h (fun e H locs ls rest x hl hn kk => by subst e; exact lv_astore_n hx hb hd rfl hl hn rfl kk) k
  | astore q => exact yk_stA h (fun e H locs ls rest x hl hn kk => by subst e; exact lv_astore hx hb hd hl hn rfl kk) k
  | iinc i d => exact yk_iinc hx hb h hd k
  | iadd => exact yk_bin (w := fun x y => x + y) h (fun x y => by rw [Int32.toInt_add]; rfl) (fun e H locs ls rest x y kk => by subst e; exact lv_iadd hx hb hd kk) k
  | isub => exact yk_bin (w := fun x y => x - y) h (fun x y => by rw [Int32.toInt_sub]; rfl) (fun e H locs ls rest x y kk => by subst e; exact lv_isub hx hb hd kk) k
  | imul => exact yk_bin (w := fun x y => x * y) h (fun x y => by rw [Int32.toInt_mul]; rfl) (fun e H locs ls rest x y kk => by subst e; exact lv_imul hx hb hd kk) k
  | iand => exact yk_bin (w := fun x y => x &&& y) h (fun x y => by unfold yb; rw [yofI, yofI]) (fun e H locs ls rest x y kk => by subst e; exact lv_iand hx hb hd kk) k
  | ior => exact yk_bin (w := fun x y => x ||| y) h (fun x y => by unfold yb; rw [yofI, yofI]) (fun e H locs ls rest x y kk => by subst e; exact lv_ior hx hb hd kk) k
  | ixor => exact yk_bin (w := fun x y => x ^^^ y) h (fun x y => by unfold yb; rw [yofI, yofI]) (fun e H locs ls rest x y kk => by subst e; exact lv_ixor hx hb hd kk) k
  | ishl => exact yk_bin (w := fun x y => x <<< (y &&& 31)) h (fun x y => by unfold yb; rw [yofI, yofI]) (fun e H locs ls rest x y kk => by subst e; exact lv_ishl hx hb hd kk) k
  | ishr => exact yk_bin (w := fun x y => x >>> (y &&& 31)) h (fun x y => by unfold yb; rw [yofI, yofI]) (fun e H locs ls rest x y kk => by subst e; exact lv_ishr hx hb hd kk) k
  | iushr => exact yk_bin (w := fun x y => (x.toUInt32 >>> (y.toUInt32 &&& Int32.toUInt32 31)).toInt32) h (fun x y => by unfold yb; rw [yofI, yofI]) (fun e H locs ls rest x y kk => by subst e; exact lv_iushr hx hb hd rfl kk) k
  | idiv => exact yk_dr (w := fun x y => x / y) h (fun x y => by unfold yb; rw [yofI, yofI]) (fun e H locs ls rest x y hy kk => by subst e; exact lv_idiv hx hb hd hy kk) k
  | irem => exact yk_dr (w := fun x y => x - x / y * y) h (fun x y => by unfold yb; rw [yofI, yofI]) (fun e H locs ls rest x y hy kk => by subst e; exact lv_irem hx hb hd hy kk) k
  | ineg => exact yk_una (w := fun x => -x) h (fun x => by rw [Int32.toInt_neg]; rfl) (fun e H locs ls rest x kk => by subst e; exact lv_ineg hx hb hd kk) k
  | i2b => exact yk_una (w := fun x => x.toInt8.toInt32) h (fun x => by rw [Int8.toInt_toInt32, Int32.toInt_toInt8]) (fun e H locs ls rest x kk => by subst e; exact lv_i2b hx hb hd rfl kk) k
  | i2s => exact yk_una (w := fun x => x.toInt16.toInt32) h (fun x => by rw [Int16.toInt_toInt32, Int32.toInt_toInt16]) (fun e H locs ls rest x kk => by subst e; exact lv_i2s hx hb hd rfl kk) k
  | i2c => exact yk_una (w := fun x => (x.toUInt32 % 65536).toInt32) h (fun x => by unfold yu; rw [yofI]) (fun e H locs ls rest x kk => by subst e; exact lv_i2c hx hb hd rfl kk) k
  | i2l => exact yk_i2l hx hb h hd k
  | l2i => exact yk_l2i hx hb h hd k
  | lcmp => exact yk_lcmp hx hb h hd k
  | ladd => exact yk_binL (w := fun x y => x + y) h (fun x y => by rw [Int64.toInt_add]; rfl) (fun e H locs ls rest x y kk => by subst e; exact lv_ladd hx hb hd kk) k
  | land => exact yk_binL (w := fun x y => x &&& y) h (fun x y => by unfold ybl; rw [yofL, yofL]) (fun e H locs ls rest x y kk => by subst e; exact lv_land hx hb hd kk) k
  | lor => exact yk_binL (w := fun x y => x ||| y) h (fun x y => by unfold ybl; rw [yofL, yofL]) (fun e H locs ls rest x y kk => by subst e; exact lv_lor hx hb hd kk) k
  | lshl => exact yk_shL (w := fun x y => x <<< (y.toInt64 &&& 63)) h (fun x y => by unfold ysh; rw [yofI, yofL]) (fun e H locs ls rest x y kk => by subst e; exact lv_lshl hx hb hd rfl kk) k
  | lshr => exact yk_shL (w := fun x y => x >>> (y.toInt64 &&& 63)) h (fun x y => by unfold ysh; rw [yofI, yofL]) (fun e H locs ls rest x y kk => by subst e; exact lv_lshr hx hb hd rfl kk) k
  | lushr => exact yk_shL (w := fun x y => (x.toUInt64 >>> (y.toInt64.toUInt64 &&& Int64.toUInt64 63)).toInt64) h (fun x y => by unfold ysh; rw [yofI, yofL]) (fun e H locs ls rest x y kk => by subst e; exact lv_lushr hx hb hd rfl kk) k
  | dup => exact yk_dup hx hb h hd k
  | pop => exact yk_pop hx hb h hd k
  | pop2 => exact yk_pop2 hx hb h hd k
  | goto off => exact yk_goto hx hb h hd k
  | tableswitch d lo hi offs => exact yk_tsw hx hb h hd k
  | lookupswitch d ps => exact yk_lsw hx hb h hd k
  | getfield i => exact yk_get hx hb hown hK hFl h hd k
  | putfield i => exact yk_put hx hb hown hK hZ hFp h hd k
  | getstatic i => exact yk_cell h (fun e q hq hi H locs ls rest hS => by subst e; subst hi; exact hGS q hq pc H locs ls rest hd hS) k
  | iaload => exact yk_iald hx hb hK (fun i tb hi H locs ls rest x hd1 hS hin => hRS i tb hi pc H locs ls rest x hd1 hS hin) hRb h hd k
  | baload => exact yk_bald hx hb hK h hd k
  | laload => exact yk_lald hx hb hK h hd k
  | aaload => exact yk_aald hx hb hK h hd k
  | iastore => exact yk_iast hx hb hK hZ h hd k
  | bastore => exact yk_bast hx hb hK hZ h hd k
  | lastore => exact yk_last hx hb hK hZ h hd k
  | invokevirtual i => exact yk_call hx hb hcs hml hH0 hown hts hTg hK hR hro hZ hCS hML hrm h (fun _ => hd) (fun e => by cases e) k
  | invokestatic i => exact yk_call hx hb hcs hml hH0 hown hts hTg hK hR hro hZ hCS hML hrm h (fun e => by cases e) (fun _ => hd) k
  | return_ => exact hret _ _ _ _ _ _ h (fun _ => hd) (fun e => by cases e) (fun e => by cases e)
  | ireturn => exact hret _ _ _ _ _ _ h (fun e => by cases e) (fun _ => hd) (fun e => by cases e)
  | lreturn => exact hret _ _ _ _ _ _ h (fun e => by cases e) (fun e => by cases e) (fun _ => hd)
  | if_icmp cnd off =>
    cases cnd with
    | eq => exact yk_icmp (P := fun x y => x = y) h (fun x y => Int32.toInt_inj.symm) (fun e tgt et H locs ls rest x y kt kf => by subst e; exact lv_icmp_eq hx hb hd et kt kf) k
    | ne => exact yk_icmp (P := fun x y => ¬ x = y) h (fun x y => not_congr Int32.toInt_inj.symm) (fun e tgt et H locs ls rest x y kt kf => by subst e; exact lv_icmp_ne hx hb hd et kt (fun z => kf (fun w => w z))) k
    | lt => exact yk_icmp (P := fun x y => x < y) h (fun x y => Int32.lt_iff_toInt_lt) (fun e tgt et H locs ls rest x y kt kf => by subst e; exact lv_icmp_lt hx hb hd et kt kf) k
    | ge => exact yk_icmp (P := fun x y => y ≤ x) h (fun x y => Int32.le_iff_toInt_le) (fun e tgt et H locs ls rest x y kt kf => by subst e; exact lv_icmp_ge hx hb hd et kt kf) k
    | gt => exact yk_icmp (P := fun x y => y < x) h (fun x y => Int32.lt_iff_toInt_lt) (fun e tgt et H locs ls rest x y kt kf => by subst e; exact lv_icmp_gt hx hb hd et kt kf) k
    | le => exact yk_icmp (P := fun x y => x ≤ y) h (fun x y => Int32.le_iff_toInt_le) (fun e tgt et H locs ls rest x y kt kf => by subst e; exact lv_icmp_le hx hb hd et kt kf) k
  | ifCond cnd off =>
    cases cnd with
    | eq => exact yk_if (P := fun x => x = 0) h (fun x => zeq0) (fun e tgt et H locs ls rest x kt kf => by subst e; exact lv_if_eq hx hb hd et kt kf) k
    | ne => exact yk_if (P := fun x => ¬ x = 0) h (fun x => not_congr zeq0) (fun e tgt et H locs ls rest x kt kf => by subst e; exact lv_if_ne hx hb hd et kt (fun z => kf (fun w => w z))) k
    | lt => exact yk_if (P := fun x => x < 0) h (fun x => zlt0) (fun e tgt et H locs ls rest x kt kf => by subst e; exact lv_if_lt hx hb hd et kt kf) k
    | ge => exact yk_if (cn := fun x y => y ≤ x) (P := fun x => 0 ≤ x) h (fun x => zge0) (fun e tgt et H locs ls rest x kt kf => by subst e; exact lv_if_ge hx hb hd et kt kf) k
    | gt => exact yk_if (cn := fun x y => y < x) (P := fun x => 0 < x) h (fun x => zgt0) (fun e tgt et H locs ls rest x kt kf => by subst e; exact lv_if_gt hx hb hd et kt kf) k
    | le => exact yk_if (P := fun x => x ≤ 0) h (fun x => zle0) (fun e tgt et H locs ls rest x kt kf => by subst e; exact lv_if_le hx hb hd et kt kf) k
  | _ => exact (show False from h).elim
end YB
theorem ymet_of {l : Launch} {Ts : List Cond} {cl : List vw_C} {Z : zZ} {RO : zRO} {RS : List (List Int)} {MT : zMT} {CS : List yC} {cn : yC} {P : zPool} {rc : Nat} (hTg : ∀ w ∈ Ts, goodWord w = true) (hR : zROk RO) (hZ : zDj Z) (hRS : zRowT RO RS) (hRb : ∀ tb ∈ RS, ∀ v ∈ tb, -2147483648 ≤ v ∧ v ≤ 2147483647) (hPk : zPok Ts cl RO MT (MT cn.1).1.cls P) (hCS : ∀ c' ∈ CS, yMet l Ts cl Z RO MT c') (hrc : zrcOk rc (MT cn.1).2.2.2) (hy : plainFor (MT cn.1).1 = true)
    {t : Nat → Option (Instr × Nat)} (ht : ∀ (pc : Nat) (q : Instr × Nat), t pc = some q → decode (MT cn.1).2.1 pc = .ok q)
    (hand : ∀ (as : List yV) (g : yM) (K : List yV → yM → Prop) (Y : yNx), cn.2.2 as g K → yCl t (Z, RS, P, MT, CS, cn.2.1, rc) K Y → Y 0 (ylayP as (MT cn.1).2.2.1) [] g) : yMet l Ts cl Z RO MT cn := by
  intro D tys A ad ws g as As K hMem hSA hlen hD hK0
  refine zofWF (cc := (MT cn.1).2.1) (maxL := (MT cn.1).2.2.1) (ret := (MT cn.1).2.2.2) hy rfl ?_
  intro p e s m args below meth c s₁ B hml hv
  obtain ⟨rfl, hP, hK, hro⟩ := hv
  have hx := B.exec
  have hb := B.bytes
  have hr := B.returns
  have hts0 := atoms_spec (ws := Cond.code (MT cn.1).1 (MT cn.1).2.1 (MT cn.1).2.2.1 (MT cn.1).2.2.2 :: Ts) B.pre
  have hts : ∀ w ∈ Ts, w.before As.toArray s = true := fun w hw => hts0 w (List.mem_cons_of_mem _ hw)
  have hown : s.vm.findClass (MT cn.1).1.cls = some m.cls := findClass_of_methodNamed B.named
  have hlocks := B.notSynchronized
  obtain ⟨q1, q2, q3, q4, q5, q6⟩ := hPk
  have C : yCtx p l e (headSpec (Cond.code (MT cn.1).1 (MT cn.1).2.1 (MT cn.1).2.2.1 (MT cn.1).2.2.2 :: Ts) (yrm cn.2.1)).room s m As.toArray below meth c (MT cn.1).2.1 (MT cn.1).1.cls (MT cn.1).2.2.1 Ts RO cl (Z, RS, P, MT, CS, cn.2.1, rc) D tys A ad s.heap 0 0 (MQ below (yQc Z D cl tys A ad K) As.toArray s 0 0 A) K := by
    refine ⟨⟨hx, hb, hml, rfl, hown⟩, ⟨hts, hTg, hK, hR, hro, hZ⟩, ⟨Nat.le_refl _, Nat.le_refl _⟩, ⟨fun f hf => ?_, fun f hf h2 => ?_, fun q hq => ⟨(q2 q hq).1, (q2 q hq).2.1, hts _ (q2 q hq).2.2⟩, fun q hq => ⟨(q3 q hq).1, (q3 q hq).2.1, hts _ (q3 q hq).2.2⟩, fun q hq => ?_⟩, fun q hq pc H locs ls rest hd hS kk => ?_, fun i tb hi pc H locs ls rest x hd hS hin kk => ?_, hRb, hCS, ⟨Nat.zero_le _, Nat.zero_le _⟩, fun kd pc len L st g hz d0 d1 d2 => yk_ret hx hb rfl hlocks (fun q => hr.trans (hrc.1 q)) (fun q => hr.trans (hrc.2.1 q)) (fun q => hr.trans (hrc.2.2.1 q)) (fun q => hr.trans (hrc.2.2.2 q)) hz d0 d1 d2⟩
    · obtain ⟨Cn, T, N, ty0, f1, f2, f3, f4, f5, f6, -⟩ := q1 f hf
      exact ⟨Cn, T, N, ty0, f1, f2, fun w hw => hts w (f3 w hw), f4, f5, Or.inl (hts _ f6)⟩
    · obtain ⟨Cn, T, N, ty0, f1, f2, f3, f4, f5, f6, f7, f8, f9, f10⟩ := q1 f hf
      exact ⟨Cn, T, N, ty0, f1, f2, fun w hw => hts w (f3 w hw), f4, f5, Or.inl (hts _ f6), f7 h2, f8, f9, f10⟩
    · obtain ⟨g1, g2, g3, -, g4⟩ := q4 q hq
      refine ⟨g1, g2, fun z Cc hCc => ?_, g4⟩
      obtain ⟨k1, host, k2⟩ := g3 z Cc hCc
      exact ⟨k1, host, k2 ad A s s.heap hro⟩
    · exact q5 q hq p l e _ s m _ below meth c _ _ A ad pc H locs ls rest 0 0 hx hb hown hts hro hd hS kk
    · exact hRS i tb hi p l e _ s m _ below meth c _ _ A ad pc H locs ls rest 0 0 x hx hb hro hd hS hin kk
  rw [lg_entry_eq]
  refine hand as g K (fun pc L st g => yWP (yG Z D cl tys A ad s.heap (MT cn.1).2.2.1) (fun H locs pc ls st => W p l e _ s m As.toArray below meth c H locs 0 0 (MQ below (yQc Z D cl tys A ad K) As.toArray s 0 0 A) (F0 m pc ls st)) pc L st g) hK0 (fun nx pc L st g q hq h hk => ystep_ok C h (ht pc q hq) hk) _ [] ws s.heap [] ?_
  exact ⟨hP, hD, va_S.rf, hMem, ylayP_ok hSA hlen, trivial⟩
