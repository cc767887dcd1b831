/-! A METHOD MEETS ITS CONTRACT -/
def zRowG (RO : zRO) (own : String) (Ts : List Cond) (op : Nat → Instr) (el : Nat) (q : Nat × Nat) : Prop := ∀ (p : Program) (l : Launch) (e : Env) (R : Room) (s : State) (m : MethodId) (args : Array Value) (below : List Frame) (meth : Method) (c : Code) (Q : State → Prop) (cc : ByteArray) (A : Nat → Prop) (ad : Nat → Nat) (pc : Nat) (H : Heap) (locs : List Loc) (ls : Array Slot) (rest : List Value) (ce sl : Nat), p.tables.exec = Jvm.exec → c.code = cc → s.vm.findClass own = some m.cls → (∀ w ∈ Ts, w.before args s = true) → RO ad A s s.heap → decode cc pc = .ok (op q.1, el) → va_S A s.heap H locs → W p l e R s m args below meth c H locs ce sl Q (F0 m (pc + el) ls (.ref (ad q.2) :: rest)) → W p l e R s m args below meth c H locs ce sl Q (F0 m pc ls rest)
def zRowI (RO : zRO) (own : String) (Ts : List Cond) (idx : Nat) : Prop := ∀ (p : Program) (l : Launch) (e : Env) (R : Room) (s : State) (m : MethodId) (args : Array Value) (below : List Frame) (meth : Method) (c : Code) (Q : State → Prop) (cc : ByteArray) (A : Nat → Prop) (ad : Nat → Nat) (pc : Nat) (H : Heap) (locs : List Loc) (ls : Array Slot) (rest : List Value) (ce sl : Nat) (nL : Nat) (x : Int32), p.tables.exec = Jvm.exec → c.code = cc → c.maxLocals = nL → s.vm.findClass own = some m.cls → (∀ w ∈ Ts, w.before args s = true) → RO ad A s s.heap → 20 ≤ R.frames → 1000 ≤ R.locals → ce ≤ R.cells ∧ sl ≤ R.slots → decode cc pc = .ok (.invokevirtual idx, 3) → va_S A s.heap H locs → ls.size = nL → (rest.map fun v => v.category).sum ≤ 8 →
  (∀ (r : Int32) (locs1 : List Loc), -1 ≤ r.toInt → r.toInt ≤ 7 → va_S A s.heap H locs1 → W p l e R s m args below meth c H locs1 ce sl Q (F0 m (pc + 3) ls (.int r :: rest))) → W p l e R s m args below meth c H locs ce sl Q (F0 m pc ls (.int x :: .ref (ad 2000) :: rest))
def zRowT (RO : zRO) (RS : List (List Int)) : Prop := ∀ (i : Nat) (tb : List Int), RS[i]? = some tb → ∀ (p : Program) (l : Launch) (e : Env) (R : Room) (s : State) (m : MethodId) (args : Array Value) (below : List Frame) (meth : Method) (c : Code) (Q : State → Prop) (cc : ByteArray) (A : Nat → Prop) (ad : Nat → Nat) (pc : Nat) (H : Heap) (locs : List Loc) (ls : Array Slot) (rest : List Value) (ce sl : Nat) (x : Int32), p.tables.exec = Jvm.exec → c.code = cc → RO ad A s s.heap → decode cc pc = .ok (.iaload, 1) → va_S A s.heap H locs → vp_in x tb.length → W p l e R s m args below meth c H locs ce sl Q (F0 m (pc + 1) ls (.int (Int32.ofInt (tb.getD x.toNatClampNeg 0)) :: rest)) → W p l e R s m args below meth c H locs ce sl Q (F0 m pc ls (.int x :: .ref (ad (1000 + i)) :: rest))
/-- a class's pool is the tables' -/
def zPok (Ts : List Cond) (cl : List vw_C) (RO : zRO) (MT : zMT) (own : String) (P : zPool) : Prop :=
  (∀ f ∈ P.1, ∃ (C : String) (T : u_T) (N : Nat) (ty0 : Nat → FieldType), cl[f.2.1]? = some (C, T, N) ∧ f.2.2.1 < N ∧ (∀ w ∈ u_ws C T N, w ∈ Ts) ∧ (∀ k, k < N → parseFieldDescriptor (T k).2.2.1 = some (ty0 k)) ∧ (∀ a, a < N → ∀ b, b < N → a ≠ b → (T a).2.1 ≠ (T b).2.1) ∧ Cond.fieldLink own f.1 (T f.2.2.1).1 (T f.2.2.1).2.1 (T f.2.2.1).2.2.1 ∈ Ts ∧
    (f.2.2.2 ≤ 2 → (T f.2.2.1).2.2.2 = false) ∧ (f.2.2.2 = 0 → ty0 f.2.2.1 = .int) ∧ (f.2.2.2 = 1 → ty0 f.2.2.1 = .boolean) ∧ (f.2.2.2 = 2 → ∃ n, ty0 f.2.2.1 = .object n)) ∧
  (∀ q ∈ P.2.1, -2147483648 ≤ q.2 ∧ q.2 ≤ 2147483647 ∧ Jvm.Cond.constant own q.1 (Int32.ofInt q.2) ∈ Ts) ∧ (∀ q ∈ P.2.2.1, -9223372036854775808 ≤ q.2 ∧ q.2 ≤ 9223372036854775807 ∧ Jvm.Cond.constantLong own q.1 (Int64.ofInt q.2) ∈ Ts) ∧
  (∀ q ∈ P.2.2.2.1, (q.2.1 = 0 → ∀ C : zC, C.1 = q.2.2.1 → zLkV Ts own q.1 (zKof MT C) q.2.2.2.1 ∧ ∃ (T : u_T) (N : Nat), cl[q.2.2.2.2]? = some ((MT C.1).1.cls, T, N)) ∧
    (q.2.1 = 1 → ∀ C : zC, C.1 = q.2.2.1 → zLkS Ts (zKof MT C) q.2.2.2.1 ∧ Cond.methodLink own q.1 (MT C.1).1 ∈ Ts) ∧
    (q.2.1 = 2 → ∀ C : zC, C.1 = q.2.2.1 → zLkS Ts (zKof MT C) q.2.2.2.1 ∧ ∃ host, ∀ (ad : Nat → Nat) (A : Nat → Prop) (s : State) (H : Heap), RO ad A s H → va_Nw (Cond.methodLinkNest own q.1 (MT C.1).1 host) s) ∧ (q.2.1 = 3 → zRowI RO own Ts q.1) ∧ (q.2.1 = 4 → Cond.methodLink own q.1 arraycopyName ∈ Ts ∧ Cond.native arraycopyName ∈ Ts ∧ Cond.static arraycopyName ∈ Ts ∧ Cond.initialized "java/lang/System" ∈ Ts)) ∧
  (∀ q ∈ P.2.2.2.2.1, zRowG RO own Ts Instr.getstatic 3 q) ∧ (∀ q ∈ P.2.2.2.2.2, zRowG RO own Ts Instr.ldc 2 q)
def zcheck (Z : zZ) (RS : List (List Int)) (MT : zMT) (CS : List zC) (C : zC) (P : zPool) (rc : Nat) (ann : zAnn) (sp : List (Nat × Nat × Int × Int)) (fuel : Nat) : Bool :=
  zrun Z RS P MT CS (C.2.2.1.2.1.length, C.2.2.2.1, C.2.2.2.2, C.2.1, rc) (MT C.1).2.1 ann sp none fuel 0 C.2.2.1.2 &&
  (ann.all (fun a => decide (0 < a.2.1.2.1.length) && ((a.2.2.all (fun r => decide (r.2.1 < a.2.1.2.1.length))) && zrun Z RS P MT CS (C.2.2.1.2.1.length, C.2.2.2.1, C.2.2.2.2, C.2.1, rc) (MT C.1).2.1 ann sp (some a.2.2) fuel a.1 a.2.1.2)) &&
    P.2.2.2.1.all (fun q => !(q.2.1 == 3) || (decide (20 ≤ C.2.1.1) && decide (1000 ≤ C.2.1.2))))
/-- a head's own walk -/
def zhead (Z : zZ) (RS : List (List Int)) (MT : zMT) (CS : List zC) (C : zC) (P : zPool) (rc : Nat) (ann : zAnn) (sp : List (Nat × Nat × Int × Int)) (fuel : Nat) (a : Nat × zTm × zRk) : Bool := decide (0 < a.2.1.2.1.length) && ((a.2.2.all (fun r => decide (r.2.1 < a.2.1.2.1.length))) && zrun Z RS P MT CS (C.2.2.1.2.1.length, C.2.2.2.1, C.2.2.2.2, C.2.1, rc) (MT C.1).2.1 ann sp (some a.2.2) fuel a.1 a.2.1.2)
theorem zcheck_of {Z : zZ} {RS : List (List Int)} {MT : zMT} {CS : List zC} {C : zC} {P : zPool} {rc : Nat} {ann : zAnn} {sp : List (Nat × Nat × Int × Int)} {fuel : Nat} (h0 : zrun Z RS P MT CS (C.2.2.1.2.1.length, C.2.2.2.1, C.2.2.2.2, C.2.1, rc) (MT C.1).2.1 ann sp none fuel 0 C.2.2.1.2 = true) (h1 : ann.all (zhead Z RS MT CS C P rc ann sp fuel) = true) (h2 : P.2.2.2.1.all (fun q => !(q.2.1 == 3) || (decide (20 ≤ C.2.1.1) && decide (1000 ≤ C.2.1.2))) = true) : zcheck Z RS MT CS C P rc ann sp fuel = true := by
  unfold zcheck
  rw [Bool.and_eq_true, Bool.and_eq_true]
  exact ⟨h0, h1, h2⟩
theorem zall_cons {α : Type} {f : α → Bool} {a : α} {r : List α} (h : f a = true) (t : r.all f = true) : (a :: r).all f = true := by
  rw [List.all_cons, h, t]
  rfl
theorem zall_nil {α : Type} {f : α → Bool} : ([] : List α).all f = true := rfl
def zrcOk (rc : Nat) (ret : Option FieldType) : Prop := (rc = 0 → ret = none) ∧ (rc = 1 → ret = some .int) ∧ (rc = 2 → ret = some .boolean) ∧ (rc = 3 → ret = some .long)
/-- a contract behind which the ghosts are others -/
def zMetG (l : Launch) (Ts : List Cond) (cl : List vw_C) (Z : zZ) (RO : zRO) (K : zK) (φ : (Nat → Nat) → (Nat → Int) → (Nat → Int) → va_W → List Int → Prop) : Prop := ∀ (D : va_G) (tys : List (ClassId × FieldType)) (A : Nat → Prop) (ad : Nat → Nat) (gh gh' : Nat → Int) (ws : va_W) (nu : List Int) (As : List Value), (0 < Z.2.2 ∧ gh 0 = 0) → zEnt Z ad gh tys K ws nu As → va_D A ws → φ ad gh gh' ws nu →
  Met l K.1 (Cond.code K.1 K.2.1 K.2.2.1 K.2.2.2.1 :: Ts) (zrm K) (zPc D cl tys A ad RO ws As) (zQc Z D cl tys A ad gh' (zKA K) (zKW K) ws nu) 0 0 A
theorem zi_ret_nil {Z : zZ} {n : Nat} {wr : zWr} {rm : Nat × Nat} {rc0 : Nat} {sg : zS} {rc len : Nat} : zi_ret Z (n, [], wr, rm, rc0) sg rc len = none := by
  unfold zi_ret
  split
  · exact if_neg (fun h => by cases h.2.2)
  · exact if_neg (fun h => by cases h.2.2.2)
  · exact if_neg (fun h => by cases h.2.2.2)
  · rfl
/-- other ghosts, another start -/
theorem zCtx.re {p : Program} {l : Launch} {e : Env} {R : Room} {s : State} {m : MethodId} {args : Array Value} {below : List Frame} {meth : Method} {c : Code} {cc : ByteArray} {own : String} {nL : Nat} {Ts : List Cond} {RO : zRO} {cl : List vw_C} {Z : zZ} {RS : List (List Int)} {P : zPool} {MT : zMT} {CS : List zC} {Co : zCo} {D : va_G} {tys : List (ClassId × FieldType)} {A : Nat → Prop} {ad : Nat → Nat} {gh : Nat → Int} {ws0 : va_W} {nuE : List Int} {H0 : Heap} {ce sl : Nat} {Q : State → Prop}
    (X : zCtx p l e R s m args below meth c cc own nL Ts RO cl Z RS P MT CS Co D tys A ad gh ws0 nuE H0 ce sl Q) (gh' : Nat → Int) (ws1 : va_W) (nuF : List Int) (wr' : zWr) (rc : Nat) (h0 : gh' 0 = 0) : zCtx p l e R s m args below meth c cc own nL Ts RO cl Z RS P MT CS (nuF.length, [], wr', Co.2.2.2.1, rc) D tys A ad gh' ws1 nuF H0 ce sl Q := by
  obtain ⟨⟨a1, a2, a3, a4, a5, a6⟩, b, ⟨c1, c2⟩, d, f1, f2, f3, f4, f5, f6, f7⟩ := X
  exact ⟨⟨a1, a2, ⟨a3.1, h0⟩, a4, a5, a6⟩, b, ⟨rfl, c2⟩, d, f1, f2, f3, f4, f5, f6, fun nu0 rc2 pc len sg su hE2 hz d0 d1 d2 => by rw [zi_ret_nil] at hz; cases hz⟩
theorem zmet_ofG {φ : (Nat → Nat) → (Nat → Int) → (Nat → Int) → va_W → List Int → Prop} {l : Launch} {Ts : List Cond} {cl : List vw_C} {Z : zZ} {RO : zRO} {RS : List (List Int)} {MT : zMT} {CS : List zC} {C : zC} {P : zPool} {rc : Nat} (hTg : ∀ w ∈ Ts, goodWord w = true) (hR : zROk RO) (hZ : zDj Z) (hRS : zRowT RO RS) (hPk : zPok Ts cl RO MT (MT C.1).1.cls P) (hCS : ∀ C ∈ CS, zMet l Ts cl Z RO (zKof MT C)) (hrc : zrcOk rc (MT C.1).2.2.2) (hy : plainName (MT C.1).1.cls = true)
    (hroom : P.2.2.2.1.all (fun q => !(q.2.1 == 3) || (decide (20 ≤ C.2.1.1) && decide (1000 ≤ C.2.1.2))) = true)
    (hand : ∀ (p : Program) (e : Env) (R : Room) (s : State) (m : MethodId) (args : Array Value) (below : List Frame) (meth : Method) (c : Code) (D : va_G) (tys : List (ClassId × FieldType)) (A : Nat → Prop) (ad : Nat → Nat) (gh gh' : Nat → Int) (ws : va_W) (nu : List Int) (Q : State → Prop), (∀ g, g < Z.2.2 → nu[g]? = some (gh g)) → φ ad gh gh' ws nu → Q = MQ below (zQc Z D cl tys A ad gh' C.2.2.2.1 C.2.2.2.2 ws nu) args s 0 0 A → meth.sig.returnType = (MT C.1).2.2.2 → zCtx p l e R s m args below meth c (MT C.1).2.1 (MT C.1).1.cls (MT C.1).2.2.1 Ts RO cl Z RS P MT CS (C.2.2.1.2.1.length, [], C.2.2.2.2, C.2.1, rc) D tys A ad gh ws nu s.heap 0 0 Q →
      ∀ ls : Array Slot, zG Z D cl tys A ad gh C.2.2.2.2 s.heap ws nu (MT C.1).2.2.1 C.2.2.1.2 nu ls [] ws s.heap [] → W p l e R s m args below meth c s.heap [] 0 0 Q (F0 m 0 ls [])) : zMetG l Ts cl Z RO (zKof MT C) φ := by
  intro D tys A ad gh gh' ws nu As h0 hEnt hD hφ
  refine Met.ofW (cc := (MT C.1).2.1) (maxL := (MT C.1).2.2.1) (ret := (MT C.1).2.2.2) hy rfl ?_
  intro p e s m args below meth c s₁ B hml hv
  obtain ⟨rfl, hP, hK, hro⟩ := hv
  have hx := B.exec
  have hb := B.bytes
  have hr := B.returns
  have hts0 := atoms_spec (ws := Cond.code (MT C.1).1 (MT C.1).2.1 (MT C.1).2.2.1 (MT C.1).2.2.2 :: Ts) B.pre
  have hts : ∀ w ∈ Ts, w.before As.toArray s = true := fun w hw => hts0 w (List.mem_cons_of_mem _ hw)
  have hown : s.vm.findClass (MT C.1).1.cls = some m.cls := findClass_of_methodNamed B.named
  have hlocks := B.notSynchronized
  obtain ⟨hW, hE1, hC1, hgh, hL, hst, hF, hme⟩ := hEnt
  obtain ⟨q1, q2, q3, q4, q5, q6⟩ := hPk
  have X : zCtx p l e (headSpec (Cond.code (MT C.1).1 (MT C.1).2.1 (MT C.1).2.2.1 (MT C.1).2.2.2 :: Ts) (zrm (zKof MT C))).room s m As.toArray below meth c (MT C.1).2.1 (MT C.1).1.cls (MT C.1).2.2.1 Ts RO cl Z RS P MT CS (C.2.2.1.2.1.length, [], C.2.2.2.2, C.2.1, rc) D tys A ad gh ws nu s.heap 0 0 (MQ below (zQc Z D cl tys A ad gh' C.2.2.2.1 C.2.2.2.2 ws nu) As.toArray s 0 0 A) := by
    refine ⟨⟨hx, hb, h0, hml, rfl, hown⟩, ⟨hts, hTg, hK, hR, hro, hZ, hlocks⟩, ⟨hE1.1.symm, ⟨Nat.le_refl _, Nat.le_refl _⟩⟩, ⟨fun f hf => ?_, fun f hf h2 => ?_, fun q hq => ⟨(q2 q hq).1, (q2 q hq).2.1, hts _ (q2 q hq).2.2⟩, fun q hq => ⟨(q3 q hq).1, (q3 q hq).2.1, hts _ (q3 q hq).2.2⟩, fun q hq => ?_⟩, fun q hq pc H locs ls rest hd hS kk => ?_, fun q hq pc H locs ls rest hd hS kk => ?_, fun q hq h3 pc H locs ls rest x hd hS hsz hc kk => ?_, fun i tb hi pc H locs ls rest x hd hS hin kk => ?_, hCS, ⟨Nat.zero_le _, Nat.zero_le _⟩, fun nu0 rc2 pc len sg su hE2 hz d0 d1 d2 => by rw [zi_ret_nil] at hz; cases hz⟩
    · obtain ⟨Cn, T, N, ty0, f1, f2, f3, f4, f5, f6, -⟩ := q1 f hf
      exact ⟨Cn, T, N, ty0, f1, f2, fun w hw => hts w (f3 w hw), f4, f5, Or.inl (hts _ f6)⟩
    · obtain ⟨Cn, T, N, ty0, f1, f2, f3, f4, f5, f6, f7, f8, f9, f10⟩ := q1 f hf
      exact ⟨Cn, T, N, ty0, f1, f2, fun w hw => hts w (f3 w hw), f4, f5, Or.inl (hts _ f6), f7 h2, f8, f9, f10⟩
    · obtain ⟨g1, g2, g3, -, g4⟩ := q4 q hq
      refine ⟨g1, g2, fun z Cc hCc => ?_, g4⟩
      obtain ⟨k1, host, k2⟩ := g3 z Cc hCc
      exact ⟨k1, host, k2 ad A s s.heap hro⟩
    · exact q5 q hq p l e _ s m _ below meth c _ _ A ad pc H locs ls rest 0 0 hx hb hown hts hro hd hS kk
    · exact q6 q hq p l e _ s m _ below meth c _ _ A ad pc H locs ls rest 0 0 hx hb hown hts hro hd hS kk
    · have hrm := List.all_eq_true.mp hroom q hq
      have h3' : (!(q.2.1 == 3)) = false := by rw [h3]; rfl
      rw [h3', Bool.false_or, Bool.and_eq_true, decide_eq_true_eq, decide_eq_true_eq] at hrm
      exact (q4 q hq).2.2.2.1 h3 p l e _ s m _ below meth c _ _ A ad pc H locs ls rest 0 0 _ x hx hb hml hown hts hro hrm.1 hrm.2 ⟨Nat.zero_le _, Nat.zero_le _⟩ hd hS hsz hc kk
    · exact hRS i tb hi p l e _ s m _ below meth c _ _ A ad pc H locs ls rest 0 0 x hx hb hro hd hS hin kk
  rw [lg_entry_eq]
  refine hand p e _ s m _ below meth c D tys A ad gh gh' ws nu _ hgh hφ rfl hr X _ ?_
  refine ⟨⟨hP, hD, va_S.rf, hW, fun q j _ => rfl⟩, ⟨hE1, hC1, hgh, [], by rw [List.append_nil]⟩, hL, ?_, hF, ?_⟩
  · have hst : C.2.2.1.2.2.2.2.1 = [] := hst
    rw [hst]
    trivial
  · have hme : C.2.2.1.2.2.2.2.2.2 = [] := hme
    rw [hme]
    exact fun q hq => by cases hq
theorem zmet_of {l : Launch} {Ts : List Cond} {cl : List vw_C} {Z : zZ} {RO : zRO} {RS : List (List Int)} {MT : zMT} {CS : List zC} {C : zC} {P : zPool} {rc : Nat} (hTg : ∀ w ∈ Ts, goodWord w = true) (hR : zROk RO) (hZ : zDj Z) (hRS : zRowT RO RS) (hPk : zPok Ts cl RO MT (MT C.1).1.cls P) (hCS : ∀ C ∈ CS, zMet l Ts cl Z RO (zKof MT C)) (hrc : zrcOk rc (MT C.1).2.2.2) (hy : plainName (MT C.1).1.cls = true)
    (hroom : P.2.2.2.1.all (fun q => !(q.2.1 == 3) || (decide (20 ≤ C.2.1.1) && decide (1000 ≤ C.2.1.2))) = true)
    (hand : ∀ (p : Program) (e : Env) (R : Room) (s : State) (m : MethodId) (args : Array Value) (below : List Frame) (meth : Method) (c : Code) (D : va_G) (tys : List (ClassId × FieldType)) (A : Nat → Prop) (ad : Nat → Nat) (gh : Nat → Int) (ws : va_W) (nu : List Int) (Q : State → Prop), (∀ g, g < Z.2.2 → nu[g]? = some (gh g)) → Q = MQ below (zQc Z D cl tys A ad gh C.2.2.2.1 C.2.2.2.2 ws nu) args s 0 0 A → meth.sig.returnType = (MT C.1).2.2.2 → zCtx p l e R s m args below meth c (MT C.1).2.1 (MT C.1).1.cls (MT C.1).2.2.1 Ts RO cl Z RS P MT CS (C.2.2.1.2.1.length, C.2.2.2.1, C.2.2.2.2, C.2.1, rc) D tys A ad gh ws nu s.heap 0 0 Q →
      zWP (zG Z D cl tys A ad gh C.2.2.2.2 s.heap ws nu (MT C.1).2.2.1) (fun H locs pc ls st => W p l e R s m args below meth c H locs 0 0 Q (F0 m pc ls st)) 0 C.2.2.1.2) : zMet l Ts cl Z RO (zKof MT C) := by
  intro D tys A ad gh ws nu As h0 hEnt hD
  refine Met.ofW (cc := (MT C.1).2.1) (maxL := (MT C.1).2.2.1) (ret := (MT C.1).2.2.2) hy rfl ?_
  intro p e s m args below meth c s₁ B hml hv
  obtain ⟨rfl, hP, hK, hro⟩ := hv
  have hx := B.exec
  have hb := B.bytes
  have hr := B.returns
  have hts0 := atoms_spec (ws := Cond.code (MT C.1).1 (MT C.1).2.1 (MT C.1).2.2.1 (MT C.1).2.2.2 :: Ts) B.pre
  have hts : ∀ w ∈ Ts, w.before As.toArray s = true := fun w hw => hts0 w (List.mem_cons_of_mem _ hw)
  have hown : s.vm.findClass (MT C.1).1.cls = some m.cls := findClass_of_methodNamed B.named
  have hlocks := B.notSynchronized
  obtain ⟨hW, hE1, hC1, hgh, hL, hst, hF, hme⟩ := hEnt
  obtain ⟨q1, q2, q3, q4, q5, q6⟩ := hPk
  have X : zCtx p l e (headSpec (Cond.code (MT C.1).1 (MT C.1).2.1 (MT C.1).2.2.1 (MT C.1).2.2.2 :: Ts) (zrm (zKof MT C))).room s m As.toArray below meth c (MT C.1).2.1 (MT C.1).1.cls (MT C.1).2.2.1 Ts RO cl Z RS P MT CS (C.2.2.1.2.1.length, C.2.2.2.1, C.2.2.2.2, C.2.1, rc) D tys A ad gh ws nu s.heap 0 0 (MQ below (zQc Z D cl tys A ad gh C.2.2.2.1 C.2.2.2.2 ws nu) As.toArray s 0 0 A) := by
    refine ⟨⟨hx, hb, h0, hml, rfl, hown⟩, ⟨hts, hTg, hK, hR, hro, hZ, hlocks⟩, ⟨hE1.1.symm, ⟨Nat.le_refl _, Nat.le_refl _⟩⟩, ⟨fun f hf => ?_, fun f hf h2 => ?_, fun q hq => ⟨(q2 q hq).1, (q2 q hq).2.1, hts _ (q2 q hq).2.2⟩, fun q hq => ⟨(q3 q hq).1, (q3 q hq).2.1, hts _ (q3 q hq).2.2⟩, fun q hq => ?_⟩, fun q hq pc H locs ls rest hd hS kk => ?_, fun q hq pc H locs ls rest hd hS kk => ?_, fun q hq h3 pc H locs ls rest x hd hS hsz hc kk => ?_, fun i tb hi pc H locs ls rest x hd hS hin kk => ?_, hCS, ⟨Nat.zero_le _, Nat.zero_le _⟩, fun nu0 rc2 pc len sg su hE2 hz d0 d1 d2 => zk_ret (Co := (C.2.2.1.2.1.length, C.2.2.2.1, C.2.2.2.2, C.2.1, rc)) hx hb h0 rfl hlocks hE1.1.symm (fun q => hr.trans (hrc.1 q)) (fun q => hr.trans (hrc.2.1 q)) (fun q => hr.trans (hrc.2.2.1 q)) (fun q => hr.trans (hrc.2.2.2 q)) hE2 hz d0 d1 d2⟩
    · obtain ⟨Cn, T, N, ty0, f1, f2, f3, f4, f5, f6, -⟩ := q1 f hf
      exact ⟨Cn, T, N, ty0, f1, f2, fun w hw => hts w (f3 w hw), f4, f5, Or.inl (hts _ f6)⟩
    · obtain ⟨Cn, T, N, ty0, f1, f2, f3, f4, f5, f6, f7, f8, f9, f10⟩ := q1 f hf
      exact ⟨Cn, T, N, ty0, f1, f2, fun w hw => hts w (f3 w hw), f4, f5, Or.inl (hts _ f6), f7 h2, f8, f9, f10⟩
    · obtain ⟨g1, g2, g3, -, g4⟩ := q4 q hq
      refine ⟨g1, g2, fun z Cc hCc => ?_, g4⟩
      obtain ⟨k1, host, k2⟩ := g3 z Cc hCc
      exact ⟨k1, host, k2 ad A s s.heap hro⟩
    · exact q5 q hq p l e _ s m _ below meth c _ _ A ad pc H locs ls rest 0 0 hx hb hown hts hro hd hS kk
    · exact q6 q hq p l e _ s m _ below meth c _ _ A ad pc H locs ls rest 0 0 hx hb hown hts hro hd hS kk
    · have hrm := List.all_eq_true.mp hroom q hq
      have h3' : (!(q.2.1 == 3)) = false := by rw [h3]; rfl
      rw [h3', Bool.false_or, Bool.and_eq_true, decide_eq_true_eq, decide_eq_true_eq] at hrm
      exact (q4 q hq).2.2.2.1 h3 p l e _ s m _ below meth c _ _ A ad pc H locs ls rest 0 0 _ x hx hb hml hown hts hro hrm.1 hrm.2 ⟨Nat.zero_le _, Nat.zero_le _⟩ hd hS hsz hc kk
    · exact hRS i tb hi p l e _ s m _ below meth c _ _ A ad pc H locs ls rest 0 0 x hx hb hro hd hS hin kk
  rw [lg_entry_eq]
  refine hand p e _ s m _ below meth c D tys A ad gh ws nu _ hgh rfl hr X nu _ [] ws s.heap [] ?_
  refine ⟨⟨hP, hD, va_S.rf, hW, fun q j _ => rfl⟩, ⟨hE1, hC1, hgh, [], by rw [List.append_nil]⟩, hL, ?_, hF, ?_⟩
  · have hst : C.2.2.1.2.2.2.2.1 = [] := hst
    rw [hst]
    trivial
  · have hme : C.2.2.1.2.2.2.2.2.2 = [] := hme
    rw [hme]
    exact fun q hq => by cases hq
theorem zofWF {l : Launch} {y : MethodName} {ws ws' : List Cond} {rm : Room} {Pc : Array Value → State → Prop} {Qc : Array Value → State → Outcome → State → Prop} {mc ms : Nat} {free : Addr → Prop} {cc : ByteArray} {maxL : Nat} {ret : Option FieldType}
    (hy : plainFor y = true) (hw : ws = Cond.code y cc maxL ret :: ws')
    (body : ∀ p e s m args below meth c s₁, BodyLoose p l y (headSpec ws rm) cc maxL ret e s m args below meth c s₁ → c.maxLocals = maxL → Pc args s →
      W p l e (headSpec ws rm).room s m args below meth c s.heap [] 0 0 (MQ below Qc args s mc ms free) (entryFrame m args maxL)) : Met l y ws rm Pc Qc mc ms free := by
  refine MetFree.of_bodySF (code := cc) (maxLocals := maxL) (ret := ret) hy ?_ ?_
  · intro args s m h hn
    obtain ⟨meth, c, h1, h2, h3, h4, h5, h6, -, -⟩ := Cond.code_spec hn (atoms_spec (ws := ws) h _ (by rw [hw]; exact List.mem_cons_self))
    exact ⟨meth, c, h1, h2, h3, h4, h5, h6⟩
  · intro p e s m args below meth c s₁ B hml hP _
    have hh0 : s₁.heap = s.heap := by rw [B.state]; rfl
    obtain ⟨t, a1, o, b1, b2, b3⟩ := body p e s m args below meth c s₁ B hml hP s₁ hh0 (Stand.of_body B)
    exact ⟨t, o, a1, b1, b2, ⟨b3.1, b3.2⟩⟩
theorem zmet_ok {l : Launch} {Ts : List Cond} {cl : List vw_C} {Z : zZ} {RO : zRO} {RS : List (List Int)} {MT : zMT} {CS : List zC} {C : zC} {P : zPool} {rc : Nat} {ann : zAnn} {sp : List (Nat × Nat × Int × Int)} {fuel : Nat} (hTg : ∀ w ∈ Ts, goodWord w = true) (hR : zROk RO) (hZ : zDj Z) (hRS : zRowT RO RS) (hPk : zPok Ts cl RO MT (MT C.1).1.cls P) (hCS : ∀ C ∈ CS, zMet l Ts cl Z RO (zKof MT C)) (hrc : zrcOk rc (MT C.1).2.2.2) (hy : plainFor (MT C.1).1 = true)
    (h : zcheck Z RS MT CS C P rc ann sp fuel = true) : zMet l Ts cl Z RO (zKof MT C) := by
  intro D tys A ad gh ws nu As h0 hEnt hD
  unfold zcheck at h
  rw [Bool.and_eq_true, Bool.and_eq_true] at h
  obtain ⟨hrun, hann, hroom⟩ := h
  refine zofWF (cc := (MT C.1).2.1) (maxL := (MT C.1).2.2.1) (ret := (MT C.1).2.2.2) hy rfl ?_
  intro p e s m args below meth c s₁ B hml hv
  obtain ⟨rfl, hP, hK, hro⟩ := hv
  have hx := B.exec
  have hb := B.bytes
  have hr := B.returns
  have hts0 := atoms_spec (ws := Cond.code (MT C.1).1 (MT C.1).2.1 (MT C.1).2.2.1 (MT C.1).2.2.2 :: Ts) B.pre
  have hts : ∀ w ∈ Ts, w.before As.toArray s = true := fun w hw => hts0 w (List.mem_cons_of_mem _ hw)
  have hown : s.vm.findClass (MT C.1).1.cls = some m.cls := findClass_of_methodNamed B.named
  have hlocks := B.notSynchronized
  obtain ⟨hW, hE1, hC1, hgh, hL, hst, hF, hme⟩ := hEnt
  obtain ⟨q1, q2, q3, q4, q5, q6⟩ := hPk
  have X : zCtx p l e (headSpec (Cond.code (MT C.1).1 (MT C.1).2.1 (MT C.1).2.2.1 (MT C.1).2.2.2 :: Ts) (zrm (zKof MT C))).room s m As.toArray below meth c (MT C.1).2.1 (MT C.1).1.cls (MT C.1).2.2.1 Ts RO cl Z RS P MT CS (C.2.2.1.2.1.length, C.2.2.2.1, C.2.2.2.2, C.2.1, rc) D tys A ad gh ws nu s.heap 0 0 (MQ below (zQc Z D cl tys A ad gh C.2.2.2.1 C.2.2.2.2 ws nu) As.toArray s 0 0 A) := by
    refine ⟨⟨hx, hb, h0, hml, rfl, hown⟩, ⟨hts, hTg, hK, hR, hro, hZ, hlocks⟩, ⟨hE1.1.symm, ⟨Nat.le_refl _, Nat.le_refl _⟩⟩, ⟨fun f hf => ?_, fun f hf h2 => ?_, fun q hq => ⟨(q2 q hq).1, (q2 q hq).2.1, hts _ (q2 q hq).2.2⟩, fun q hq => ⟨(q3 q hq).1, (q3 q hq).2.1, hts _ (q3 q hq).2.2⟩, fun q hq => ?_⟩, fun q hq pc H locs ls rest hd hS kk => ?_, fun q hq pc H locs ls rest hd hS kk => ?_, fun q hq h3 pc H locs ls rest x hd hS hsz hc kk => ?_, fun i tb hi pc H locs ls rest x hd hS hin kk => ?_, hCS, ⟨Nat.zero_le _, Nat.zero_le _⟩, fun nu0 rc2 pc len sg su hE2 hz d0 d1 d2 => zk_ret (Co := (C.2.2.1.2.1.length, C.2.2.2.1, C.2.2.2.2, C.2.1, rc)) hx hb h0 rfl hlocks hE1.1.symm (fun q => hr.trans (hrc.1 q)) (fun q => hr.trans (hrc.2.1 q)) (fun q => hr.trans (hrc.2.2.1 q)) (fun q => hr.trans (hrc.2.2.2 q)) hE2 hz d0 d1 d2⟩
    · obtain ⟨Cn, T, N, ty0, f1, f2, f3, f4, f5, f6, -⟩ := q1 f hf
      exact ⟨Cn, T, N, ty0, f1, f2, fun w hw => hts w (f3 w hw), f4, f5, Or.inl (hts _ f6)⟩
    · obtain ⟨Cn, T, N, ty0, f1, f2, f3, f4, f5, f6, f7, f8, f9, f10⟩ := q1 f hf
      exact ⟨Cn, T, N, ty0, f1, f2, fun w hw => hts w (f3 w hw), f4, f5, Or.inl (hts _ f6), f7 h2, f8, f9, f10⟩
    · obtain ⟨g1, g2, g3, -, g4⟩ := q4 q hq
      refine ⟨g1, g2, fun z Cc hCc => ?_, g4⟩
      obtain ⟨k1, host, k2⟩ := g3 z Cc hCc
      exact ⟨k1, host, k2 ad A s s.heap hro⟩
    · exact q5 q hq p l e _ s m _ below meth c _ _ A ad pc H locs ls rest 0 0 hx hb hown hts hro hd hS kk
    · exact q6 q hq p l e _ s m _ below meth c _ _ A ad pc H locs ls rest 0 0 hx hb hown hts hro hd hS kk
    · have hrm := List.all_eq_true.mp hroom q hq
      have h3' : (!(q.2.1 == 3)) = false := by rw [h3]; rfl
      rw [h3', Bool.false_or, Bool.and_eq_true, decide_eq_true_eq, decide_eq_true_eq] at hrm
      exact (q4 q hq).2.2.2.1 h3 p l e _ s m _ below meth c _ _ A ad pc H locs ls rest 0 0 _ x hx hb hml hown hts hro hrm.1 hrm.2 ⟨Nat.zero_le _, Nat.zero_le _⟩ hd hS hsz hc kk
    · exact hRS i tb hi p l e _ s m _ below meth c _ _ A ad pc H locs ls rest 0 0 x hx hb hro hd hS hin kk
  have hall : ∀ a ∈ ann, (0 < a.2.1.2.1.length ∧ ∀ r ∈ a.2.2, r.2.1 < a.2.1.2.1.length) ∧ zrun Z RS P MT CS (C.2.2.1.2.1.length, C.2.2.2.1, C.2.2.2.2, C.2.1, rc) (MT C.1).2.1 ann sp (some a.2.2) fuel a.1 a.2.1.2 = true := fun a ha => by
    have h1 := List.all_eq_true.mp hann a ha
    rw [Bool.and_eq_true, Bool.and_eq_true, decide_eq_true_eq] at h1
    exact ⟨⟨h1.1, fun r hr => by have := List.all_eq_true.mp h1.2.1 r hr; rwa [decide_eq_true_eq] at this⟩, h1.2.2⟩
  have hwk : ∀ a ∈ ann, ∀ i, (a.2.2.getD i (2, 0, 0)).2.1 < a.2.1.2.1.length := fun a ha i => by
    obtain ⟨⟨w1, w2⟩, -⟩ := hall a ha
    rw [List.getD_eq_getElem?_getD]
    cases hg : a.2.2[i]? with
    | none => exact w1
    | some r => exact w2 r (List.mem_of_getElem? hg)
  have lp := zloops X hgh hwk (fun a ha => (hall a ha).2)
  rw [lg_entry_eq]
  refine zrun_ok X hgh ⟨[], by rw [List.append_nil]⟩ (ro := none) (fun r hr => by cases hr) (fun a ha nu' hE2 _ => lp _ a ha nu' hE2 rfl) fuel 0 C.2.2.1.2 hrun nu _ [] ws s.heap [] ?_
  refine ⟨⟨hP, hD, va_S.rf, hW, fun q j _ => rfl⟩, ⟨hE1, hC1, hgh, [], by rw [List.append_nil]⟩, hL, ?_, hF, ?_⟩
  · have hst : C.2.2.1.2.2.2.2.1 = [] := hst
    rw [hst]
    trivial
  · have hme : C.2.2.1.2.2.2.2.2.2 = [] := hme
    rw [hme]
    exact fun q hq => by cases hq
