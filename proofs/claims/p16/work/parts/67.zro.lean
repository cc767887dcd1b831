/-! WHAT NOBODY WRITES: the two tables, the row of names; its indexOf, by hand -/
def zNWM (q : String × Nat × MethodName) : Cond := Cond.methodLinkNest q.1 q.2.1 q.2.2 "PushedIn"
def zTbl (a : Nat) (tb : List Int) (A : Nat → Prop) (U : State) (H : Heap) : Prop := va_T .int a tb.length (fun j => .int (Int32.ofInt (tb.getD j 0))) A U H
def zStr (ad : Nat → Nat) (A : Nat → Prop) (U : State) (H : Heap) : Prop := va_Z "java/lang/String" "COMPACT_STRINGS" "Z" (.int 1) A U H ∧ va_O "java/lang/String" (ad 2000) A U H ∧ va_OF "java/lang/String" "coder" "B" (.int 0) (ad 2000) A U H ∧ va_OF "java/lang/String" "value" "[B" (.ref (ad 2001)) (ad 2000) A U H ∧ va_T .byte (ad 2001) 8 (fun j => .int (([119, 115, 109, 108, 110, 100, 97, 98] : List Int32).getD j 0)) A U H
def zROx (KA BO : List Int) (i11 i78 : Nat) (tx : String) (MN : List (String × Nat × MethodName)) (iK : Nat) : zRO := fun ad A U H => (va_Z "PushedIn" "KIND_ABOVE" "[I" (.ref (ad 1000)) A U H ∧ zTbl (ad 1000) KA A U H ∧ va_Z "PushedIn$Acts" "BODIES" "[I" (.ref (ad 1001)) A U H ∧ zTbl (ad 1001) BO A U H) ∧ zStr ad A U H ∧ vk_R "PushedIn$Rules" i11 tx (ad 2000) U ∧ vk_R "PushedIn$Text" i78 tx (ad 2000) U ∧ (∀ q ∈ MN, va_Nw (zNWM q) U) ∧ va_Nw (Cond.fieldLinkNest "PushedIn$Acts" iK "PushedIn" "KIND_ABOVE" "[I" "PushedIn") U
theorem zStr.moved {ad : Nat → Nat} {A : Nat → Prop} {u U : State} {H : Heap} (hvm : u.vm.Alike U.vm) (h : zStr ad A u H) : zStr ad A U H := ⟨va_Z.moved hvm h.1, va_O.moved hvm h.2.1, va_OF.moved hvm h.2.2.1, va_OF.moved hvm h.2.2.2.1, va_T.moved hvm h.2.2.2.2⟩
theorem zStr.kept {ad : Nat → Nat} {A : Nat → Prop} {U : State} {H H1 : Heap} (h : zStr ad A U H) (hq : ∀ a : Nat, a < H.size → ¬ A a → H1[a]? = H[a]?) : zStr ad A U H1 := ⟨h.1.kept hq, h.2.1.kept hq, h.2.2.1.kept hq, h.2.2.2.1.kept hq, h.2.2.2.2.kept hq⟩
theorem zROx_ok {KA BO : List Int} {i11 i78 : Nat} {tx : String} {MN : List (String × Nat × MethodName)} {iK : Nat} : zROk (zROx KA BO i11 i78 tx MN iK) := by
  refine ⟨fun ad A s U H hW h => ?_, fun ad A u U H hv h => ?_, fun ad A U H H1 hq h => ?_⟩
  · obtain ⟨⟨a1, a2, a3, a4⟩, b, c1, c2, d1, d2⟩ := h
    exact ⟨⟨va_Z.moved hW.alike a1, va_T.moved hW.alike a2, va_Z.moved hW.alike a3, va_T.moved hW.alike a4⟩, b.moved hW.alike, vk_R.warm hW c1, vk_R.warm hW c2, fun q hq => va_Nw.warmM hW (d1 q hq), va_Nw.warmF hW d2⟩
  · obtain ⟨⟨a1, a2, a3, a4⟩, b, c1, c2, d1, d2⟩ := h
    have hA : u.vm.Alike U.vm := hv ▸ Vm.Alike.refl u.vm
    exact ⟨⟨va_Z.moved hA a1, va_T.moved hA a2, va_Z.moved hA a3, va_T.moved hA a4⟩, b.moved hA, vk_R.same hv.symm c1, vk_R.same hv.symm c2, fun q hq => va_Nw.same rfl hv (d1 q hq), va_Nw.same rfl hv d2⟩
  · obtain ⟨⟨a1, a2, a3, a4⟩, b, c1, c2, d1, d2⟩ := h
    exact ⟨⟨a1.kept hq, va_T.kept a2 hq, a3.kept hq, va_T.kept a4 hq⟩, b.kept hq, c1, c2, d1, d2⟩
theorem zrowG {RO : zRO} {own : String} {Ts : List Cond} {idx k : Nat} {C n d : String} (hw : Cond.fieldLink own idx C n d ∈ Ts) (hRO : ∀ ad A s H, RO ad A s H → va_Z C n d (.ref (ad k)) A s H) : zRowG RO own Ts Instr.getstatic 3 (idx, k) := fun p l e R s m args below meth c Q cc A ad pc H locs ls rest ce sl hx hb hown hts hro hd hS kk => va_gets hx hb (hRO _ _ _ _ hro) hS hown (hts _ hw) (fun x h => h) hd kk
theorem zrowGN {RO : zRO} {own host : String} {Ts : List Cond} {idx k : Nat} {C n d : String} (hw : ∀ ad A s H, RO ad A s H → va_Nw (Cond.fieldLinkNest own idx C n d host) s) (hRO : ∀ ad A s H, RO ad A s H → va_Z C n d (.ref (ad k)) A s H) : zRowG RO own Ts Instr.getstatic 3 (idx, k) := fun p l e R s m args below meth c Q cc A ad pc H locs ls rest ce sl hx hb hown hts hro hd hS kk => va_getsN hx hb (hRO _ _ _ _ hro) hS hown (va_Nw.use rfl (hw _ _ _ _ hro)) (fun x h => h) hd kk
theorem zrowS {RO : zRO} {own tx : String} {Ts : List Cond} {idx k : Nat} (hw : ∀ ad A s H, RO ad A s H → vk_R own idx tx (ad k) s) : zRowG RO own Ts Instr.ldc 2 (idx, k) := fun p l e R s m args below meth c Q cc A ad pc H locs ls rest ce sl hx hb hown hts hro hd hS kk => va_ldcS hx hb hown (hw _ _ _ _ hro) hd kk
theorem zrowT {RO : zRO} {KA BO : List Int} (h0 : ∀ ad A s H, RO ad A s H → zTbl (ad 1000) KA A s H) (h1 : ∀ ad A s H, RO ad A s H → zTbl (ad 1001) BO A s H) : zRowT RO [KA, BO] := by
  intro i tb hi p l e R s m args below meth c Q cc A ad pc H locs ls rest ce sl x hx hb hro hd hS hin kk
  match i, hi with
  | 0, hi => cases hi; exact va_ti hx hb (h0 _ _ _ _ hro) hS hin rfl hd kk
  | 1, hi => cases hi; exact va_ti hx hb (h1 _ _ _ _ hro) hS hin rfl hd kk
  | n + 2, hi => cases hi
/-- a contract that only answers -/
def zPu (l : Launch) (Ts : List Cond) (RO : zRO) (y : MethodName) (bytes : ByteArray) (maxL : Nat) (ret : Option FieldType) (fr lo : Nat) (Pa : (Nat → Nat) → List Value → Prop) (Pr : Int32 → Prop) : Prop := ∀ (A : Nat → Prop) (ad : Nat → Nat) (As : List Value), Pa ad As → Met l y (Cond.code y bytes maxL ret :: Ts) { frames := fr, cells := 0, slots := 0, locals := lo } (fun a U => a = As.toArray ∧ RO ad A U U.heap) (fun _ st o t => (∃ r : Int32, o = .returned (some (.int r)) ∧ Pr r) ∧ t.heap = st.heap) 0 0 A
theorem zpu_of {l : Launch} {Ts : List Cond} {RO : zRO} {y : MethodName} {bytes : ByteArray} {maxL : Nat} {ret : Option FieldType} {fr lo : Nat} {Pa : (Nat → Nat) → List Value → Prop} {Pr : Int32 → Prop} (hy : plainFor y = true) (hlen : ∀ ad As, Pa ad As → (lg_sl As).length ≤ maxL)
    (body : ∀ (p : Program) (e : Env) (R : Room) (s : State) (m : MethodId) (args : Array Value) (below : List Frame) (meth : Method) (c : Code) (A : Nat → Prop) (ad : Nat → Nat) (As : List Value) (ls : Array Slot), Pa ad As → p.tables.exec = Jvm.exec → c.code = bytes → meth.sig.returnType = ret → meth.locks = false → c.maxLocals = maxL → s.vm.findClass y.cls = some m.cls → (∀ w ∈ Ts, w.before args s = true) → RO ad A s s.heap → fr ≤ R.frames → lo ≤ R.locals → lv_has ls maxL (lv_args 0 As) →
      W p l e R s m args below meth c s.heap [] 0 0 (MQ below (fun _ st o t => (∃ r : Int32, o = .returned (some (.int r)) ∧ Pr r) ∧ t.heap = st.heap) args s 0 0 A) (F0 m 0 ls [])) : zPu l Ts RO y bytes maxL ret fr lo Pa Pr := by
  intro A ad As hPa
  refine zofWF (cc := bytes) (maxL := maxL) (ret := ret) hy rfl ?_
  intro p e s m args below meth c s₁ B hml hv
  obtain ⟨rfl, hro⟩ := hv
  have hts0 := atoms_spec (ws := Cond.code y bytes maxL ret :: Ts) B.pre
  rw [lg_entry_eq]
  exact body p e _ s m _ below meth c A ad As _ hPa B.exec B.bytes B.returns B.notSynchronized hml (findClass_of_methodNamed B.named) (fun w hw => hts0 w (List.mem_cons_of_mem _ hw)) hro (Nat.le_refl _) (Nat.le_refl _) (lv_entry As (hlen ad As hPa))
section ZPU
variable {p : Program} {l : Launch} {e : Env} {R : Room} {s : State} {m : MethodId} {args : Array Value} {below : List Frame} {meth : Method} {c : Code} {Q : State → Prop} {cc : ByteArray} {pc ce sl : Nat} {A : Nat → Prop} {ad : Nat → Nat} {Ts : List Cond} {RO : zRO} {y : MethodName} {bytes : ByteArray} {maxL nL fr lo n idx : Nat} {ret : Option FieldType} {Pa : (Nat → Nat) → List Value → Prop} {Pr : Int32 → Prop} {own : String} {H : Heap} {locs : List Loc} {ls : Array Slot} {As restc : List Value}
theorem zpu_callS (hx : p.tables.exec = Jvm.exec) (hb : c.code = cc) (hcs : ce ≤ R.cells ∧ sl ≤ R.slots) (hml : c.maxLocals = nL) (hown : s.vm.findClass own = some m.cls) (hts : ∀ w ∈ Ts, w.before args s = true) (hTg : ∀ w ∈ Ts, goodWord w = true) (hR : zROk RO) (hro : RO ad A s s.heap) (hS : va_S A s.heap H locs) (hM : zPu l Ts RO y bytes maxL ret fr lo Pa Pr) (hPa : Pa ad As) (hd : decode cc pc = .ok (.invokestatic idx, 3))
    (hw : Cond.static y ∈ Ts ∧ Cond.initialized y.cls ∈ Ts ∧ Cond.code y bytes maxL ret ∈ Ts ∧ Cond.methodLink own idx y ∈ Ts ∧ y.cls ≠ "java/lang/invoke/MethodHandle" ∧ y.cls ≠ "java/lang/invoke/VarHandle" ∧ (parseMethodDescriptor y.desc).map (fun d => d.parameters.length) = some n) (hn : As.length = n) (hsz : ls.size = nL) (hroom : fr + 1 ≤ R.frames ∧ 8 + (maxL + 11) + lo ≤ R.locals) (hsum : (restc.map fun v => v.category).sum ≤ 8)
    (k : ∀ (r : Int32) (locs1 : List Loc), Pr r → va_S A s.heap H locs1 → W p l e R s m args below meth c H locs1 ce sl Q (F0 m (pc + 3) ls (.int r :: restc))) : W p l e R s m args below meth c H locs ce sl Q (F0 m pc ls (As.reverse ++ restc)) := by
  obtain ⟨l3, l4, l5, l1, l6, l7, l8⟩ := hw
  have hgd : GoodIn Ts (Cond.code y bytes maxL ret :: Ts) := zgoodIn hTg (fun w hw => by
    rcases List.mem_cons.mp hw with rfl | hw
    · exact l5
    · exact hw)
  have hpre : PreS s H (fun a U => a = As.toArray ∧ RO ad A U U.heap) As := ⟨fun a U g mk hU => ⟨hU.1, hR.2.1 ad A U _ _ rfl hU.2⟩, fun U hU hW => ⟨rfl, by
    rw [hU]
    exact hR.1 ad A s U H hW (hR.2.2 ad A s s.heap H (fun a h1 h2 => hS.2.1 a h1 h2) hro)⟩⟩
  have hr := va_runS (e := e) (locs := locs) (cells := ce) (slots := sl) (meth := meth) (below := below) (g := F0 m pc ls (As.reverse ++ restc)) (As := As) (rest := restc) (n := n) ⟨hx, hb, hml, hown, hts⟩ (hM A ad As hPa) ⟨callB_of n hts hgd rfl rfl rfl (hts _ l4) (hts _ l1) ⟨l6, l7, l8⟩ hroom, hts _ l3⟩ hpre rfl hn hsz rfl (lv_room hsum) hd ⟨hcs.1, hcs.2⟩
  intro T0 hT X
  obtain ⟨v, st₀, t, T', L', g0, X', hL, e1, e2, ⟨⟨r, hv, hr2⟩, hh⟩, hst⟩ := hr T0 hT X
  cases hv
  have hS1 : va_S A s.heap H (locs ++ L') := ⟨hS.1, hS.2.1, fun q hq => by
    rcases List.mem_append.mp hq with h | h
    · exact hS.2.2 q h
    · exact hL q h⟩
  obtain ⟨t2, a1, b1⟩ := k r _ hr2 hS1 T' (by rw [e1, hh, g0]) X'
  exact ⟨t2, hst t2 a1, b1⟩
theorem zpu_callV (hx : p.tables.exec = Jvm.exec) (hb : c.code = cc) (hcs : ce ≤ R.cells ∧ sl ≤ R.slots) (hml : c.maxLocals = nL) (hown : s.vm.findClass own = some m.cls) (hts : ∀ w ∈ Ts, w.before args s = true) (hTg : ∀ w ∈ Ts, goodWord w = true) (hR : zROk RO) (hro : RO ad A s s.heap) (hS : va_S A s.heap H locs) {b : Nat} (hM : zPu l Ts RO y bytes maxL ret fr lo Pa Pr) (hPa : Pa ad (.ref b :: As)) (hrv : ∃ cell : Cell, H[b]? = some cell ∧ cell.vm.isStatics = false ∧ s.vm.findClass y.cls = some cell.cls) (hd : decode cc pc = .ok (.invokevirtual idx, 3))
    (hw : Cond.methodLink own idx y ∈ Ts ∧ Cond.instanceMethod y ∈ Ts ∧ Cond.selects y.cls y y ∈ Ts ∧ Cond.initialized y.cls ∈ Ts ∧ Cond.code y bytes maxL ret ∈ Ts ∧ y.cls ≠ "java/lang/invoke/MethodHandle" ∧ y.cls ≠ "java/lang/invoke/VarHandle" ∧ (parseMethodDescriptor y.desc).map (fun d => d.parameters.length) = some n) (hn : As.length = n) (hsz : ls.size = nL) (hroom : fr + 1 ≤ R.frames ∧ 8 + (maxL + 11) + lo ≤ R.locals) (hsum : (restc.map fun v => v.category).sum ≤ 8)
    (k : ∀ (r : Int32) (locs1 : List Loc), Pr r → va_S A s.heap H locs1 → W p l e R s m args below meth c H locs1 ce sl Q (F0 m (pc + 3) ls (.int r :: restc))) : W p l e R s m args below meth c H locs ce sl Q (F0 m pc ls (As.reverse ++ .ref b :: restc)) := by
  obtain ⟨l1, l2, l3, l4, l5, l6, l7, l8⟩ := hw
  have hgd : GoodIn Ts (wsV own idx y.cls y (Cond.code y bytes maxL ret :: Ts)) := zgoodIn hTg (fun w hw => by
    unfold wsV at hw
    rcases List.mem_append.mp hw with hw | hw
    · simp only [List.mem_cons, List.not_mem_nil, or_false] at hw
      rcases hw with rfl | rfl | rfl | rfl
      · exact l1
      · exact l2
      · exact l3
      · exact l4
    · rcases List.mem_cons.mp hw with rfl | hw
      · exact l5
      · exact hw)
  have hr := va_runV (e := e) (locs := locs) (cells := ce) (slots := sl) (meth := meth) (below := below) (g := F0 m pc ls (As.reverse ++ .ref b :: restc)) (H := H) (As := As) (rest := restc) (n := n) ⟨hx, hb, hml, hown, hts⟩ (hM A ad _ hPa) (cwV n hts hgd rfl rfl rfl ⟨rfl, l6, l7, l8⟩ hroom) ⟨fun a U g mk hU => ⟨hU.1, hR.2.1 ad A U _ _ rfl hU.2⟩, hrv, fun U hU hW => ⟨rfl, by
    rw [hU]
    exact hR.1 ad A s U H hW (hR.2.2 ad A s s.heap H (fun a h1 h2 => hS.2.1 a h1 h2) hro)⟩⟩ rfl hn hsz rfl (lv_room hsum) hd ⟨hcs.1, hcs.2⟩
  intro T0 hT X
  obtain ⟨v, st₀, t, T', L', g0, X', hL, e1, e2, ⟨⟨r, hv, hr2⟩, hh⟩, hst⟩ := hr T0 hT X
  cases hv
  have hS1 : va_S A s.heap H (locs ++ L') := ⟨hS.1, hS.2.1, fun q hq => by
    rcases List.mem_append.mp hq with h | h
    · exact hS.2.2 q h
    · exact hL q h⟩
  obtain ⟨t2, a1, b1⟩ := k r _ hr2 hS1 T' (by rw [e1, hh, g0]) X'
  exact ⟨t2, hst t2 a1, b1⟩
end ZPU

/-- the words that it needs -/
def zStW : List Cond := [Cond.static (⟨"java/lang/StringLatin1", "canEncode", "(I)Z"⟩ : MethodName), Cond.initialized "java/lang/StringLatin1", Cond.code (⟨"java/lang/StringLatin1", "canEncode", "(I)Z"⟩ : MethodName) prog_19_method_4_code 1 (some .boolean), Cond.methodLink "java/lang/StringLatin1" 88 (⟨"java/lang/StringLatin1", "canEncode", "(I)Z"⟩ : MethodName), Cond.methodLink "java/lang/StringLatin1" 92 Lib.Math.max.name, Cond.static Lib.Math.max.name, Cond.initialized "java/lang/Math", Cond.code Lib.Math.max.name Lib.Math.max.code 2 (some .int), Cond.methodLink "java/lang/StringLatin1" 38 Lib.Math.min.name, Cond.static Lib.Math.min.name, Cond.code Lib.Math.min.name Lib.Math.min.code 2 (some .int), Cond.static (⟨"java/lang/StringLatin1", "indexOfChar", "([BIII)I"⟩ : MethodName), Cond.code (⟨"java/lang/StringLatin1", "indexOfChar", "([BIII)I"⟩ : MethodName) prog_19_method_23_code 6 (some .int), Cond.methodLink "java/lang/StringLatin1" 95 (⟨"java/lang/StringLatin1", "indexOfChar", "([BIII)I"⟩ : MethodName), Cond.fieldLink "java/lang/String" 38 "java/lang/String" "COMPACT_STRINGS" "Z", Cond.fieldLink "java/lang/String" 15 "java/lang/String" "coder" "B", Cond.fieldLink "java/lang/String" 9 "java/lang/String" "value" "[B", Cond.methodLink "java/lang/String" 335 (⟨"java/lang/String", "coder", "()B"⟩ : MethodName), Cond.instanceMethod (⟨"java/lang/String", "coder", "()B"⟩ : MethodName), Cond.selects "java/lang/String" (⟨"java/lang/String", "coder", "()B"⟩ : MethodName) (⟨"java/lang/String", "coder", "()B"⟩ : MethodName), Cond.initialized "java/lang/String", Cond.code (⟨"java/lang/String", "coder", "()B"⟩ : MethodName) prog_18_method_152_code 1 (some .byte), Cond.methodLink "java/lang/String" 492 (⟨"java/lang/String", "isLatin1", "()Z"⟩ : MethodName), Cond.instanceMethod (⟨"java/lang/String", "isLatin1", "()Z"⟩ : MethodName), Cond.selects "java/lang/String" (⟨"java/lang/String", "isLatin1", "()Z"⟩ : MethodName) (⟨"java/lang/String", "isLatin1", "()Z"⟩ : MethodName), Cond.code (⟨"java/lang/String", "isLatin1", "()Z"⟩ : MethodName) prog_18_method_154_code 1 (some .boolean), Cond.methodLink "java/lang/String" 505 (⟨"java/lang/String", "length", "()I"⟩ : MethodName), Cond.instanceMethod (⟨"java/lang/String", "length", "()I"⟩ : MethodName), Cond.selects "java/lang/String" (⟨"java/lang/String", "length", "()I"⟩ : MethodName) (⟨"java/lang/String", "length", "()I"⟩ : MethodName), Cond.code (⟨"java/lang/String", "length", "()I"⟩ : MethodName) prog_18_method_54_code 1 (some .int), Cond.static (⟨"java/lang/StringLatin1", "indexOf", "([BIII)I"⟩ : MethodName), Cond.code (⟨"java/lang/StringLatin1", "indexOf", "([BIII)I"⟩ : MethodName) prog_19_method_22_code 4 (some .int), Cond.methodLink "java/lang/String" 637 (⟨"java/lang/StringLatin1", "indexOf", "([BIII)I"⟩ : MethodName), Cond.methodLink "java/lang/String" 633 (⟨"java/lang/String", "indexOf", "(II)I"⟩ : MethodName), Cond.instanceMethod (⟨"java/lang/String", "indexOf", "(II)I"⟩ : MethodName), Cond.selects "java/lang/String" (⟨"java/lang/String", "indexOf", "(II)I"⟩ : MethodName) (⟨"java/lang/String", "indexOf", "(II)I"⟩ : MethodName), Cond.code (⟨"java/lang/String", "indexOf", "(II)I"⟩ : MethodName) prog_18_method_80_code 3 (some .int), Cond.instanceMethod (⟨"java/lang/String", "indexOf", "(I)I"⟩ : MethodName), Cond.selects "java/lang/String" (⟨"java/lang/String", "indexOf", "(I)I"⟩ : MethodName) (⟨"java/lang/String", "indexOf", "(I)I"⟩ : MethodName), Cond.code (⟨"java/lang/String", "indexOf", "(I)I"⟩ : MethodName) prog_18_method_79_code 2 (some .int)]
theorem zst_can {l : Launch} {Ts : List Cond} {RO : zRO} : zPu l Ts RO (⟨"java/lang/StringLatin1", "canEncode", "(I)Z"⟩ : MethodName) prog_19_method_4_code 1 (some .boolean) 1 40 (fun _ As => ∃ x : Int32, As = [.int x]) (fun r => r = 0 ∨ r = 1) := by
  refine zpu_of (by decide +kernel) (fun ad As h => by obtain ⟨x, rfl⟩ := h; exact Nat.le_refl _) ?_
  intro p e R s m args below meth c A ad As ls hPa hx hb hr hlocks hml hown hts hro hfr hlo hl
  obtain ⟨x, rfl⟩ := hPa
  have d0 : decode prog_19_method_4_code 0 = .ok (.iload_n 0, 1) := by decide +kernel
  have d1 : decode prog_19_method_4_code 1 = .ok (.ifCond .lt 14, 3) := by decide +kernel
  have d4 : decode prog_19_method_4_code 4 = .ok (.iload_n 0, 1) := by decide +kernel
  have d5 : decode prog_19_method_4_code 5 = .ok (.sipush 255, 3) := by decide +kernel
  have d8 : decode prog_19_method_4_code 8 = .ok (.if_icmp .gt 7, 3) := by decide +kernel
  have d11 : decode prog_19_method_4_code 11 = .ok (.iconst 1, 1) := by decide +kernel
  have d12 : decode prog_19_method_4_code 12 = .ok (.goto 4, 3) := by decide +kernel
  have d15 : decode prog_19_method_4_code 15 = .ok (.iconst 0, 1) := by decide +kernel
  have d16 : decode prog_19_method_4_code 16 = .ok (.ireturn, 1) := by decide +kernel
  have g0 := lv_at hl 0 rfl
  have fin : ∀ v : Int32, v = 0 ∨ v = 1 → W p l e R s m args below meth c s.heap [] 0 0 (MQ below (fun _ st o t => (∃ r : Int32, o = .returned (some (.int r)) ∧ (r = 0 ∨ r = 1)) ∧ t.heap = st.heap) args s 0 0 A) (F0 m 16 ls [.int v]) := fun v hv => W.zret hx hb hr (by rcases hv with rfl | rfl <;> decide) (fun t ht _ => ⟨⟨v, rfl, hv⟩, ht⟩) (fun q hq => by cases hq) d16 hlocks
  refine lv_iload_n hx hb d0 rfl g0 ?_
  refine lv_if_lt hx hb d1 (tgt := 15) (by decide) (fun _ => lv_iconst hx hb d15 rfl (fin 0 (Or.inl rfl))) (fun _ => ?_)
  refine lv_iload_n hx hb d4 rfl g0 ?_
  refine lv_sipush hx hb d5 rfl ?_
  refine lv_icmp_gt hx hb d8 (tgt := 15) (by decide) (fun _ => lv_iconst hx hb d15 rfl (fin 0 (Or.inl rfl))) (fun _ => ?_)
  refine lv_iconst hx hb d11 rfl ?_
  exact lv_goto hx hb d12 (tgt := 16) (by decide) (fin 1 (Or.inr rfl))
theorem zst_ioc {l : Launch} {Ts : List Cond} {RO : zRO} (hS : ∀ ad A s H, RO ad A s H → zStr ad A s H) : zPu l Ts RO (⟨"java/lang/StringLatin1", "indexOfChar", "([BIII)I"⟩ : MethodName) prog_19_method_23_code 6 (some .int) 1 40 (fun ad As => ∃ x lo hi : Int32, As = [.ref (ad 2001), .int x, .int lo, .int hi] ∧ 0 ≤ lo.toInt ∧ lo.toInt ≤ 8 ∧ hi.toInt ≤ 8) (fun r => -1 ≤ r.toInt ∧ r.toInt ≤ 7) := by
  refine zpu_of (by decide +kernel) (fun ad As h => by obtain ⟨x, lo, hi, rfl, -⟩ := h; exact Nat.le_of_ble_eq_true rfl) ?_
  intro p e R s m args below meth c A ad As ls hPa hx hb hr hlocks hml hown hts hro hfr hlo hl
  obtain ⟨x, lo, hi, rfl, l1, l2, l3⟩ := hPa
  have d0 : decode prog_19_method_23_code 0 = .ok (.iload_n 1, 1) := by decide +kernel
  have d1 : decode prog_19_method_23_code 1 = .ok (.i2b, 1) := by decide +kernel
  have d2 : decode prog_19_method_23_code 2 = .ok (.istore 4, 2) := by decide +kernel
  have d4 : decode prog_19_method_23_code 4 = .ok (.iload_n 2, 1) := by decide +kernel
  have d5 : decode prog_19_method_23_code 5 = .ok (.istore 5, 2) := by decide +kernel
  have d7 : decode prog_19_method_23_code 7 = .ok (.iload 5, 2) := by decide +kernel
  have d9 : decode prog_19_method_23_code 9 = .ok (.iload_n 3, 1) := by decide +kernel
  have d10 : decode prog_19_method_23_code 10 = .ok (.if_icmp .ge 21, 3) := by decide +kernel
  have d13 : decode prog_19_method_23_code 13 = .ok (.aload_n 0, 1) := by decide +kernel
  have d14 : decode prog_19_method_23_code 14 = .ok (.iload 5, 2) := by decide +kernel
  have d16 : decode prog_19_method_23_code 16 = .ok (.baload, 1) := by decide +kernel
  have d17 : decode prog_19_method_23_code 17 = .ok (.iload 4, 2) := by decide +kernel
  have d19 : decode prog_19_method_23_code 19 = .ok (.if_icmp .ne 6, 3) := by decide +kernel
  have d22 : decode prog_19_method_23_code 22 = .ok (.iload 5, 2) := by decide +kernel
  have d24 : decode prog_19_method_23_code 24 = .ok (.ireturn, 1) := by decide +kernel
  have d25 : decode prog_19_method_23_code 25 = .ok (.iinc 5 1, 3) := by decide +kernel
  have d28 : decode prog_19_method_23_code 28 = .ok (.goto (-21), 3) := by decide +kernel
  have d31 : decode prog_19_method_23_code 31 = .ok (.iconst (-1), 1) := by decide +kernel
  have d32 : decode prog_19_method_23_code 32 = .ok (.ireturn, 1) := by decide +kernel
  have hT := (hS _ _ _ _ hro).2.2.2.2
  refine lv_iload_n hx hb d0 rfl (lv_at hl 1 rfl) ?_
  refine lv_i2b hx hb d1 rfl ?_
  refine lv_istore hx hb d2 hl (by decide) rfl (fun ls1 hl1 => ?_)
  refine lv_iload_n hx hb d4 rfl (lv_at hl1 3 rfl) ?_
  refine lv_istore hx hb d5 hl1 (by decide) rfl (fun ls2 hl2 => ?_)
  have loop : ∀ (n : Nat) (i : Int32) (ls : Array Slot), (8 - i.toInt).toNat = n → 0 ≤ i.toInt → i.toInt ≤ 8 → lv_has ls 6 [(5, .int i), (4, .int x.toInt8.toInt32), (0, .ref (ad 2001)), (1, .int x), (2, .int lo), (3, .int hi)] → W p l e R s m args below meth c s.heap [] 0 0 (MQ below (fun _ st o t => (∃ r : Int32, o = .returned (some (.int r)) ∧ (-1 ≤ r.toInt ∧ r.toInt ≤ 7)) ∧ t.heap = st.heap) args s 0 0 A) (F0 m 7 ls []) := by
    intro n
    induction n using Nat.strongRecOn with
    | ind n ih =>
      intro i ls hn i0 i8 hl
      refine lv_iload hx hb d7 (lv_at hl 0 rfl) ?_
      refine lv_iload_n hx hb d9 rfl (lv_at hl 5 rfl) ?_
      refine lv_icmp_ge hx hb d10 (tgt := 31) (by decide) (fun _ => ?_) (fun h => ?_)
      · refine lv_iconst hx hb d31 rfl ?_
        exact W.iret hx hb hr (fun t ht _ => ⟨⟨_, rfl, by decide⟩, ht⟩) (fun q hq => by cases hq) d32 hlocks
      · have hlt : i.toInt < hi.toInt := by have := mt Int32.le_iff_toInt_le.mpr h; omega
        have hin : vp_in i 8 := vp_in_iff.mpr ⟨by omega, by omega⟩
        refine lv_aload_n hx hb d13 rfl (lv_at hl 2 rfl) ?_
        refine lv_iload hx hb d14 (lv_at hl 0 rfl) ?_
        refine va_tb hx hb hT va_S.rf hin rfl d16 ?_
        refine lv_iload hx hb d17 (lv_at hl 1 rfl) ?_
        refine lv_icmp_ne hx hb d19 (tgt := 25) (by decide) (fun _ => ?_) (fun _ => ?_)
        · refine lv_iinc hx hb d25 hl (k := 0) rfl rfl (by decide) rfl (fun ls3 hl3 => ?_)
          refine lv_goto hx hb d28 (tgt := 7) (by decide) ?_
          have h1 : (i + Int32.ofInt 1).toInt = i.toInt + 1 := by
            rw [Int32.toInt_add, show (Int32.ofInt 1).toInt = 1 from rfl, Int.bmod_eq_of_le (by omega) (by omega)]
          exact ih (8 - (i + Int32.ofInt 1).toInt).toNat (by omega) _ ls3 rfl (by omega) (by omega) hl3
        · refine lv_iload hx hb d22 (lv_at hl 0 rfl) ?_
          exact W.iret hx hb hr (fun t ht _ => ⟨⟨_, rfl, by omega, by omega⟩, ht⟩) (fun q hq => by cases hq) d24 hlocks
  exact loop _ lo ls2 rfl l1 l2 hl2
theorem zst_io1 {l : Launch} {Ts : List Cond} {RO : zRO} (hS : ∀ ad A s H, RO ad A s H → zStr ad A s H) (hTg : ∀ w ∈ Ts, goodWord w = true) (hR : zROk RO) (hW : ∀ w ∈ zStW, w ∈ Ts) : zPu l Ts RO (⟨"java/lang/StringLatin1", "indexOf", "([BIII)I"⟩ : MethodName) prog_19_method_22_code 4 (some .int) 3 200 (fun ad As => ∃ x : Int32, As = [.ref (ad 2001), .int x, .int 0, .int 8]) (fun r => -1 ≤ r.toInt ∧ r.toInt ≤ 7) := by
  refine zpu_of (by decide +kernel) (fun ad As h => by obtain ⟨x, rfl⟩ := h; exact Nat.le_of_ble_eq_true rfl) ?_
  intro p e R s m args below meth c A ad As ls hPa hx hb hr hlocks hml hown hts hro hfr hlo hl
  obtain ⟨x, rfl⟩ := hPa
  have d0 : decode prog_19_method_22_code 0 = .ok (.iload_n 1, 1) := by decide +kernel
  have d1 : decode prog_19_method_22_code 1 = .ok (.invokestatic 88, 3) := by decide +kernel
  have d4 : decode prog_19_method_22_code 4 = .ok (.ifCond .ne 5, 3) := by decide +kernel
  have d7 : decode prog_19_method_22_code 7 = .ok (.iconst (-1), 1) := by decide +kernel
  have d8 : decode prog_19_method_22_code 8 = .ok (.ireturn, 1) := by decide +kernel
  have d9 : decode prog_19_method_22_code 9 = .ok (.iload_n 2, 1) := by decide +kernel
  have d10 : decode prog_19_method_22_code 10 = .ok (.iconst 0, 1) := by decide +kernel
  have d11 : decode prog_19_method_22_code 11 = .ok (.invokestatic 92, 3) := by decide +kernel
  have d14 : decode prog_19_method_22_code 14 = .ok (.istore_n 2, 1) := by decide +kernel
  have d15 : decode prog_19_method_22_code 15 = .ok (.iload_n 3, 1) := by decide +kernel
  have d16 : decode prog_19_method_22_code 16 = .ok (.aload_n 0, 1) := by decide +kernel
  have d17 : decode prog_19_method_22_code 17 = .ok (.arraylength, 1) := by decide +kernel
  have d18 : decode prog_19_method_22_code 18 = .ok (.invokestatic 38, 3) := by decide +kernel
  have d21 : decode prog_19_method_22_code 21 = .ok (.istore_n 3, 1) := by decide +kernel
  have d22 : decode prog_19_method_22_code 22 = .ok (.iload_n 2, 1) := by decide +kernel
  have d23 : decode prog_19_method_22_code 23 = .ok (.iload_n 3, 1) := by decide +kernel
  have d24 : decode prog_19_method_22_code 24 = .ok (.if_icmp .lt 5, 3) := by decide +kernel
  have d27 : decode prog_19_method_22_code 27 = .ok (.iconst (-1), 1) := by decide +kernel
  have d28 : decode prog_19_method_22_code 28 = .ok (.ireturn, 1) := by decide +kernel
  have d29 : decode prog_19_method_22_code 29 = .ok (.aload_n 0, 1) := by decide +kernel
  have d30 : decode prog_19_method_22_code 30 = .ok (.iload_n 1, 1) := by decide +kernel
  have d31 : decode prog_19_method_22_code 31 = .ok (.iload_n 2, 1) := by decide +kernel
  have d32 : decode prog_19_method_22_code 32 = .ok (.iload_n 3, 1) := by decide +kernel
  have d33 : decode prog_19_method_22_code 33 = .ok (.invokestatic 95, 3) := by decide +kernel
  have d36 : decode prog_19_method_22_code 36 = .ok (.ireturn, 1) := by decide +kernel
  have hT := (hS _ _ _ _ hro).2.2.2.2
  refine lv_iload_n hx hb d0 rfl (lv_at hl 1 rfl) ?_
  refine zpu_callS (n := 1) (As := [.int x]) (restc := []) hx hb ⟨Nat.zero_le _, Nat.zero_le _⟩ hml hown hts hTg hR hro va_S.rf zst_can ⟨x, rfl⟩ d1 ⟨(hW _ (List.mem_of_getElem? (i := 0) rfl)), (hW _ (List.mem_of_getElem? (i := 1) rfl)), (hW _ (List.mem_of_getElem? (i := 2) rfl)), (hW _ (List.mem_of_getElem? (i := 3) rfl)), by decide, by decide, by decide +kernel⟩ rfl hl.1 ⟨by omega, by omega⟩ (by decide) (fun r locs1 hr1 hS1 => ?_)
  refine lv_if_ne hx hb d4 (tgt := 9) (by decide) (fun _ => ?_) (fun _ => ?_)
  · refine lv_iload_n hx hb d9 rfl (lv_at hl 2 rfl) ?_
    refine lv_iconst hx hb d10 rfl ?_
    refine va_mmax hx hb (hml.trans hl.1.symm) hown (hts _ (hW _ (List.mem_of_getElem? (i := 4) rfl))) (hts _ (hW _ (List.mem_of_getElem? (i := 5) rfl))) (hts _ (hW _ (List.mem_of_getElem? (i := 6) rfl))) (hts _ (hW _ (List.mem_of_getElem? (i := 7) rfl))) (by omega) (by show 0 + 13 ≤ _; omega) (Nat.zero_le _) (Nat.zero_le _) d11 ?_
    refine lv_istore_n hx hb d14 rfl hl (by decide) rfl (fun ls1 hl1 => ?_)
    refine lv_iload_n hx hb d15 rfl (lv_at hl1 3 rfl) ?_
    refine lv_aload_n hx hb d16 rfl (lv_at hl1 1 rfl) ?_
    refine va_tlen hx hb hT hS1 rfl d17 ?_
    refine va_mmin hx hb (hml.trans hl1.1.symm) hown (hts _ (hW _ (List.mem_of_getElem? (i := 8) rfl))) (hts _ (hW _ (List.mem_of_getElem? (i := 9) rfl))) (hts _ (hW _ (List.mem_of_getElem? (i := 6) rfl))) (hts _ (hW _ (List.mem_of_getElem? (i := 10) rfl))) (by omega) (by show 0 + 13 ≤ _; omega) (Nat.zero_le _) (Nat.zero_le _) d18 ?_
    refine lv_istore_n hx hb d21 rfl hl1 (by decide) rfl (fun ls2 hl2 => ?_)
    refine lv_iload_n hx hb d22 rfl (lv_at hl2 1 rfl) ?_
    refine lv_iload_n hx hb d23 rfl (lv_at hl2 0 rfl) ?_
    refine lv_icmp_lt hx hb d24 (tgt := 29) (by decide) (fun _ => ?_) (fun _ => ?_)
    · refine lv_aload_n hx hb d29 rfl (lv_at hl2 2 rfl) ?_
      refine lv_iload_n hx hb d30 rfl (lv_at hl2 3 rfl) ?_
      refine lv_iload_n hx hb d31 rfl (lv_at hl2 1 rfl) ?_
      refine lv_iload_n hx hb d32 rfl (lv_at hl2 0 rfl) ?_
      refine zpu_callS (n := 4) (As := [.ref (ad 2001), .int x, .int 0, .int 8]) (restc := []) hx hb ⟨Nat.zero_le _, Nat.zero_le _⟩ hml hown hts hTg hR hro hS1 (zst_ioc hS) ⟨x, 0, 8, rfl, by decide, by decide, by decide⟩ d33 ⟨(hW _ (List.mem_of_getElem? (i := 11) rfl)), (hW _ (List.mem_of_getElem? (i := 1) rfl)), (hW _ (List.mem_of_getElem? (i := 12) rfl)), (hW _ (List.mem_of_getElem? (i := 13) rfl)), by decide, by decide, by decide +kernel⟩ rfl hl2.1 ⟨by omega, by omega⟩ (by decide) (fun r locs2 hr2 hS2 => ?_)
      exact W.iret hx hb hr (fun t ht _ => ⟨⟨_, rfl, hr2⟩, ht⟩) hS2.2.2 d36 hlocks
    · refine lv_iconst hx hb d27 rfl ?_
      exact W.iret hx hb hr (fun t ht _ => ⟨⟨_, rfl, by decide⟩, ht⟩) hS1.2.2 d28 hlocks
  · refine lv_iconst hx hb d7 rfl ?_
    exact W.iret hx hb hr (fun t ht _ => ⟨⟨_, rfl, by decide⟩, ht⟩) hS1.2.2 d8 hlocks
theorem zst_lat {l : Launch} {Ts : List Cond} {RO : zRO} (hS : ∀ ad A s H, RO ad A s H → zStr ad A s H) (hW : ∀ w ∈ zStW, w ∈ Ts) : zPu l Ts RO (⟨"java/lang/String", "isLatin1", "()Z"⟩ : MethodName) prog_18_method_154_code 1 (some .boolean) 1 40 (fun ad As => As = [.ref (ad 2000)]) (fun r => r = 1) := by
  refine zpu_of (by decide +kernel) (fun ad As h => by subst h; exact Nat.le_of_ble_eq_true rfl) ?_
  intro p e R s m args below meth c A ad As ls hPa hx hb hr hlocks hml hown hts hro hfr hlo hl
  subst hPa
  have d0 : decode prog_18_method_154_code 0 = .ok (.getstatic 38, 3) := by decide +kernel
  have d3 : decode prog_18_method_154_code 3 = .ok (.ifCond .eq 14, 3) := by decide +kernel
  have d6 : decode prog_18_method_154_code 6 = .ok (.aload_n 0, 1) := by decide +kernel
  have d7 : decode prog_18_method_154_code 7 = .ok (.getfield 15, 3) := by decide +kernel
  have d10 : decode prog_18_method_154_code 10 = .ok (.ifCond .ne 7, 3) := by decide +kernel
  have d13 : decode prog_18_method_154_code 13 = .ok (.iconst 1, 1) := by decide +kernel
  have d14 : decode prog_18_method_154_code 14 = .ok (.goto 4, 3) := by decide +kernel
  have d18 : decode prog_18_method_154_code 18 = .ok (.ireturn, 1) := by decide +kernel
  obtain ⟨h1, h2, h3, h4, h5⟩ := hS _ _ _ _ hro
  refine va_gets hx hb h1 va_S.rf hown (hts _ (hW _ (List.mem_of_getElem? (i := 14) rfl))) (fun x h => h) d0 ?_
  refine lv_if_eq hx hb d3 (tgt := 17) (by decide) (fun h => absurd h (by decide)) (fun _ => ?_)
  refine lv_aload_n hx hb d6 rfl (lv_at hl 0 rfl) ?_
  refine vk_getf hx hb h3 va_S.rf hown (hts _ (hW _ (List.mem_of_getElem? (i := 15) rfl))) (fun x h => h) d7 ?_
  refine lv_if_ne hx hb d10 (tgt := 17) (by decide) (fun h => absurd rfl h) (fun _ => ?_)
  refine lv_iconst hx hb d13 rfl ?_
  refine lv_goto hx hb d14 (tgt := 18) (by decide) ?_
  exact W.zret hx hb hr (by decide) (fun t ht _ => ⟨⟨_, rfl, rfl⟩, ht⟩) (fun q hq => by cases hq) d18 hlocks
theorem zst_cod {l : Launch} {Ts : List Cond} {RO : zRO} (hS : ∀ ad A s H, RO ad A s H → zStr ad A s H) (hW : ∀ w ∈ zStW, w ∈ Ts) : zPu l Ts RO (⟨"java/lang/String", "coder", "()B"⟩ : MethodName) prog_18_method_152_code 1 (some .byte) 1 40 (fun ad As => As = [.ref (ad 2000)]) (fun r => r = 0) := by
  refine zpu_of (by decide +kernel) (fun ad As h => by subst h; exact Nat.le_of_ble_eq_true rfl) ?_
  intro p e R s m args below meth c A ad As ls hPa hx hb hr hlocks hml hown hts hro hfr hlo hl
  subst hPa
  have d0 : decode prog_18_method_152_code 0 = .ok (.getstatic 38, 3) := by decide +kernel
  have d3 : decode prog_18_method_152_code 3 = .ok (.ifCond .eq 10, 3) := by decide +kernel
  have d6 : decode prog_18_method_152_code 6 = .ok (.aload_n 0, 1) := by decide +kernel
  have d7 : decode prog_18_method_152_code 7 = .ok (.getfield 15, 3) := by decide +kernel
  have d10 : decode prog_18_method_152_code 10 = .ok (.goto 4, 3) := by decide +kernel
  have d14 : decode prog_18_method_152_code 14 = .ok (.ireturn, 1) := by decide +kernel
  obtain ⟨h1, h2, h3, h4, h5⟩ := hS _ _ _ _ hro
  refine va_gets hx hb h1 va_S.rf hown (hts _ (hW _ (List.mem_of_getElem? (i := 14) rfl))) (fun x h => h) d0 ?_
  refine lv_if_eq hx hb d3 (tgt := 13) (by decide) (fun h => absurd h (by decide)) (fun _ => ?_)
  refine lv_aload_n hx hb d6 rfl (lv_at hl 0 rfl) ?_
  refine vk_getf hx hb h3 va_S.rf hown (hts _ (hW _ (List.mem_of_getElem? (i := 15) rfl))) (fun x h => h) d7 ?_
  refine lv_goto hx hb d10 (tgt := 14) (by decide) ?_
  exact W.zret hx hb hr (by decide) (fun t ht _ => ⟨⟨_, rfl, rfl⟩, ht⟩) (fun q hq => by cases hq) d14 hlocks
theorem zst_len {l : Launch} {Ts : List Cond} {RO : zRO} (hS : ∀ ad A s H, RO ad A s H → zStr ad A s H) (hTg : ∀ w ∈ Ts, goodWord w = true) (hR : zROk RO) (hW : ∀ w ∈ zStW, w ∈ Ts) : zPu l Ts RO (⟨"java/lang/String", "length", "()I"⟩ : MethodName) prog_18_method_54_code 1 (some .int) 2 100 (fun ad As => As = [.ref (ad 2000)]) (fun r => r = 8) := by
  refine zpu_of (by decide +kernel) (fun ad As h => by subst h; exact Nat.le_of_ble_eq_true rfl) ?_
  intro p e R s m args below meth c A ad As ls hPa hx hb hr hlocks hml hown hts hro hfr hlo hl
  subst hPa
  have d0 : decode prog_18_method_54_code 0 = .ok (.aload_n 0, 1) := by decide +kernel
  have d1 : decode prog_18_method_54_code 1 = .ok (.getfield 9, 3) := by decide +kernel
  have d4 : decode prog_18_method_54_code 4 = .ok (.arraylength, 1) := by decide +kernel
  have d5 : decode prog_18_method_54_code 5 = .ok (.aload_n 0, 1) := by decide +kernel
  have d6 : decode prog_18_method_54_code 6 = .ok (.invokevirtual 335, 3) := by decide +kernel
  have d9 : decode prog_18_method_54_code 9 = .ok (.ishr, 1) := by decide +kernel
  have d10 : decode prog_18_method_54_code 10 = .ok (.ireturn, 1) := by decide +kernel
  obtain ⟨h1, h2, h3, h4, h5⟩ := hS _ _ _ _ hro
  have hrv : ∀ {H : Heap} {locs : List Loc}, va_S A s.heap H locs → ∃ cell : Cell, H[ad 2000]? = some cell ∧ cell.vm.isStatics = false ∧ s.vm.findClass "java/lang/String" = some cell.cls := fun hS1 => by
    obtain ⟨cell, q1, q2, q3, -⟩ := h2.kept hS1.2.1
    exact ⟨cell, q1, q2, q3⟩
  refine lv_aload_n hx hb d0 rfl (lv_at hl 0 rfl) ?_
  refine vk_getf hx hb h4 va_S.rf hown (hts _ (hW _ (List.mem_of_getElem? (i := 16) rfl))) (fun x h => h) d1 ?_
  refine va_tlen hx hb h5 va_S.rf rfl d4 ?_
  refine lv_aload_n hx hb d5 rfl (lv_at hl 0 rfl) ?_
  refine zpu_callV (n := 0) (As := []) hx hb ⟨Nat.zero_le _, Nat.zero_le _⟩ hml hown hts hTg hR hro va_S.rf (zst_cod hS hW) rfl (hrv va_S.rf) d6 ⟨(hW _ (List.mem_of_getElem? (i := 17) rfl)), (hW _ (List.mem_of_getElem? (i := 18) rfl)), (hW _ (List.mem_of_getElem? (i := 19) rfl)), (hW _ (List.mem_of_getElem? (i := 20) rfl)), (hW _ (List.mem_of_getElem? (i := 21) rfl)), by decide, by decide, by decide +kernel⟩ rfl hl.1 ⟨by omega, by omega⟩ (by decide) (fun r locs1 hr1 hS1 => ?_)
  subst hr1
  refine lv_ishr hx hb d9 ?_
  exact W.iret hx hb hr (fun t ht _ => ⟨⟨_, rfl, by decide⟩, ht⟩) hS1.2.2 d10 hlocks
theorem zst_io2 {l : Launch} {Ts : List Cond} {RO : zRO} (hS : ∀ ad A s H, RO ad A s H → zStr ad A s H) (hTg : ∀ w ∈ Ts, goodWord w = true) (hR : zROk RO) (hW : ∀ w ∈ zStW, w ∈ Ts) : zPu l Ts RO (⟨"java/lang/String", "indexOf", "(II)I"⟩ : MethodName) prog_18_method_80_code 3 (some .int) 5 400 (fun ad As => ∃ x : Int32, As = [.ref (ad 2000), .int x, .int 0]) (fun r => -1 ≤ r.toInt ∧ r.toInt ≤ 7) := by
  refine zpu_of (by decide +kernel) (fun ad As h => by obtain ⟨x, rfl⟩ := h; exact Nat.le_of_ble_eq_true rfl) ?_
  intro p e R s m args below meth c A ad As ls hPa hx hb hr hlocks hml hown hts hro hfr hlo hl
  obtain ⟨x, rfl⟩ := hPa
  have d0 : decode prog_18_method_80_code 0 = .ok (.aload_n 0, 1) := by decide +kernel
  have d1 : decode prog_18_method_80_code 1 = .ok (.invokevirtual 492, 3) := by decide +kernel
  have d4 : decode prog_18_method_80_code 4 = .ok (.ifCond .eq 19, 3) := by decide +kernel
  have d7 : decode prog_18_method_80_code 7 = .ok (.aload_n 0, 1) := by decide +kernel
  have d8 : decode prog_18_method_80_code 8 = .ok (.getfield 9, 3) := by decide +kernel
  have d11 : decode prog_18_method_80_code 11 = .ok (.iload_n 1, 1) := by decide +kernel
  have d12 : decode prog_18_method_80_code 12 = .ok (.iload_n 2, 1) := by decide +kernel
  have d13 : decode prog_18_method_80_code 13 = .ok (.aload_n 0, 1) := by decide +kernel
  have d14 : decode prog_18_method_80_code 14 = .ok (.invokevirtual 505, 3) := by decide +kernel
  have d17 : decode prog_18_method_80_code 17 = .ok (.invokestatic 637, 3) := by decide +kernel
  have d20 : decode prog_18_method_80_code 20 = .ok (.goto 16, 3) := by decide +kernel
  have d36 : decode prog_18_method_80_code 36 = .ok (.ireturn, 1) := by decide +kernel
  obtain ⟨h1, h2, h3, h4, h5⟩ := hS _ _ _ _ hro
  have hrv : ∀ {H : Heap} {locs : List Loc}, va_S A s.heap H locs → ∃ cell : Cell, H[ad 2000]? = some cell ∧ cell.vm.isStatics = false ∧ s.vm.findClass "java/lang/String" = some cell.cls := fun hS1 => by
    obtain ⟨cell, q1, q2, q3, -⟩ := h2.kept hS1.2.1
    exact ⟨cell, q1, q2, q3⟩
  refine lv_aload_n hx hb d0 rfl (lv_at hl 0 rfl) ?_
  refine zpu_callV (n := 0) (As := []) hx hb ⟨Nat.zero_le _, Nat.zero_le _⟩ hml hown hts hTg hR hro va_S.rf (zst_lat hS hW) rfl (hrv va_S.rf) d1 ⟨(hW _ (List.mem_of_getElem? (i := 22) rfl)), (hW _ (List.mem_of_getElem? (i := 23) rfl)), (hW _ (List.mem_of_getElem? (i := 24) rfl)), (hW _ (List.mem_of_getElem? (i := 20) rfl)), (hW _ (List.mem_of_getElem? (i := 25) rfl)), by decide, by decide, by decide +kernel⟩ rfl hl.1 ⟨by omega, by omega⟩ (by decide) (fun r locs1 hr1 hS1 => ?_)
  subst hr1
  refine lv_if_eq hx hb d4 (tgt := 23) (by decide) (fun h => absurd h (by decide)) (fun _ => ?_)
  refine lv_aload_n hx hb d7 rfl (lv_at hl 0 rfl) ?_
  refine vk_getf hx hb h4 hS1 hown (hts _ (hW _ (List.mem_of_getElem? (i := 16) rfl))) (fun x h => h) d8 ?_
  refine lv_iload_n hx hb d11 rfl (lv_at hl 1 rfl) ?_
  refine lv_iload_n hx hb d12 rfl (lv_at hl 2 rfl) ?_
  refine lv_aload_n hx hb d13 rfl (lv_at hl 0 rfl) ?_
  refine zpu_callV (n := 0) (As := []) hx hb ⟨Nat.zero_le _, Nat.zero_le _⟩ hml hown hts hTg hR hro hS1 (zst_len hS hTg hR hW) rfl (hrv hS1) d14 ⟨(hW _ (List.mem_of_getElem? (i := 26) rfl)), (hW _ (List.mem_of_getElem? (i := 27) rfl)), (hW _ (List.mem_of_getElem? (i := 28) rfl)), (hW _ (List.mem_of_getElem? (i := 20) rfl)), (hW _ (List.mem_of_getElem? (i := 29) rfl)), by decide, by decide, by decide +kernel⟩ rfl hl.1 ⟨by omega, by omega⟩ (Nat.le_of_ble_eq_true rfl) (fun r locs2 hr2 hS2 => ?_)
  subst hr2
  refine zpu_callS (n := 4) (As := [.ref (ad 2001), .int x, .int 0, .int 8]) (restc := []) hx hb ⟨Nat.zero_le _, Nat.zero_le _⟩ hml hown hts hTg hR hro hS2 (zst_io1 hS hTg hR hW) ⟨x, rfl⟩ d17 ⟨(hW _ (List.mem_of_getElem? (i := 30) rfl)), (hW _ (List.mem_of_getElem? (i := 1) rfl)), (hW _ (List.mem_of_getElem? (i := 31) rfl)), (hW _ (List.mem_of_getElem? (i := 32) rfl)), by decide, by decide, by decide +kernel⟩ rfl hl.1 ⟨by omega, by omega⟩ (by decide) (fun r locs3 hr3 hS3 => ?_)
  refine lv_goto hx hb d20 (tgt := 36) (by decide) ?_
  exact W.iret hx hb hr (fun t ht _ => ⟨⟨_, rfl, hr3⟩, ht⟩) hS3.2.2 d36 hlocks
theorem zst_io {l : Launch} {Ts : List Cond} {RO : zRO} (hS : ∀ ad A s H, RO ad A s H → zStr ad A s H) (hTg : ∀ w ∈ Ts, goodWord w = true) (hR : zROk RO) (hW : ∀ w ∈ zStW, w ∈ Ts) : zPu l Ts RO (⟨"java/lang/String", "indexOf", "(I)I"⟩ : MethodName) prog_18_method_79_code 2 (some .int) 6 500 (fun ad As => ∃ x : Int32, As = [.ref (ad 2000), .int x]) (fun r => -1 ≤ r.toInt ∧ r.toInt ≤ 7) := by
  refine zpu_of (by decide +kernel) (fun ad As h => by obtain ⟨x, rfl⟩ := h; exact Nat.le_of_ble_eq_true rfl) ?_
  intro p e R s m args below meth c A ad As ls hPa hx hb hr hlocks hml hown hts hro hfr hlo hl
  obtain ⟨x, rfl⟩ := hPa
  have d0 : decode prog_18_method_79_code 0 = .ok (.aload_n 0, 1) := by decide +kernel
  have d1 : decode prog_18_method_79_code 1 = .ok (.iload_n 1, 1) := by decide +kernel
  have d2 : decode prog_18_method_79_code 2 = .ok (.iconst 0, 1) := by decide +kernel
  have d3 : decode prog_18_method_79_code 3 = .ok (.invokevirtual 633, 3) := by decide +kernel
  have d6 : decode prog_18_method_79_code 6 = .ok (.ireturn, 1) := by decide +kernel
  obtain ⟨h1, h2, h3, h4, h5⟩ := hS _ _ _ _ hro
  have hrv : ∀ {H : Heap} {locs : List Loc}, va_S A s.heap H locs → ∃ cell : Cell, H[ad 2000]? = some cell ∧ cell.vm.isStatics = false ∧ s.vm.findClass "java/lang/String" = some cell.cls := fun hS1 => by
    obtain ⟨cell, q1, q2, q3, -⟩ := h2.kept hS1.2.1
    exact ⟨cell, q1, q2, q3⟩
  refine lv_aload_n hx hb d0 rfl (lv_at hl 0 rfl) ?_
  refine lv_iload_n hx hb d1 rfl (lv_at hl 1 rfl) ?_
  refine lv_iconst hx hb d2 rfl ?_
  refine zpu_callV (n := 2) (As := [.int x, .int 0]) (restc := []) hx hb ⟨Nat.zero_le _, Nat.zero_le _⟩ hml hown hts hTg hR hro va_S.rf (zst_io2 hS hTg hR hW) ⟨x, rfl⟩ (hrv va_S.rf) d3 ⟨(hW _ (List.mem_of_getElem? (i := 33) rfl)), (hW _ (List.mem_of_getElem? (i := 34) rfl)), (hW _ (List.mem_of_getElem? (i := 35) rfl)), (hW _ (List.mem_of_getElem? (i := 20) rfl)), (hW _ (List.mem_of_getElem? (i := 36) rfl)), by decide, by decide, by decide +kernel⟩ rfl hl.1 ⟨by omega, by omega⟩ (by decide) (fun r locs1 hr1 hS1 => ?_)
  exact W.iret hx hb hr (fun t ht _ => ⟨⟨_, rfl, hr1⟩, ht⟩) hS1.2.2 d6 hlocks
theorem zrowI {Ts : List Cond} {RO : zRO} {own : String} {idx : Nat} (hS : ∀ ad A s H, RO ad A s H → zStr ad A s H) (hTg : ∀ w ∈ Ts, goodWord w = true) (hR : zROk RO) (hW : ∀ w ∈ zStW, w ∈ Ts) (hl : Cond.methodLink own idx (⟨"java/lang/String", "indexOf", "(I)I"⟩ : MethodName) ∈ Ts) : zRowI RO own Ts idx := by
  intro p l e R s m args below meth c Q cc A ad pc H locs ls rest ce sl nL x hx hb hml hown hts hro hfr hlo hcs hd hS1 hsz hsum k
  have hrv : ∃ cell : Cell, H[ad 2000]? = some cell ∧ cell.vm.isStatics = false ∧ s.vm.findClass "java/lang/String" = some cell.cls := by
    obtain ⟨cell, q1, q2, q3, -⟩ := (hS _ _ _ _ hro).2.1.kept hS1.2.1
    exact ⟨cell, q1, q2, q3⟩
  exact zpu_callV (n := 1) (As := [.int x]) (restc := rest) hx hb hcs hml hown hts hTg hR hro hS1 (zst_io hS hTg hR hW) ⟨x, rfl⟩ hrv hd ⟨hl, (hW _ (List.mem_of_getElem? (i := 37) rfl)), (hW _ (List.mem_of_getElem? (i := 38) rfl)), (hW _ (List.mem_of_getElem? (i := 20) rfl)), (hW _ (List.mem_of_getElem? (i := 39) rfl)), by decide, by decide, by decide +kernel⟩ rfl hsz ⟨by omega, by omega⟩ hsum (fun r locs1 hr hS2 => k r locs1 hr.1 hr.2 hS2)
