/-! MAKING: a constructor called; rows of cells -/
def zmapV (k0 len : Nat) (avs : List zMV) (V : zMV) : zMV := match V with
  | (2, _) => (3, (k0 : Int))
  | (3, n) => (3, ((n.toNat + len : Nat) : Int))
  | (4, n) => avs.getD n.toNat (0, 0)
  | V => V
def zmapC (k0 len : Nat) (avs : List zMV) (C : zMC) : zMC := match C with
  | (0, ci, x, Vs) => (0, ci, x, Vs.map (zmapV k0 len avs))
  | (3, t, n, b) => (3, t, n, [(0, ((zbs b + len : Nat) : Int))])
  | (4, t, n, b) => (4, t, n, [(0, ((zbs b + len : Nat) : Int))])
  | C => C
def zargB (n : Nat) (V : zMV) : Bool := !(V.1 == 4) || decide (V.2.toNat < n)
def zargC (n : Nat) (C : zMC) : Bool := !(C.1 == 5) && (!(C.1 == 0) || C.2.2.2.all (zargB n))
theorem zvr.map {a r : Nat} {na' aa na2 aa2 : Nat → Nat} {k0 len len2 len' n : Nat} {avs : List zMV} {V : zMV} {v : Value} (hr : na' k0 = r) (hk : k0 < len') (hl : len + len2 ≤ len') (hn : ∀ i, i < len2 → na' (len + i) = na2 i) (hav : ∀ i, i < n → zvr a na' aa len' (avs.getD i (0, 0)) (.ref (aa2 i))) (hb : zargB n V = true) (h : zvr r na2 aa2 len2 V v) : zvr a na' aa len' (zmapV k0 len avs V) v := by
  obtain ⟨tg, z⟩ := V
  match tg, h, hb with
  | 0, h, _ => exact h
  | 1, h, _ => exact h
  | 2, h, _ =>
    have h : v = .ref r := h
    exact ⟨by show ((k0 : Int)).toNat < len'; rw [Int.toNat_natCast]; exact hk, by show v = .ref (na' ((k0 : Int)).toNat); rw [Int.toNat_natCast, hr]; exact h⟩
  | 3, ⟨h1, h2⟩, _ =>
    have e : (((z.toNat + len : Nat) : Int)).toNat = z.toNat + len := Int.toNat_natCast _
    exact ⟨by show (((z.toNat + len : Nat) : Int)).toNat < len'; rw [e]; omega, by show v = .ref (na' (((z.toNat + len : Nat) : Int)).toNat); rw [e, Nat.add_comm, hn _ h1]; exact h2⟩
  | 4, h, hb =>
    have hb : z.toNat < n := by
      have : (!(4 == 4) || decide (z.toNat < n)) = true := hb
      simpa using this
    have h : v = .ref (aa2 z.toNat) := h
    rw [h]
    exact hav _ hb
  | 5, h, _ => exact h
theorem zcr.map {a r : Nat} {na' aa na2 aa2 : Nat → Nat} {k0 len len2 len' n : Nat} {avs : List zMV} {tys : List (ClassId × FieldType)} {C : zMC} {x : va_E} (hr : na' k0 = r) (hk : k0 < len') (hl : len + len2 ≤ len') (hn : ∀ i, i < len2 → na' (len + i) = na2 i) (hav : ∀ i, i < n → zvr a na' aa len' (avs.getD i (0, 0)) (.ref (aa2 i))) (hb : zargC n C = true) (h : zcr r na2 aa2 len2 tys C x) : zcr a na' aa len' tys (zmapC k0 len avs C) x := by
  obtain ⟨tg, t, m, b⟩ := C
  match tg, h, hb with
  | 0, ⟨fs, h1, h2, h3⟩, hb =>
    have hb : b.all (zargB n) = true := by
      have : (!(0 == 5) && (!(0 == 0) || b.all (zargB n))) = true := hb
      simpa using this
    refine ⟨fs, h1, by rw [List.length_map]; exact h2, fun j V v hV hv => ?_⟩
    rw [List.getElem?_map] at hV
    obtain ⟨V0, hV0, rfl⟩ := Option.map_eq_some_iff.mp hV
    exact (h3 j V0 v hV0 hv).map hr hk hl hn hav (List.all_eq_true.mp hb V0 (List.mem_of_getElem? hV0))
  | 1, h, _ => exact h
  | 2, h, _ => exact h
  | 3, ⟨cA, f, h1, h2, h3, h4⟩, _ =>
    have e : zbs [(0, ((zbs b + len : Nat) : Int))] = zbs b + len := Int.toNat_natCast _
    exact ⟨cA, f, h1, h2, by rw [e]; omega, fun j hj => by rw [e, h4 j hj, show zbs b + len + j = len + (zbs b + j) by omega, hn _ (by omega)]⟩
  | 4, ⟨cA, f, h1, h2, h3, h4⟩, _ =>
    have e : zbs [(0, ((zbs b + len : Nat) : Int))] = zbs b + len := Int.toNat_natCast _
    exact ⟨cA, f, h1, h2, by rw [e]; omega, fun j hj => by rw [e, h4 j hj, show zbs b + len + j = len + (zbs b + j) by omega, hn _ (by omega)]⟩
  | 5, _, hb => cases hb
  | 6, h, _ => exact h
  | 7, h, _ => exact h
theorem zMW.call {ws0 ws ws' : va_W} {q a k0 r n : Nat} {na aa na2 aa2 : Nat → Nat} {tys tys' : List (ClassId × FieldType)} {F Ff F1 : List zMV} {ci cj : Nat} {cs cs2 : List zMC} {avs : List zMV} (ht : ∀ (t : Nat) (y : ClassId × FieldType), tys[t]? = some y → tys'[t]? = some y) (h : zMW ws0 ws q a na aa tys F ci cs) (hk0 : cs[k0]? = some (0, cj, 0, F1)) (hr : na k0 = r) (hav : ∀ i, i < n → zvr a na aa cs.length (avs.getD i (0, 0)) (.ref (aa2 i))) (hb1 : Ff.all (zargB n) = true) (hb2 : cs2.all (zargC n) = true) (h2 : zMW ws ws' (ws0.length + k0) r na2 aa2 tys' Ff cj cs2) :
    zMW ws0 ws' q a (fun i => if i < cs.length then na i else na2 (i - cs.length)) aa tys' F ci ((cs.set k0 (0, cj, 0, Ff.map (zmapV k0 cs.length avs))) ++ cs2.map (zmapC k0 cs.length avs)) := by
  obtain ⟨g1, g2, g3, ⟨fs, g4, g5⟩, g6⟩ := h
  obtain ⟨m1, m2, m3, ⟨fs2, m4, m5⟩, m6⟩ := h2
  have lk : k0 < cs.length := (List.getElem?_eq_some_iff.mp hk0).1
  have hl : ((cs.set k0 (0, cj, 0, Ff.map (zmapV k0 cs.length avs))) ++ cs2.map (zmapC k0 cs.length avs)).length = cs.length + cs2.length := by rw [List.length_append, List.length_set, List.length_map]
  have n1 : ∀ i, i < cs.length → (fun i => if i < cs.length then na i else na2 (i - cs.length)) i = na i := fun i hi => if_pos hi
  have n2 : ∀ i, i < cs2.length → (fun i => if i < cs.length then na i else na2 (i - cs.length)) (cs.length + i) = na2 i := fun i _ => by
    show (if cs.length + i < cs.length then na (cs.length + i) else na2 (cs.length + i - cs.length)) = na2 i
    rw [if_neg (by omega), Nat.add_sub_cancel_left]
  have hav' : ∀ i, i < n → zvr a (fun i => if i < cs.length then na i else na2 (i - cs.length)) aa (cs.length + cs2.length) (avs.getD i (0, 0)) (.ref (aa2 i)) := fun i hi => (hav i hi).mono n1 (by omega)
  have hr' : (fun i => if i < cs.length then na i else na2 (i - cs.length)) k0 = r := (n1 k0 lk).trans hr
  refine ⟨g1, by rw [m2, g2, hl]; omega, fun i hi hq => ?_, ⟨fs, ?_, ?_⟩, fun k C hk => ?_⟩
  · rw [m3 i (by omega) (by omega)]
    exact g3 i hi hq
  · rw [m3 q (by omega) (by omega)]
    exact g4
  · rw [hl]
    exact g5.mono n1 (by omega)
  · rw [hl]
    by_cases hkl : k < cs.length
    · rw [List.getElem?_append_left (by rw [List.length_set]; exact hkl)] at hk
      by_cases e : k = k0
      · subst e
        rw [List.getElem?_set_self lk] at hk
        cases hk
        refine ⟨.inr (cj, fs2), by rw [m4, hr'], fs2, rfl, by rw [List.length_map]; exact m5.1, fun j V v hV hv => ?_⟩
        rw [List.getElem?_map] at hV
        obtain ⟨V0, hV0, rfl⟩ := Option.map_eq_some_iff.mp hV
        exact (m5.2 j V0 v hV0 hv).map hr' (by omega) (Nat.le_refl _) n2 hav' (List.all_eq_true.mp hb1 V0 (List.mem_of_getElem? hV0))
      · rw [List.getElem?_set_ne (Ne.symm e)] at hk
        obtain ⟨x, x1, x2⟩ := g6 k C hk
        exact ⟨x, by rw [m3 _ (by omega) (by omega), n1 k hkl]; exact x1, x2.mono n1 (by omega) ht⟩
    · rw [List.getElem?_append_right (by rw [List.length_set]; omega), List.length_set, List.getElem?_map] at hk
      obtain ⟨C0, hC0, rfl⟩ := Option.map_eq_some_iff.mp hk
      obtain ⟨x, x1, x2⟩ := m6 _ C0 hC0
      have lk2 : k - cs.length < cs2.length := (List.getElem?_eq_some_iff.mp hC0).1
      refine ⟨x, ?_, x2.map hr' (by omega) (Nat.le_refl _) n2 hav' (List.all_eq_true.mp hb2 C0 (List.mem_of_getElem? hC0))⟩
      have := n2 (k - cs.length) lk2
      rw [show cs.length + (k - cs.length) = k by omega] at this
      rw [this, ← x1, g2]
      congr 1
      omega
section ZMK2
variable {p : Program} {l : Launch} {e : Env} {R : Room} {s : State} {m : MethodId} {args : Array Value} {below : List Frame} {meth : Method} {c : Code} {Q : State → Prop} {cc : ByteArray} {pc ce sl nL : Nat} {D : va_G} {cl : List vw_C} {tys : List (ClassId × FieldType)} {A : Nat → Prop} {ad : Nat → Nat} {H : Heap} {locs : List Loc} {ls : Array Slot} {rest : List Value} {ws0 ws : va_W} {q a ci : Nat} {na aa aa2 : Nat → Nat} {F : List zMV} {cs : List zMC} {Ts : List Cond} {own : String} {RO : zRO}
theorem zn_ctor (hx : p.tables.exec = Jvm.exec) (hb : c.code = cc) (hml : c.maxLocals = nL) (hown : s.vm.findClass own = some m.cls) (hts : ∀ w ∈ Ts, w.before args s = true) (hTg : ∀ w ∈ Ts, goodWord w = true) (hR : zROk RO) (hro : RO ad A s s.heap) (hA : ∀ p : Nat, s.heap.size ≤ p → A p) (hK : va_K D cl tys s) (hP : va_P D cl ws H) (hD : va_D A ws) (hS : va_S A s.heap H locs)
    {y : MethodName} {bytes : ByteArray} {maxL fr lo mc ms n cj tn idx k0 r : Nat} {F1 Ff avs : List zMV} {cs2 : List zMC} {ext : List FieldType} (hCt : zCt l Ts cl RO y bytes maxL fr lo mc ms n cj tn F1 Ff cs2 ext) (hty : zTy3 tn tys) (hM : zMW ws0 ws q a na aa tys F ci cs) (hk0 : cs[k0]? = some (0, cj, 0, F1)) (hr : na k0 = r) (hF1 : F1.all (fun V => V.1 == 0 || (V.1 == 1 || V.1 == 5)) = true) (hav : ∀ i, i < n → zvr a na aa cs.length (avs.getD i (0, 0)) (.ref (aa2 i))) (hb1 : Ff.all (zargB n) = true) (hb2 : cs2.all (zargC n) = true)
    (hl : Cond.methodLink own idx y ∈ Ts ∨ va_Nw (Cond.methodLinkNest own idx y "PushedIn") s) (hw : Cond.instanceMethod y ∈ Ts ∧ Cond.initialized y.cls ∈ Ts ∧ Cond.code y bytes maxL none ∈ Ts ∧ y.cls ≠ "java/lang/invoke/MethodHandle" ∧ y.cls ≠ "java/lang/invoke/VarHandle" ∧ (parseMethodDescriptor y.desc).map (fun d => d.parameters.length) = some n) (hyn : y.name = "<init>") (hsz : ls.size = nL) (hroom : fr + 1 ≤ R.frames ∧ 8 + (maxL + 11) + lo ≤ R.locals) (hsum : (rest.map fun v => v.category).sum ≤ 8) (hd : decode cc pc = .ok (.invokespecial idx, 3)) (hcs : ce + mc ≤ R.cells ∧ sl + ms ≤ R.slots)
    (kk : ∀ (H1 : Heap) (locs1 : List Loc) (ws1 : va_W) (na1 : Nat → Nat) (xs : List (ClassId × FieldType)), xs.map Prod.snd = ext → va_K D cl (tys ++ xs) s → va_P D cl ws1 H1 → va_D A ws1 → va_S A s.heap H1 locs1 → (∀ i, i < cs.length → na1 i = na i) → zMW ws0 ws1 q a na1 aa (tys ++ xs) F ci ((cs.set k0 (0, cj, 0, Ff.map (zmapV k0 cs.length avs))) ++ cs2.map (zmapC k0 cs.length avs)) → W p l e R s m args below meth c H1 locs1 (ce + mc) (sl + ms) Q (F0 m (pc + 3) ls rest)) : W p l e R s m args below meth c H locs ce sl Q (F0 m pc ls (((List.range n).map (fun i => Value.ref (aa2 i))).reverse ++ .ref r :: rest)) := by
  obtain ⟨l2, l4, l5, l6, l7, l8⟩ := hw
  have hgd : GoodIn Ts (Cond.code y bytes maxL none :: Ts) := zgoodIn hTg (fun w hw => by
    rcases List.mem_cons.mp hw with rfl | hw
    · exact l5
    · exact hw)
  obtain ⟨x, x1, fs, rfl, x2⟩ := hM.2.2.2.2 k0 _ hk0
  have hz : ∃ fs : List Value, ws[ws0.length + k0]? = some (r, .inr (cj, fs)) ∧ zvs r (fun _ => 0) aa2 0 F1 fs := by
    refine ⟨fs, by rw [x1, hr], x2.1, fun j V v hV hv => ?_⟩
    have h1 := x2.2 j V v hV hv
    have h3 := List.all_eq_true.mp hF1 V (List.mem_of_getElem? hV)
    obtain ⟨tg, z⟩ := V
    match tg, h1, h3 with
    | 0, h1, _ => exact h1
    | 1, h1, _ => exact h1
    | 2, _, h3 => cases h3
    | 3, _, h3 => cases h3
    | 4, _, h3 => cases h3
    | 5, h1, _ => exact h1
  have hMet := hCt D tys A ad ws (ws0.length + k0) r aa2 hty hz hD
  have hpre : PreS s H (fun ar U => ar = (Value.ref r :: (List.range n).map (fun i => Value.ref (aa2 i))).toArray ∧ va_P D cl ws U.heap ∧ va_K D cl tys U ∧ RO ad A U U.heap ∧ ∀ p : Nat, U.heap.size ≤ p → A p) (Value.ref r :: (List.range n).map (fun i => Value.ref (aa2 i))) := by
    refine ⟨fun ar U g mk hU => ⟨hU.1, hU.2.1, va_K.moved (u := U) (U := U.calling g mk ar) (Vm.Alike.refl U.vm) hU.2.2.1, hR.2.1 ad A U _ _ rfl hU.2.2.2.1, hU.2.2.2.2⟩, fun U hU hW => ⟨rfl, by rw [hU]; exact hP, va_K.moved hW.alike hK, by
      rw [hU]
      exact hR.1 ad A s U H hW (hR.2.2 ad A s s.heap H (fun a h1 h2 => hS.2.1 a h1 h2) hro), fun p hp => hA p (by rw [hU] at hp; exact Nat.le_trans hS.1 hp)⟩⟩
  have hlen : ((List.range n).map (fun i => Value.ref (aa2 i))).length = n := by rw [List.length_map, List.length_range]
  have hrun : va_Run p l e R s m args below meth c H locs ce sl mc ms (F0 m pc ls (((List.range n).map (fun i => Value.ref (aa2 i))).reverse ++ .ref r :: rest)) rest (fun st o t => va_F A st t ∧ o = .returned none ∧ ∃ (ws' : va_W) (na : Nat → Nat) (xs : List (ClassId × FieldType)), xs.map Prod.snd = ext ∧ va_K D cl (tys ++ xs) t ∧ va_P D cl ws' t.heap ∧ va_D A ws' ∧ zMW ws ws' (ws0.length + k0) r na aa2 (tys ++ xs) Ff cj cs2) A := by
    rcases hl with hl | hl
    · exact va_runI (As := (List.range n).map (fun i => Value.ref (aa2 i))) (rest := rest) (n := n) ⟨hx, hb, hml, hown, hts⟩ hMet ⟨callB_of n hts hgd rfl rfl rfl (hts _ l4) (hts _ hl) ⟨l6, l7, l8⟩ hroom, hyn, hts _ l2⟩ hpre rfl hlen hsz rfl (lv_room hsum) hd hcs
    · exact va_runIN (As := (List.range n).map (fun i => Value.ref (aa2 i))) (rest := rest) (n := n) ⟨hx, hb, hml, hown, hts⟩ hMet ⟨va_cnB n hts hgd rfl rfl rfl hl (hts _ l4) ⟨l6, l7, l8⟩ hroom, hyn, hts _ l2⟩ hpre rfl hlen hsz rfl (lv_room hsum) hd hcs
  intro T0 hT X
  obtain ⟨v, st₀, t, T', L', g0, X', hL, e1, e2, ⟨⟨hz', hk'⟩, hv, ws', na2, xs, hxs, hK', hP', hD', hM'⟩, hst⟩ := hrun T0 hT X
  cases hv
  rw [g0] at hz' hk'
  have hS1 : va_S A s.heap T'.heap (locs ++ L') := ⟨Nat.le_trans hS.1 (by rw [e1]; exact hz'), fun q h1 h2 => by rw [e1, hk' q (Nat.lt_of_lt_of_le h1 hS.1) h2]; exact hS.2.1 q h1 h2, fun q hq => by
    rcases List.mem_append.mp hq with h | h
    · exact hS.2.2 q h
    · exact hL q h⟩
  have hal : t.vm.Alike s.vm := by
    have h1 := X'.warmed.alike
    rw [e2] at h1
    exact h1.symm
  have ht : ∀ (t : Nat) (y : ClassId × FieldType), tys[t]? = some y → (tys ++ xs)[t]? = some y := fun t y h => by
    rw [List.getElem?_append_left (List.getElem?_eq_some_iff.mp h).1]
    exact h
  obtain ⟨t2, a1, b1⟩ := kk T'.heap _ ws' _ xs hxs (va_K.moved hal hK') (by rw [e1]; exact hP') hD' hS1 (fun i hi => if_pos hi) (hM.call ht hk0 hr hav hb1 hb2 hM') T' rfl X'
  exact ⟨t2, hst t2 a1, b1⟩
theorem zn_obj (hx : p.tables.exec = Jvm.exec) (hb : c.code = cc) (hml : c.maxLocals = nL) (hown : s.vm.findClass own = some m.cls) (hts : ∀ w ∈ Ts, w.before args s = true) {idx r : Nat} (hw : Cond.methodLink own idx Lib.objectInit ∈ Ts ∧ Cond.instanceMethod Lib.objectInit ∈ Ts ∧ Cond.code Lib.objectInit ⟨#[0xb1]⟩ 1 none ∈ Ts) (hsz : ls.size = nL) (hroom : 1 ≤ R.frames ∧ 20 ≤ R.locals) (hsum : (rest.map fun v => v.category).sum ≤ 8) (hd : decode cc pc = .ok (.invokespecial idx, 3))
    (kk : W p l e R s m args below meth c H locs ce sl Q (F0 m (pc + 3) ls rest)) : W p l e R s m args below meth c H locs ce sl Q (F0 m pc ls (.ref r :: rest)) :=
  W.objInit hx hb hown (hts _ hw.1) (hts _ hw.2.1) (hts _ hw.2.2) (g := F0 m pc ls (.ref r :: rest)) rfl (hsz.trans hml.symm) rfl hd hroom.1 (by show 2 * 0 + _ + 12 ≤ _; omega) kk
/-- comers, none yet set -/
theorem zn_anew (hx : p.tables.exec = Jvm.exec) (hb : c.code = cc) (hown : s.vm.findClass own = some m.cls) (hts : ∀ w ∈ Ts, w.before args s = true) (hov : va_AO "PushedIn$Comer" s) {H0 : Heap} (hK : va_K D cl tys s) (hP : va_P D cl ws H) (hD : va_D A ws) (hS : va_S A H0 H locs) (hA : ∀ q, H0.size ≤ q → A q) {idx tn : Nat} (htn : tys.length = tn) (hw : Cond.classLink own idx "PushedIn$Comer" ∈ Ts) (hM : zMW ws0 ws q a na aa tys F ci cs) {n : Int32} {N' : Nat} {b : Int} (hn : ¬ n < 0) (hN : n.toNatClampNeg = N') (hbytes : N' * 4 ≤ 536870912) (hcells : ce + 1 ≤ R.cells) (hslots : sl + N' ≤ R.slots) (hd : decode cc pc = .ok (.anewarray idx, 3))
    (kk : ∀ (r : Nat) (cA : ClassId) (H1 : Heap) (ws1 : va_W), va_K D cl (tys ++ [(cA, .object "PushedIn$Comer")]) s → va_P D cl ws1 H1 → va_D A ws1 → va_S A H0 H1 locs → zMW ws0 ws1 q a (zna na cs.length r) aa (tys ++ [(cA, .object "PushedIn$Comer")]) F ci (cs ++ [(5, tn, N', [(0, b), (0, 0)])]) → W p l e R s m args below meth c H1 locs (ce + 1) (sl + N') Q (F0 m (pc + 3) ls (.ref r :: rest))) : W p l e R s m args below meth c H locs ce sl Q (F0 m pc ls (.int n :: rest)) := by
  refine va_newq hx hb hown (hts _ hw) hov hK hP hD hS hA hn hN hbytes hcells hslots hd (fun r cA H1 hK1 p1 p2 p3 => ?_)
  refine kk r cA H1 _ hK1 p1 p2 p3 (hM.push (fun t y h => ?_) ⟨cA, _, rfl, ?_, fun j hj => absurd hj (Nat.not_lt_zero j)⟩)
  · rw [List.getElem?_append_left (List.getElem?_eq_some_iff.mp h).1]
    exact h
  · rw [List.getElem?_append_right (by omega), htn, Nat.sub_self]
    rfl
end ZMK2
