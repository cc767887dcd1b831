/-! ONE MORE COMER: the world behind it; contracts behind which there may be more comers -/
def zszB (Z : zZ) (qy ciY jz jm : Nat) : Bool := Z.1.all (fun e => if e.2.2.1 == 0 then
    (e.1 == qy && (e.2.1 == qy && (e.2.2.2.1 == ciY && (List.range e.2.2.2.2.2.length).all (fun j => match e.2.2.2.2.2[j]? with
      | some ft => if j = jz then decide (ft = (3, 1, 0)) else !(ft.1 == 3) && !(ft.1 == 5)
      | none => true)))) ||
    ((decide (e.2.1 < qy) || decide (qy < e.1)) && (List.range e.2.2.2.2.2.length).all (fun j => match e.2.2.2.2.2[j]? with
      | some ft => !(ft.1 == 3) && (!(ft.1 == 5) || (j == jm && decide (ft = (5, 0, 5))))
      | none => true))
  else (decide (e.2.1 < qy) || decide (qy < e.1)) && e.2.2.2.2.2.all (fun ft => !(ft.1 == 3) && !(ft.1 == 5)))
theorem zft_size {ad : Nat → Nat} {gh gh' : Nat → Int} {cb : Int} {q : Nat} {ft : zFT} {v : Value} (hg : ∀ n, n ≠ 1 → gh' n = gh n) (h3 : ft.1 ≠ 3) (h5 : ft.1 ≠ 5) (h : zft ad gh cb q ft v) : zft ad gh' cb q ft v := by
  obtain ⟨tg, lo, hi⟩ := ft
  match tg, h, h3, h5 with
  | 0, h, _, _ => exact h
  | 1, h, _, _ => exact h
  | 2, h, _, _ => exact h
  | 3, _, h3, _ => exact absurd rfl h3
  | 4, h, _, _ => exact h
  | 5, _, _, h5 => exact absurd rfl h5
  | 7, h, _, _ => exact h
  | 8, ⟨x, h1, h2, h3⟩, _, _ => exact ⟨x, h1, h2, fun h => by rw [hg 2 (by decide)]; exact h3 (by rw [← hg 3 (by decide)]; exact h)⟩
theorem zcell_size {ad : Nat → Nat} {gh gh' : Nat → Int} {cb : Int} {tys : List (ClassId × FieldType)} {ws ws' : va_W} {q : Nat} {ct : zCT} (hg : ∀ n, n ≠ 1 → gh' n = gh n) (hp : ct.2.2.2.all (fun ft => !(ft.1 == 3) && !(ft.1 == 5)) = true) (hn : ct.1 ≠ 0) (hw : ws'[q]? = ws[q]?) (hw6 : ct.1 = 6 → ws'[q + (ct.2.2.2.headD (0, 0, 0)).1]? = ws[q + (ct.2.2.2.headD (0, 0, 0)).1]?) (h : zcell ad gh cb tys ws q ct) : zcell ad gh' cb tys ws' q ct := by
  obtain ⟨tg, ci, len, fts⟩ := ct
  have hf : ∀ (j : Nat) (ft : zFT), fts[j]? = some ft → ft.1 ≠ 3 ∧ ft.1 ≠ 5 := fun j ft hj => by
    have := List.all_eq_true.mp hp ft (List.mem_of_getElem? hj)
    rw [Bool.and_eq_true] at this
    exact ⟨by simpa using this.1, by simpa using this.2⟩
  match tg, h, hn, hw6 with
  | 0, _, hn, _ => exact absurd rfl hn
  | 1, ⟨cA, f, c1, c2, c3⟩, _, _ => exact ⟨cA, f, by rw [hw]; exact c1, c2, fun j ft hj hv => zft_size hg (hf 0 ft hv).1 (hf 0 ft hv).2 (c3 j ft hj hv)⟩
  | 2, ⟨cA, f, c1, c2, c3⟩, _, _ => exact ⟨cA, f, by rw [hw]; exact c1, c2, fun j ft hj hv => zft_size hg (hf 0 ft hv).1 (hf 0 ft hv).2 (c3 j ft hj hv)⟩
  | 3, ⟨cA, f, c1, c2⟩, _, _ => exact ⟨cA, f, by rw [hw]; exact c1, c2⟩
  | 4, ⟨cA, C, f, c1, c2⟩, _, _ => exact ⟨cA, C, f, by rw [hw]; exact c1, c2⟩
  | 5, ⟨cA, f, c1, c2⟩, _, _ => exact ⟨cA, f, by rw [hw]; exact c1, c2⟩
  | 6, ⟨cA, cB, f, g, w1, w2, w3, w4, w5⟩, _, hw6 => exact ⟨cA, cB, f, g, by rw [hw]; exact w1, w2, by rw [hw6 rfl]; exact w3, w4, by rw [hg 2 (by decide), hg 3 (by decide)]; exact w5⟩
  | 7, ⟨cA, f, c1, c2⟩, _, _ => exact ⟨cA, f, by rw [hw]; exact c1, c2⟩
theorem zW_size {Z : zZ} {qy ciY jz jm cbq : Nat} {ad : Nat → Nat} {gh gh' : Nat → Int} {tys : List (ClassId × FieldType)} {ws : va_W} {fs : List Value} {x v : Int32} (hB : zszB Z qy ciY jz jm = true) (h6 : ∀ e ∈ Z.1, e.2.2.1 = 6 → ∀ q, e.1 ≤ q → q ≤ e.2.1 → q + (e.2.2.2.2.2.headD (0, 0, 0)).1 ≠ qy) (hW : zW Z ad gh tys ws) (c1 : ws[qy]? = some (ad qy, .inr (ciY, fs))) (hx : fs[jz]? = some (.int x)) (hx1 : (x + 1).toInt = gh' 1) (hg1 : gh' 1 = gh 1 + 1) (hg : ∀ n, n ≠ 1 → gh' n = gh n) (hc : (cbq : Int) = Z.2.1 + gh 1) (hv : zfv ws cbq jm = some (.int v)) (hv5 : 0 ≤ v.toInt ∧ v.toInt ≤ 5) :
    zW Z ad gh' tys (ws.set qy (ad qy, .inr (ciY, fs.set jz (.int (x + 1))))) := by
  have l1 := (List.getElem?_eq_some_iff.mp c1).1
  intro e he q2 g1 g2
  have hcell := hW e he q2 g1 g2
  have hB1 := List.all_eq_true.mp hB e he
  obtain ⟨a, b, tg, ci, len, fts⟩ := e
  simp only at g1 g2 hcell hB1 ⊢
  by_cases ht : tg = 0
  · subst ht
    rw [if_pos (by decide)] at hB1
    obtain ⟨fs2, k1, k2, k3⟩ := hcell
    rcases Bool.or_eq_true_iff.mp hB1 with h | h
    · rw [Bool.and_eq_true, Bool.and_eq_true, Bool.and_eq_true, beq_iff_eq, beq_iff_eq, beq_iff_eq] at h
      obtain ⟨e1, e2, e3, e4⟩ := h
      have eq2 : q2 = qy := by omega
      subst eq2
      subst e3
      rw [c1] at k1
      cases k1
      refine ⟨fs.set jz (.int (x + 1)), List.getElem?_set_self l1, by rw [List.length_set]; exact k2, fun j ft w hj hw => ?_⟩
      have h4 := List.all_eq_true.mp e4 j (List.mem_range.mpr (List.getElem?_eq_some_iff.mp hj).1)
      simp only [hj] at h4
      by_cases hjz : j = jz
      · subst hjz
        rw [if_pos rfl, decide_eq_true_eq] at h4
        subst h4
        rw [List.getElem?_set_self (List.getElem?_eq_some_iff.mp hx).1] at hw
        cases hw
        exact ⟨x + 1, rfl, hx1⟩
      · rw [if_neg hjz, Bool.and_eq_true] at h4
        rw [List.getElem?_set_ne (Ne.symm hjz)] at hw
        exact zft_size hg (by simpa using h4.1) (by simpa using h4.2) (k3 j ft w hj hw)
    · rw [Bool.and_eq_true, Bool.or_eq_true, decide_eq_true_eq, decide_eq_true_eq] at h
      obtain ⟨e1, e4⟩ := h
      refine ⟨fs2, by rw [List.getElem?_set_ne (by omega)]; exact k1, k2, fun j ft w hj hw => ?_⟩
      have h4 := List.all_eq_true.mp e4 j (List.mem_range.mpr (List.getElem?_eq_some_iff.mp hj).1)
      simp only [hj] at h4
      rw [Bool.and_eq_true, Bool.or_eq_true, Bool.and_eq_true, beq_iff_eq, decide_eq_true_eq] at h4
      have hold := k3 j ft w hj hw
      by_cases h5 : ft.1 = 5
      · have h7 : j = jm ∧ ft = (5, 0, 5) := by
          rcases h4.2 with h | h
          · rw [h5] at h
            simp at h
          · exact h
        obtain ⟨rfl, rfl⟩ := h7
        obtain ⟨x', rfl, hx'⟩ := hold
        refine ⟨x', rfl, fun hlt => ?_⟩
        by_cases hq : q2 = cbq
        · subst hq
          unfold zfv at hv
          rw [k1] at hv
          have hv : fs2[j]? = some (.int v) := hv
          rw [hw] at hv
          cases hv
          exact hv5
        · exact hx' (by omega)
      · exact zft_size hg (by simpa using h4.1) h5 hold
  · have ht' : ((tg == 0) = true) = False := by simp [ht]
    rw [if_neg (by simp [ht])] at hB1
    rw [Bool.and_eq_true, Bool.or_eq_true, decide_eq_true_eq, decide_eq_true_eq] at hB1
    exact zcell_size hg hB1.2 ht (List.getElem?_set_ne (by omega)) (fun h => List.getElem?_set_ne (Ne.symm (h6 _ he h q2 g1 g2))) hcell
def zφs (gh gh' : Nat → Int) : Prop := gh 1 ≤ gh' 1 ∧ gh' 1 ≤ 40 ∧ ∀ n, n ≠ 1 → gh' n = gh n
def zQe (Z : zZ) (D : va_G) (cl : List vw_C) (tys : List (ClassId × FieldType)) (A : Nat → Prop) (ad : Nat → Nat) (gh : Nat → Int) (alts : List zTm) (wr : zWr) (ws : va_W) : Array Value → State → Outcome → State → Prop := fun a st o t => ∃ (gh' : Nat → Int) (nu' : List Int), zφs gh gh' ∧ (∀ g, g < Z.2.2 → nu'[g]? = some (gh' g)) ∧ zQc Z D cl tys A ad gh' alts wr ws nu' a st o t
def zMetE (l : Launch) (Ts : List Cond) (cl : List vw_C) (Z : zZ) (RO : zRO) (K : zK) : Prop := ∀ (D : va_G) (tys : List (ClassId × FieldType)) (A : Nat → Prop) (ad : Nat → Nat) (gh : Nat → Int) (ws : va_W) (nu : List Int) (As : List Value), (0 < Z.2.2 ∧ gh 0 = 0) → zEnt Z ad gh tys K ws nu As → va_D A ws →
  Met l K.1 (Cond.code K.1 K.2.1 K.2.2.1 K.2.2.2.1 :: Ts) (zrm K) (zPc D cl tys A ad RO ws As) (zQe Z D cl tys A ad gh (zKA K) (zKW K) ws) 0 0 A
theorem zmet_ofE {l : Launch} {Ts : List Cond} {cl : List vw_C} {Z : zZ} {RO : zRO} {RS : List (List Int)} {MT : zMT} {CS : List zC} {C : zC} {P : zPool} {rc : Nat} (hTg : ∀ w ∈ Ts, goodWord w = true) (hR : zROk RO) (hZ : zDj Z) (hRS : zRowT RO RS) (hPk : zPok Ts cl RO MT (MT C.1).1.cls P) (hCS : ∀ C ∈ CS, zMet l Ts cl Z RO (zKof MT C)) (hrc : zrcOk rc (MT C.1).2.2.2) (hy : plainName (MT C.1).1.cls = true)
    (hroom : P.2.2.2.1.all (fun q => !(q.2.1 == 3) || (decide (20 ≤ C.2.1.1) && decide (1000 ≤ C.2.1.2))) = true)
    (hand : ∀ (p : Program) (e : Env) (R : Room) (s : State) (m : MethodId) (args : Array Value) (below : List Frame) (meth : Method) (c : Code) (D : va_G) (tys : List (ClassId × FieldType)) (A : Nat → Prop) (ad : Nat → Nat) (gh : Nat → Int) (ws : va_W) (nu : List Int) (Q : State → Prop), (∀ g, g < Z.2.2 → nu[g]? = some (gh g)) → nu.length = C.2.2.1.2.1.length →
      (∀ (gh' : Nat → Int) (nuF : List Int), zφs gh gh' → (∀ g, g < Z.2.2 → nuF[g]? = some (gh' g)) → nuF.length = C.2.2.1.2.1.length → zCtx p l e R s m args below meth c (MT C.1).2.1 (MT C.1).1.cls (MT C.1).2.2.1 Ts RO cl Z RS P MT CS (C.2.2.1.2.1.length, C.2.2.2.1, C.2.2.2.2, C.2.1, rc) D tys A ad gh' ws nuF s.heap 0 0 Q) →
      ∀ ls : Array Slot, zG Z D cl tys A ad gh C.2.2.2.2 s.heap ws nu (MT C.1).2.2.1 C.2.2.1.2 nu ls [] ws s.heap [] → W p l e R s m args below meth c s.heap [] 0 0 Q (F0 m 0 ls [])) : zMetE l Ts cl Z RO (zKof MT C) := by
  intro D tys A ad gh ws nu As h0 hEnt hD
  refine Met.ofW (cc := (MT C.1).2.1) (maxL := (MT C.1).2.2.1) (ret := (MT C.1).2.2.2) hy rfl ?_
  intro p e s m args below meth c s₁ B hml hv
  obtain ⟨rfl, hP, hK, hro⟩ := hv
  have hx := B.exec
  have hb := B.bytes
  have hr := B.returns
  have hts0 := atoms_spec (ws := Cond.code (MT C.1).1 (MT C.1).2.1 (MT C.1).2.2.1 (MT C.1).2.2.2 :: Ts) B.pre
  have hts : ∀ w ∈ Ts, w.before As.toArray s = true := fun w hw => hts0 w (List.mem_cons_of_mem _ hw)
  have hown : s.vm.findClass (MT C.1).1.cls = some m.cls := findClass_of_methodNamed B.named
  have hlocks := B.notSynchronized
  obtain ⟨hW, hE1, hC1, hgh, hL, hst, hF, hme⟩ := hEnt
  obtain ⟨q1, q2, q3, q4, q5, q6⟩ := hPk
  have X : ∀ (gh' : Nat → Int) (nuF : List Int), zφs gh gh' → (∀ g, g < Z.2.2 → nuF[g]? = some (gh' g)) → nuF.length = C.2.2.1.2.1.length → zCtx p l e (headSpec (Cond.code (MT C.1).1 (MT C.1).2.1 (MT C.1).2.2.1 (MT C.1).2.2.2 :: Ts) (zrm (zKof MT C))).room s m As.toArray below meth c (MT C.1).2.1 (MT C.1).1.cls (MT C.1).2.2.1 Ts RO cl Z RS P MT CS (C.2.2.1.2.1.length, C.2.2.2.1, C.2.2.2.2, C.2.1, rc) D tys A ad gh' ws nuF s.heap 0 0 (MQ below (zQe Z D cl tys A ad gh C.2.2.2.1 C.2.2.2.2 ws) As.toArray s 0 0 A) := by
    intro gh' nuF hφ hgF hlF
    have h0' : 0 < Z.2.2 ∧ gh' 0 = 0 := ⟨h0.1, by rw [hφ.2.2 0 (by decide)]; exact h0.2⟩
    refine ⟨⟨hx, hb, h0', hml, rfl, hown⟩, ⟨hts, hTg, hK, hR, hro, hZ, hlocks⟩, ⟨hlF.symm, ⟨Nat.le_refl _, Nat.le_refl _⟩⟩, ⟨fun f hf => ?_, fun f hf h2 => ?_, fun q hq => ⟨(q2 q hq).1, (q2 q hq).2.1, hts _ (q2 q hq).2.2⟩, fun q hq => ⟨(q3 q hq).1, (q3 q hq).2.1, hts _ (q3 q hq).2.2⟩, fun q hq => ?_⟩, fun q hq pc H locs ls rest hd hS kk => ?_, fun q hq pc H locs ls rest hd hS kk => ?_, fun q hq h3 pc H locs ls rest x hd hS hsz hc kk => ?_, fun i tb hi pc H locs ls rest x hd hS hin kk => ?_, hCS, ⟨Nat.zero_le _, Nat.zero_le _⟩, fun nu0 rc2 pc len sg su hE2 hz d0 d1 d2 => ?_⟩
    · obtain ⟨Cn, T, N, ty0, f1, f2, f3, f4, f5, f6, -⟩ := q1 f hf
      exact ⟨Cn, T, N, ty0, f1, f2, fun w hw => hts w (f3 w hw), f4, f5, Or.inl (hts _ f6)⟩
    · obtain ⟨Cn, T, N, ty0, f1, f2, f3, f4, f5, f6, f7, f8, f9, f10⟩ := q1 f hf
      exact ⟨Cn, T, N, ty0, f1, f2, fun w hw => hts w (f3 w hw), f4, f5, Or.inl (hts _ f6), f7 h2, f8, f9, f10⟩
    · obtain ⟨g1, g2, g3, -, g4⟩ := q4 q hq
      refine ⟨g1, g2, fun z Cc hCc => ?_, g4⟩
      obtain ⟨k1, host, k2⟩ := g3 z Cc hCc
      exact ⟨k1, host, k2 ad A s s.heap hro⟩
    · exact q5 q hq p l e _ s m _ below meth c _ _ A ad pc H locs ls rest 0 0 hx hb hown hts hro hd hS kk
    · exact q6 q hq p l e _ s m _ below meth c _ _ A ad pc H locs ls rest 0 0 hx hb hown hts hro hd hS kk
    · have hrm := List.all_eq_true.mp hroom q hq
      have h3' : (!(q.2.1 == 3)) = false := by rw [h3]; rfl
      rw [h3', Bool.false_or, Bool.and_eq_true, decide_eq_true_eq, decide_eq_true_eq] at hrm
      exact (q4 q hq).2.2.2.1 h3 p l e _ s m _ below meth c _ _ A ad pc H locs ls rest 0 0 _ x hx hb hml hown hts hro hrm.1 hrm.2 ⟨Nat.zero_le _, Nat.zero_le _⟩ hd hS hsz hc kk
    · exact hRS i tb hi p l e _ s m _ below meth c _ _ A ad pc H locs ls rest 0 0 x hx hb hro hd hS hin kk
    · have h1 := zk_ret (p := p) (l := l) (e := e) (R := (headSpec (Cond.code (MT C.1).1 (MT C.1).2.1 (MT C.1).2.2.1 (MT C.1).2.2.2 :: Ts) (zrm (zKof MT C))).room) (s := s) (m := m) (args := As.toArray) (below := below) (D := D) (cl := cl) (tys := tys) (A := A) (ad := ad) (gh := gh') (ws0 := ws) (nL := (MT C.1).2.2.1) (Co := (C.2.2.1.2.1.length, C.2.2.2.1, C.2.2.2.2, C.2.1, rc)) hx hb h0' rfl hlocks hlF.symm (fun q => hr.trans (hrc.1 q)) (fun q => hr.trans (hrc.2.1 q)) (fun q => hr.trans (hrc.2.2.1 q)) (fun q => hr.trans (hrc.2.2.2 q)) hE2 hz d0 d1 d2
      intro nu ls st ws1 H locs hG T hT hX
      obtain ⟨t, z1, o, z2, z3, z4, z5⟩ := h1 nu ls st ws1 H locs hG T hT hX
      exact ⟨t, z1, o, z2, z3, ⟨gh', nuF, hφ, hgF, z4⟩, z5⟩
  rw [lg_entry_eq]
  refine hand p e _ s m _ below meth c D tys A ad gh ws nu _ hgh hE1.1 X _ ?_
  refine ⟨⟨hP, hD, va_S.rf, hW, fun q j _ => rfl⟩, ⟨hE1, hC1, hgh, [], by rw [List.append_nil]⟩, hL, ?_, hF, ?_⟩
  · have hst : C.2.2.1.2.2.2.2.1 = [] := hst
    rw [hst]
    trivial
  · have hme : C.2.2.1.2.2.2.2.2.2 = [] := hme
    rw [hme]
    exact fun q hq => by cases hq
section ZH3
variable {p : Program} {l : Launch} {e : Env} {R : Room} {s : State} {m : MethodId} {args : Array Value} {below : List Frame} {meth : Method} {c : Code} {Q : State → Prop} {cc : ByteArray} {pc ce sl : Nat}
variable {Z : zZ} {D : va_G} {cl : List vw_C} {tys : List (ClassId × FieldType)} {A : Nat → Prop} {ad : Nat → Nat} {gh : Nat → Int} {wr : zWr} {H0 : Heap} {ws0 : va_W} {nu0 : List Int} {nL : Nat}
variable {env : List zIv} {cd : List zCd} {L st : List zAV} {fa : List zFa} {me : List zMe}
variable {Ts : List Cond} {RO : zRO} {K : zK} {own : String}
/-- a plain call, by hand, behind which there may be more comers -/
theorem zr_callE (hx : p.tables.exec = Jvm.exec) (hb : c.code = cc) (hcs : ce ≤ R.cells ∧ sl ≤ R.slots) (hml : c.maxLocals = nL) (hH0 : H0 = s.heap) (hown : s.vm.findClass own = some m.cls) (hts : ∀ w ∈ Ts, w.before args s = true) (hTg : ∀ w ∈ Ts, goodWord w = true) (hK : va_K D cl tys s) (hR : zROk RO) (hro : RO ad A s s.heap)
    {idx ci N q n : Nat} {T : u_T} {ws : va_W} {H : Heap} {locs : List Loc} {ls : Array Slot} {As restc fs : List Value} (hsz : ls.size = nL) (hP : va_P D cl ws H) (hS : va_S A H0 H locs) (c1 : ws[q]? = some (ad q, .inr (ci, fs))) (hcl : cl[ci]? = some (K.1.cls, T, N)) (hn : As.length = n)
    (hM : Met l K.1 (Cond.code K.1 K.2.1 K.2.2.1 K.2.2.2.1 :: Ts) (zrm K) (zPc D cl tys A ad RO ws (.ref (ad q) :: As)) (zQe Z D cl tys A ad gh (zKA K) (zKW K) ws) 0 0 A) (hd : decode cc pc = .ok (.invokevirtual idx, 3)) (hlk : zLkV Ts own idx K n)
    (hroom : K.2.2.2.2.1.1 + 1 ≤ R.frames ∧ 8 + (K.2.2.1 + 11) + K.2.2.2.2.1.2 ≤ R.locals) (hsum : (restc.map fun v => v.category).sum ≤ 8)
    (k : ∀ (gh' : Nat → Int) (nu' : List Int) (alt : zTm) (v : Option Value) (ws' : va_W) (H1 : Heap) (locs1 : List Loc), zφs gh gh' → (∀ g, g < Z.2.2 → nu'[g]? = some (gh' g)) → alt ∈ zKA K → va_P D cl ws' H1 → va_D A ws' → va_S A H0 H1 locs1 → zW Z ad gh' tys ws' → zUn (zKW K) ws ws' → zExt ad nu' alt.2 ws' v → W p l e R s m args below meth c H1 locs1 ce sl Q (F0 m (pc + 3) ls (v.toList ++ restc))) : W p l e R s m args below meth c H locs ce sl Q (F0 m pc ls (As.reverse ++ .ref (ad q) :: restc)) := by
  obtain ⟨l1, l2, l3, l4, l5, l6, l7, l8⟩ := hlk
  have hgd : GoodIn Ts (wsV own idx K.1.cls K.1 (Cond.code K.1 K.2.1 K.2.2.1 K.2.2.2.1 :: Ts)) := zgoodIn hTg (fun w hw => by
    unfold wsV at hw
    rcases List.mem_append.mp hw with hw | hw
    · simp only [List.mem_cons, List.not_mem_nil, or_false] at hw
      rcases hw with rfl | rfl | rfl | rfl
      · exact l1
      · exact l2
      · exact l3
      · exact l4
    · rcases List.mem_cons.mp hw with rfl | hw
      · exact l5
      · exact hw)
  have hr : va_Run p l e R s m args below meth c H locs ce sl 0 0 (F0 m pc ls (As.reverse ++ .ref (ad q) :: restc)) restc (zQe Z D cl tys A ad gh (zKA K) (zKW K) ws (Value.ref (ad q) :: As).toArray) A := by
    refine va_runV (As := As) (rest := restc) (n := n) ⟨hx, hb, hml, hown, hts⟩ hM (cwV n hts hgd rfl rfl rfl ⟨rfl, l6, l7, l8⟩ hroom) ⟨zPc.blind hR, va_recv hK hP hcl c1, fun U hU hW => ⟨rfl, by rw [hU]; exact hP, va_K.moved hW.alike hK, ?_⟩⟩ rfl hn hsz rfl (lv_room hsum) hd ⟨hcs.1, hcs.2⟩
    rw [hU]
    refine hR.1 ad A s U H hW (hR.2.2 ad A s s.heap H (fun a h1 h2 => ?_) hro)
    rw [hH0] at hS
    exact hS.2.1 a h1 h2
  intro T0 hT X
  obtain ⟨v, st₀, t, T', L', g0, X', hL, e1, e2, ⟨gh', nu', hφ, hgn, ⟨hz, hk⟩, alt, v', ws', ha, hv, hP', hD', hW', hU', hX'⟩, hst⟩ := hr T0 hT X
  cases hv
  rw [g0] at hz hk
  have hS1 : va_S A H0 T'.heap (locs ++ L') := ⟨Nat.le_trans hS.1 (by rw [e1]; exact hz), fun q h1 h2 => by rw [e1, hk q (Nat.lt_of_lt_of_le h1 hS.1) h2]; exact hS.2.1 q h1 h2, fun q hq => by
    rcases List.mem_append.mp hq with h | h
    · exact hS.2.2 q h
    · exact hL q h⟩
  obtain ⟨t2, a1, b1⟩ := k gh' nu' alt v ws' T'.heap _ hφ hgn ha (by rw [e1]; exact hP') hD' hS1 hW' hU' hX' T' rfl X'
  exact ⟨t2, hst t2 a1, b1⟩
end ZH3
