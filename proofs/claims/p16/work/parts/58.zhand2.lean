/-! BY HAND: a return, a call -/
section ZH2
variable {p : Program} {l : Launch} {e : Env} {R : Room} {s : State} {m : MethodId} {args : Array Value} {below : List Frame} {meth : Method} {c : Code} {Q : State → Prop} {cc : ByteArray} {pc ce sl : Nat}
variable {Z : zZ} {D : va_G} {cl : List vw_C} {tys : List (ClassId × FieldType)} {A : Nat → Prop} {ad : Nat → Nat} {gh : Nat → Int} {wr : zWr} {H0 : Heap} {ws0 : va_W} {nu0 : List Int} {nL : Nat}
variable {env : List zIv} {cd : List zCd} {L st : List zAV} {fa : List zFa} {me : List zMe}
variable {nuE : List Int} {alts : List zTm} {Ts : List Cond} {RO : zRO} {K : zK} {own : String}
theorem zr_vret (hx : p.tables.exec = Jvm.exec) (hb : c.code = cc) (hlocks : meth.locks = false) (hr : meth.sig.returnType = none) {ws : va_W} {H : Heap} {locs : List Loc} {ls : Array Slot} {alt : zTm} (hS : va_S A s.heap H locs) (hP : va_P D cl ws H) (hD : va_D A ws) (hW : zW Z ad gh tys ws) (hU : zUn wr ws0 ws) (hal : alt ∈ alts) (hX : zExt ad nuE alt.2 ws none) (hd : decode cc pc = .ok (.return_, 1)) :
    W p l e R s m args below meth c H locs 0 0 (MQ below (zQc Z D cl tys A ad gh alts wr ws0 nuE) args s 0 0 A) (F0 m pc ls []) :=
  W.vret hx hb hr (fun t ht _ => ⟨hS.F ht, alt, none, ws, hal, rfl, by rw [ht]; exact hP, hD, hW, hU, hX⟩) hS.2.2 hd hlocks
/-- a plain call, by hand: on with each exit's world -/
theorem zr_callV (hx : p.tables.exec = Jvm.exec) (hb : c.code = cc) (hcs : ce ≤ R.cells ∧ sl ≤ R.slots) (hml : c.maxLocals = nL) (hH0 : H0 = s.heap) (hown : s.vm.findClass own = some m.cls) (hts : ∀ w ∈ Ts, w.before args s = true) (hTg : ∀ w ∈ Ts, goodWord w = true) (hK : va_K D cl tys s) (hR : zROk RO) (hro : RO ad A s s.heap)
    {idx ci N q n : Nat} {T : u_T} {ws : va_W} {H : Heap} {locs : List Loc} {ls : Array Slot} {As restc fs : List Value} {nu' : List Int} {gh' : Nat → Int} (hsz : ls.size = nL) (hP : va_P D cl ws H) (hS : va_S A H0 H locs) (c1 : ws[q]? = some (ad q, .inr (ci, fs))) (hcl : cl[ci]? = some (K.1.cls, T, N)) (hn : As.length = n)
    (hM : Met l K.1 (Cond.code K.1 K.2.1 K.2.2.1 K.2.2.2.1 :: Ts) (zrm K) (zPc D cl tys A ad RO ws (.ref (ad q) :: As)) (zQc Z D cl tys A ad gh' (zKA K) (zKW K) ws nu') 0 0 A) (hd : decode cc pc = .ok (.invokevirtual idx, 3)) (hlk : zLkV Ts own idx K n)
    (hroom : K.2.2.2.2.1.1 + 1 ≤ R.frames ∧ 8 + (K.2.2.1 + 11) + K.2.2.2.2.1.2 ≤ R.locals) (hsum : (restc.map fun v => v.category).sum ≤ 8)
    (k : ∀ (alt : zTm) (v : Option Value) (ws' : va_W) (H1 : Heap) (locs1 : List Loc), alt ∈ zKA K → va_P D cl ws' H1 → va_D A ws' → va_S A H0 H1 locs1 → zW Z ad gh' tys ws' → zUn (zKW K) ws ws' → zExt ad nu' alt.2 ws' v → W p l e R s m args below meth c H1 locs1 ce sl Q (F0 m (pc + 3) ls (v.toList ++ restc))) : W p l e R s m args below meth c H locs ce sl Q (F0 m pc ls (As.reverse ++ .ref (ad q) :: restc)) := by
  obtain ⟨l1, l2, l3, l4, l5, l6, l7, l8⟩ := hlk
  have hgd : GoodIn Ts (wsV own idx K.1.cls K.1 (Cond.code K.1 K.2.1 K.2.2.1 K.2.2.2.1 :: Ts)) := zgoodIn hTg (fun w hw => by
    unfold wsV at hw
    rcases List.mem_append.mp hw with hw | hw
    · simp only [List.mem_cons, List.not_mem_nil, or_false] at hw
      rcases hw with rfl | rfl | rfl | rfl
      · exact l1
      · exact l2
      · exact l3
      · exact l4
    · rcases List.mem_cons.mp hw with rfl | hw
      · exact l5
      · exact hw)
  have hr : va_Run p l e R s m args below meth c H locs ce sl 0 0 (F0 m pc ls (As.reverse ++ .ref (ad q) :: restc)) restc (zQc Z D cl tys A ad gh' (zKA K) (zKW K) ws nu' (Value.ref (ad q) :: As).toArray) A := by
    refine va_runV (As := As) (rest := restc) (n := n) ⟨hx, hb, hml, hown, hts⟩ hM (cwV n hts hgd rfl rfl rfl ⟨rfl, l6, l7, l8⟩ hroom) ⟨zPc.blind hR, va_recv hK hP hcl c1, fun U hU hW => ⟨rfl, by rw [hU]; exact hP, va_K.moved hW.alike hK, ?_⟩⟩ rfl hn hsz rfl (lv_room hsum) hd ⟨hcs.1, hcs.2⟩
    rw [hU]
    refine hR.1 ad A s U H hW (hR.2.2 ad A s s.heap H (fun a h1 h2 => ?_) hro)
    rw [hH0] at hS
    exact hS.2.1 a h1 h2
  intro T0 hT X
  obtain ⟨v, st₀, t, T', L', g0, X', hL, e1, e2, ⟨⟨hz, hk⟩, alt, v', ws', ha, hv, hP', hD', hW', hU', hX'⟩, hst⟩ := hr T0 hT X
  cases hv
  rw [g0] at hz hk
  have hS1 : va_S A H0 T'.heap (locs ++ L') := ⟨Nat.le_trans hS.1 (by rw [e1]; exact hz), fun q h1 h2 => by rw [e1, hk q (Nat.lt_of_lt_of_le h1 hS.1) h2]; exact hS.2.1 q h1 h2, fun q hq => by
    rcases List.mem_append.mp hq with h | h
    · exact hS.2.2 q h
    · exact hL q h⟩
  obtain ⟨t2, a1, b1⟩ := k alt v ws' T'.heap _ ha (by rw [e1]; exact hP') hD' hS1 hW' hU' hX' T' rfl X'
  exact ⟨t2, hst t2 a1, b1⟩
end ZH2
