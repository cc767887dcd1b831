/-! THE LAW OVER THE PURE MACHINE: its reads of the script, its closure, its loop -/
def yL0 (i : Int) : List yV := [(3, 3000), (3, 0), (3, 90), (1, i)]
def yrunL (t : Nat → Option (Instr × Nat)) (rs : List (Nat × Nat × Nat)) (L0 : List yV) (sc : Nat → Int) (X : yX) (Y : yNx) (sp : Nat → Bool) : Nat → Nat → List yV → List yV → yM → Prop
  | 0, pc, L, st, g => Y pc L st g
  | n + 1, pc, L, st, g => match rs.find? (fun q => Nat.beq q.1 pc) with
    | some q => L = L0 ∧ yrunL t rs L0 sc X Y sp n q.2.2 L ((1, sc q.2.1) :: st) g
    | none => match t pc with
      | none => False
      | some q => ystep X (fun _ _ => False) (fun pc' L' st' g' => bif sp pc' then Y pc' L' st' g' else yrunL t rs L0 sc X Y sp n pc' L' st' g') pc L st g q.1 q.2
def yClS (rs : List (Nat × Nat × Nat)) (L0 : List yV) (sc : Nat → Int) (Y : yNx) : Prop := ∀ q ∈ rs, ∀ (st : List yV) (g : yM), Y q.2.2 L0 ((1, sc q.2.1) :: st) g → Y q.1 L0 st g
theorem yrunL_ok {t : Nat → Option (Instr × Nat)} {rs : List (Nat × Nat × Nat)} {L0 : List yV} {sc : Nat → Int} {X : yX} {Y : yNx} {sp : Nat → Bool} (hY : yCl t X (fun _ _ => False) Y) (hS : yClS rs L0 sc Y) : ∀ (n pc : Nat) (L st : List yV) (g : yM), yrunL t rs L0 sc X Y sp n pc L st g → Y pc L st g
  | 0, _, _, _, _, h => h
  | n + 1, pc, L, st, g, h => by
    unfold yrunL at h
    split at h
    · rename_i q hq
      obtain ⟨rfl, h⟩ := h
      have hm := List.mem_of_find?_eq_some hq
      have he : q.1 = pc := by have h9 := List.find?_some hq; exact ybeq h9
      rw [← he]
      exact hS q hm st g (yrunL_ok hY hS n _ _ _ _ h)
    · split at h
      · exact h.elim
      · rename_i q hq
        refine hY _ pc L st g q hq h (fun pc' L' st' g' h2 => ?_)
        cases hs : sp pc' with
        | true =>
          rw [hs] at h2
          exact h2
        | false =>
          rw [hs] at h2
          exact yrunL_ok hY hS n pc' L' st' g' h2
section YLW
variable {p : Program} {l : Launch} {e : Env} {s : State} {m : MethodId} {below : List Frame} {meth : Method} {c : Code} {b L : Nat} {xs : Nat → Int32} {D : va_G} {tys : List (ClassId × FieldType)} {A : Nat → Prop} {ad : Nat → Nat} {Q : State → Prop} {ce sl : Nat}
theorem ylawX (C0 : lw_At p s m meth c b L xs) (hK : va_K D zpcl tys s) (hro : zpRO ad A s s.heap) {CS : List yC} (hCS : ∀ cn ∈ CS, yMet l zpTs zpcl zpZ zpRO zpMT cn) (hcs : ce ≤ room_1.cells ∧ sl ≤ room_1.slots) : yCtx p l e room_1 s m #[Value.ref b] below meth c code "PushedInLaw" 4 zpTs zpRO zpcl (zpZ, zpRS, zpPL, zpMT, CS, (2048, 84000), 9) D tys A ad s.heap ce sl Q (fun _ _ => False) := by
  obtain ⟨hx, hb, hr, hml, hown, hts0, hX, hbl, hlocks, -⟩ := C0
  have hts : ∀ w ∈ zpTs, w.before #[Value.ref b] s = true := fun w hw => hts0 w (List.mem_filter.mp hw).1
  obtain ⟨q1, q2, q3, q4, q5, q6⟩ := zpKL
  refine ⟨⟨hx, hb, hml, rfl, hown⟩, ⟨hts, zTs_good, hK, zROx_ok, hro, zpDj⟩, ⟨Nat.le_refl _, Nat.le_refl _⟩, ⟨fun f hf => ?_, fun f hf h2 => ?_, fun q hq => ⟨(q2 q hq).1, (q2 q hq).2.1, hts _ (q2 q hq).2.2⟩, fun q hq => ⟨(q3 q hq).1, (q3 q hq).2.1, hts _ (q3 q hq).2.2⟩, fun q hq => ?_⟩, fun q hq pc H locs ls rest hd hS kk => ?_, fun i tb hi pc H locs ls rest x hd hS hin kk => ?_, yRb, hCS, hcs, fun kd pc len L st g h d0 d1 d2 => ?_⟩
  · cases hf
  · cases hf
  · obtain ⟨g1, g2, g3, -, g4⟩ := q4 q hq
    refine ⟨g1, g2, fun z Cc hCc => ?_, g4⟩
    obtain ⟨k1, host, k2⟩ := g3 z Cc hCc
    exact ⟨k1, host, k2 ad A s s.heap hro⟩
  · exact q5 q hq p l e _ s m _ below meth c _ _ A ad pc H locs ls rest _ _ hx hb hown hts hro hd hS kk
  · exact zpHyp.2.2.1 i tb hi p l e _ s m _ below meth c _ _ A ad pc H locs ls rest _ _ x hx hb hro hd hS hin kk
  · exfalso
    clear d0 d1 d2
    unfold yi_ret at h
    split at h
    · exact (ybif h).2
    · rename_i t x
      cases hc : (Nat.beq len 1 && (Nat.beq t 1 && Nat.beq (zpZ, zpRS, zpPL, zpMT, CS, ((2048, 84000) : Nat × Nat), (9 : Nat)).2.2.2.2.2.2 1)) with
      | true =>
        rw [hc] at h
        exact h
      | false =>
        rw [hc] at h
        exact (ybif h).2.2
    · exact (ybif h).2
    · exact h
abbrev yWl (p : Program) (l : Launch) (e : Env) (s : State) (m : MethodId) (below : List Frame) (meth : Method) (c : Code) (b : Nat) (D : va_G) (tys : List (ClassId × FieldType)) (A : Nat → Prop) (ad : Nat → Nat) (Q : State → Prop) (ce sl : Nat) : yNx := fun pc L st g => yWP (yG zpZ D zpcl tys A ad s.heap 4) (fun H locs pc ls st => W p l e room_1 s m #[Value.ref b] below meth c H locs ce sl Q (F0 m pc ls st)) pc L st g
theorem ylawC (C0 : lw_At p s m meth c b L xs) (hK : va_K D zpcl tys s) (hro : zpRO ad A s s.heap) (hcs : ce ≤ room_1.cells ∧ sl ≤ room_1.slots) : ∀ CS : List yC, (∀ cn ∈ CS, yMet l zpTs zpcl zpZ zpRO zpMT cn) → yCl zpDL (zpZ, zpRS, zpPL, zpMT, CS, (2048, 84000), 9) (fun _ _ => False) (yWl p l e s m below meth c b D tys A ad Q ce sl) := fun CS hCS nx pc L st g q hq h hk => ystep_ok (ylawX C0 hK hro hCS hcs) h (zpDLk pc q hq) hk
theorem ylawS (C0 : lw_At p s m meth c b L xs) (had : ad 3000 = b) (hbA : ¬ A b) (hL : L ≤ 384) {i : Nat} (hi : i + 5 < L) : ∀ rs : List (Nat × Nat × Nat), (∀ q ∈ rs, zscr code q.1 = some q.2) → yClS rs (yL0 i) (fun k => (xs (i + k)).toInt) (yWl p l e s m below meth c b D tys A ad Q ce sl) := by
  intro rs hrs q hq st g hnext ls stc ws H locs hG
  obtain ⟨hP, hD, hS, hM, hLl, hT⟩ := id hG
  obtain ⟨hx, hb, -, -, -, -, hX, hbl, -, -⟩ := C0
  obtain ⟨v0, g0, hv0⟩ := hLl.2.2.2 0 (3, 3000) rfl (by decide)
  have e0 : v0 = .ref (ad 3000) := yvR' hv0 (Or.inl rfl)
  rw [had] at e0
  subst e0
  obtain ⟨v3, g3, hv3⟩ := hLl.2.2.2 3 (1, (i : Int)) rfl (show (1 : Nat) ≠ 0 by decide)
  obtain ⟨x3, rfl, hx3⟩ := yvI' hv3
  have hx3 : x3.toInt = (i : Int) := hx3
  have hscr := hrs q hq
  obtain ⟨pc, k, pc'⟩ := q
  have fin : ∀ k' : Nat, (k', pc') = (k, pc') → W p l e room_1 s m #[Value.ref b] below meth c H locs ce sl Q (F0 m pc' ls (.int (xs (i + k')) :: stc)) := fun k' hk => by
    cases hk
    exact hnext ls (.int (xs (i + k)) :: stc) ws H locs ⟨hP, hD, hS, hM, hLl, yvI rfl, hT⟩
  have hscr : zscr code pc = some (k, pc') := hscr
  show W p l e room_1 s m #[Value.ref b] below meth c H locs ce sl Q (F0 m pc ls stc)
  unfold zscr at hscr
  split at hscr
  · rename_i i0' i3' d0 d1 d2
    split at hscr
    · rename_i hc
      cases hscr
      refine lv_aload_n hx hb d0 hc.1 g0 ?_
      refine lv_iload_n hx hb d1 hc.2 g3 ?_
      have hin : vp_in x3 L := vp_in_iff.mpr ⟨by omega, by omega⟩
      refine va_sld hx hb hX hbl hbA hS hin d2 ?_
      have ec : x3.toNatClampNeg = i + 0 := by
        show x3.toInt.toNat = _
        omega
      rw [ec]
      exact fin 0 rfl
    · cases hscr
  · rename_i i0' i3' kk d0 d1 d2
    split at hscr
    · rename_i d3 d4
      split at hscr
      · rename_i hc
        cases hscr
        refine lv_aload_n hx hb d0 hc.1.1 g0 ?_
        refine lv_iload_n hx hb d1 hc.1.2 g3 ?_
        refine lv_iconst hx hb d2 rfl ?_
        refine lv_iadd hx hb d3 ?_
        have ek : (Int32.ofInt kk).toInt = kk := zofI (by omega) (by omega)
        have es : (x3 + Int32.ofInt kk).toInt = x3.toInt + kk := by
          rw [Int32.toInt_add, ek, Int.bmod_eq_of_le (by omega) (by omega)]
        have hin : vp_in (x3 + Int32.ofInt kk) L := vp_in_iff.mpr ⟨by omega, by omega⟩
        refine va_sld hx hb hX hbl hbA hS hin d4 ?_
        have ec : (x3 + Int32.ofInt kk).toNatClampNeg = i + kk.toNat := by
          show (x3 + Int32.ofInt kk).toInt.toNat = _
          omega
        rw [ec]
        exact fin kk.toNat rfl
      · cases hscr
    · cases hscr
  · cases hscr
/-- one round of the law's loop -/
def yIter (l : Launch) : Prop := ∀ (Y : yNx) (i : Int) (sc : Nat → Int) (g : yM), (∀ CS : List yC, (∀ cn ∈ CS, yMet l zpTs zpcl zpZ zpRO zpMT cn) → yCl zpDL (zpZ, zpRS, zpPL, zpMT, CS, (2048, 84000), 9) (fun _ _ => False) Y) → (∀ rs : List (Nat × Nat × Nat), (∀ q ∈ rs, zscr code q.1 = some q.2) → yClS rs (yL0 i) sc Y) → yKnv g → (∀ g' : yM, yKnv g' → Y 1484 (yL0 i) [] g') → Y 27 (yL0 i) [] g
theorem ylaw_loop (C0 : lw_At p s m meth c b L xs) (hK : va_K D zpcl tys s) (hro : zpRO ad A s s.heap) (had : ad 3000 = b) (hbA : ¬ A b) (hA : ∀ q, A q → s.heap.size ≤ q) (hL : L ≤ 384) (hcs : ce ≤ 600000 ∧ sl ≤ 7302250) (hIt : yIter l) : ∀ (n i : Nat) (g : yM), 390 - i = n → i ≤ 390 → yKnv g → yWl p l e s m below meth c b D tys A ad (lw_Z below #[Value.ref b] s) ce sl 18 (yL0 i) [] g := by
  intro n
  induction n using Nat.strongRecOn with
  | ind n ih =>
    intro i g hn i390 hI ls stc ws H locs hG
    obtain ⟨hP, hD, hS, hM, hLl, hT⟩ := id hG
    have hstc : stc = [] := by
      match stc, hT with
      | [], _ => rfl
    subst hstc
    obtain ⟨hx, hb, hr, hml, hown, hts0, hX, hbl, hlocks, -⟩ := id C0
    obtain ⟨v0, g0, hv0⟩ := hLl.2.2.2 0 (3, 3000) rfl (by decide)
    have e0 : v0 = .ref (ad 3000) := yvR' hv0 (Or.inl rfl)
    rw [had] at e0
    subst e0
    obtain ⟨v3, g3, hv3⟩ := hLl.2.2.2 3 (1, (i : Int)) rfl (show (1 : Nat) ≠ 0 by decide)
    obtain ⟨x3, rfl, hx3⟩ := yvI' hv3
    have hx3 : x3.toInt = (i : Int) := hx3
    have hL3 : (Int32.ofNat L).toInt = (L : Int) := Int32.toInt_ofNat_of_lt (by omega)
    have e6 : (Int8.ofInt 6).toInt32.toInt = 6 := by decide
    have es : (Int32.ofNat L - (Int8.ofInt 6).toInt32).toInt = (L : Int) - 6 := by
      rw [Int32.toInt_sub, hL3, e6, Int.bmod_eq_of_le (by omega) (by omega)]
    have d18 : decode code 18 = .ok (.iload_n 3, 1) := by decide +kernel
    have d19 : decode code 19 = .ok (.aload_n 0, 1) := by decide +kernel
    have d20 : decode code 20 = .ok (.arraylength, 1) := by decide +kernel
    have d21 : decode code 21 = .ok (.bipush 6, 2) := by decide +kernel
    have d23 : decode code 23 = .ok (.isub, 1) := by decide +kernel
    have d24 : decode code 24 = .ok (.if_icmp .gt 1466, 3) := by decide +kernel
    have dR0 : decode code 1490 = .ok (.iconst 1, 1) := by decide +kernel
    have dR1 : decode code 1491 = .ok (.ireturn, 1) := by decide +kernel
    show W p l e room_1 s m #[Value.ref b] below meth c H locs ce sl _ (F0 m 18 ls [])
    refine lv_iload_n hx hb d18 rfl g3 ?_
    refine lv_aload_n hx hb d19 rfl g0 ?_
    refine va_slen hx hb hX hbl hbA hS d20 ?_
    refine lv_bipush hx hb d21 rfl ?_
    refine lv_isub hx hb d23 ?_
    refine lv_icmp_gt hx hb d24 (tgt := 1490) (by decide) (fun _ => ?_) (fun hgt => ?_)
    · refine lv_iconst hx hb dR0 rfl ?_
      refine va_forget (fun q hq => hA _ (hS.2.2 q hq)) ?_
      exact W.widen hcs.1 hcs.2 (lw_ret hx hb hr hlocks dR1)
    · have hi5 : i + 5 < L := by
        have h1 : ¬ (Int32.ofNat L - (Int8.ofInt 6).toInt32).toInt < x3.toInt := fun h => hgt (Int32.lt_iff_toInt_lt.mpr h)
        omega
      have hcs' : ce ≤ room_1.cells ∧ sl ≤ room_1.slots := hcs
      refine hIt (yWl p l e s m below meth c b D tys A ad (lw_Z below #[Value.ref b] s) ce sl) i (fun k => (xs (i + k)).toInt) g (ylawC C0 hK hro hcs') (ylawS C0 had hbA hL hi5) hI (fun g' hI' => ?_) ls [] ws H locs hG
      refine yrunL_ok (sp := fun pc => Nat.beq pc 18) (ylawC C0 hK hro hcs' [] ymets_nil) (ylawS C0 had hbA hL hi5 [] (fun q hq => by cases hq)) 3 1484 _ [] g' ?_
      show yWl p l e s m below meth c b D tys A ad (lw_Z below #[Value.ref b] s) ce sl 18 [(3, 3000), (3, 0), (3, 90), (1, yw ((i : Int) + 6))] [] g'
      rw [yw_s _ (by omega) (by omega)]
      exact ih (390 - (i + 6)) (by omega) (i + 6) g' rfl (by omega) hI'
end YLW
