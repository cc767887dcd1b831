/-! A LINE OF A TEXT: its late store -/
theorem zW_num {Z : zZ} {ci : Nat} {ad : Nat → Nat} {gh : Nat → Int} {tys : List (ClassId × FieldType)} {ws : va_W} {q k : Nat} {cA cB : ClassId} {f g : Nat → Int32} {y : Int32} (hT : zTxB Z ci = true) (hW : zW Z ad gh tys ws) (hq : q = 10 ∨ q = 11) (w1 : ws[q + 21]? = some (ad (q + 21), .inl (cA, 61, .inl f))) (w3 : ws[q + 23]? = some (ad (q + 23), .inl (cB, 61, .inl g))) (hk : zTI (f k) y) : zW Z ad gh tys (ws.set (q + 23) (ad (q + 23), .inl (cB, 61, .inl (upd g k y)))) := by
  have l3 := (List.getElem?_eq_some_iff.mp w3).1
  obtain ⟨hT1, hT2, hT3, hT4⟩ := zTxB_ok hT
  have hs : (ws.set (q + 23) (ad (q + 23), .inl (cB, 61, .inl (upd g k y))))[q + 23]? = some (ad (q + 23), .inl (cB, 61, .inl (upd g k y))) := List.getElem?_set_self l3
  intro e he q2 g1 g2
  have hc := hW e he q2 g1 g2
  rcases hT1 e he with rfl | rfl | rfl | ⟨h3, h4, h5⟩
  · obtain ⟨fs2, c2, c3, c4⟩ := hc
    exact ⟨fs2, by rw [List.getElem?_set_ne (by simp only at g1 g2; omega)]; exact c2, c3, c4⟩
  · obtain ⟨dA, dB, f2, g2', w1', w2, w3', w4, w5⟩ := hc
    have w3' : ws[q2 + 2]? = some (ad (q2 + 2), .inl (dB, 61, .inl g2')) := w3'
    by_cases hqq : q2 = q + 21
    · subst hqq
      rw [w1] at w1'
      cases w1'
      have w3' : ws[q + 23]? = some (ad (q + 23), .inl (dB, 61, .inl g2')) := w3'
      rw [w3] at w3'
      cases w3'
      refine ⟨cA, cB, f, upd g k y, by rw [List.getElem?_set_ne (by omega)]; exact w1, w2, hs, fun j hj => ?_, w5⟩
      by_cases hjx : j = k
      · subst hjx
        simp only [upd, if_true]
        exact hk
      · simp only [upd, if_neg hjx]
        exact w4 j hj
    · refine ⟨dA, dB, f2, g2', by rw [List.getElem?_set_ne (by simp only at g1 g2; omega)]; exact w1', w2, ?_, w4, w5⟩
      show (ws.set (q + 23) (ad (q + 23), .inl (cB, 61, .inl (upd g k y))))[q2 + 2]? = some (ad (q2 + 2), .inl (dB, 61, .inl g2'))
      rw [List.getElem?_set_ne (by omega)]
      exact w3'
  · obtain ⟨dA, f2, w1', w2⟩ := hc
    by_cases hqq : q2 = q + 23
    · subst hqq
      rw [w3] at w1'
      cases w1'
      exact ⟨cB, _, hs, w2⟩
    · exact ⟨dA, f2, by rw [List.getElem?_set_ne (Ne.symm hqq)]; exact w1', w2⟩
  · exact zcell_gh (fun _ _ _ => rfl) h3 (List.getElem?_set_ne (by omega)) hc
/-- a text's cells -/
theorem zTx_get {Z : zZ} {ci : Nat} {ad : Nat → Nat} {gh : Nat → Int} {tys : List (ClassId × FieldType)} {ws : va_W} {q : Nat} (hT : zTxB Z ci = true) (hW : zW Z ad gh tys ws) (hq : q = 10 ∨ q = 11) : ∃ (fs : List Value) (x : Int32) (cA cB : ClassId) (f g : Nat → Int32), ws[q]? = some (ad q, .inr (ci, fs)) ∧ fs[1]? = some (.ref (ad (q + 21))) ∧ fs[2]? = some (.ref (ad (q + 23))) ∧ fs[4]? = some (.int x) ∧ (0 ≤ x.toInt ∧ x.toInt ≤ 61) ∧ ((q : Int) = gh 3 → gh 2 < x.toInt) ∧
    ws[q + 21]? = some (ad (q + 21), .inl (cA, 61, .inl f)) ∧ tys[0]? = some (cA, .int) ∧ ws[q + 23]? = some (ad (q + 23), .inl (cB, 61, .inl g)) ∧ tys[0]? = some (cB, .int) ∧ (∀ j : Nat, j < 61 → zTI (f j) (g j)) ∧ (((q + 21 : Nat) : Int) = gh 3 + 21 → 0 ≤ gh 2 → gh 2 < 61 ∧ (f (gh 2).toNat).toInt = 63) := by
  obtain ⟨-, hT2, hT3, hT4⟩ := zTxB_ok hT
  obtain ⟨fs, c1, c2, c3⟩ := hW _ hT2 q (by simp only; omega) (by simp only; omega)
  obtain ⟨cA, cB, f, g, y1, y2, y3, y4, y5⟩ := hW _ hT3 (q + 21) (by simp only; omega) (by simp only; omega)
  obtain ⟨cC, g', u1, u2⟩ := hW _ hT4 (q + 23) (by simp only; omega) (by simp only; omega)
  have y3 : ws[q + 23]? = some (ad (q + 23), .inl (cB, 61, .inl g)) := y3
  rw [y3] at u1
  have hcc : cC = cB := by
    injection u1 with u1
    injection u1 with _ u1
    injection u1 with u1
    injection u1 with u1 _
    exact u1.symm
  rw [hcc] at u2
  have l5 : fs.length = 5 := c2
  have vS : fs[1]? = some (.ref (ad (q + 21))) := by
    have h1 := List.getElem?_eq_getElem (show 1 < fs.length by omega)
    have h2 : fs[1] = .ref (ad (q + (21 : Int).toNat)) := c3 1 (4, 21, 0) _ rfl h1
    rw [h1, h2]
    rfl
  have vN : fs[2]? = some (.ref (ad (q + 23))) := by
    have h1 := List.getElem?_eq_getElem (show 2 < fs.length by omega)
    have h2 : fs[2] = .ref (ad (q + (23 : Int).toNat)) := c3 2 (4, 23, 0) _ rfl h1
    rw [h1, h2]
    rfl
  obtain ⟨x, vx, x1, x9⟩ : ∃ x : Int32, fs[4]? = some (.int x) ∧ (0 ≤ x.toInt ∧ x.toInt ≤ 61) ∧ ((q : Int) = gh 3 → gh 2 < x.toInt) := by
    have h1 := List.getElem?_eq_getElem (show 4 < fs.length by omega)
    obtain ⟨x, h2, h3, h4⟩ := c3 4 (8, 0, 61) _ rfl h1
    exact ⟨x, by rw [h1, h2], h3, h4⟩
  exact ⟨fs, x, cA, cB, f, g, c1, vS, vN, vx, x1, x9, y1, y2, y3, u2, y4, y5⟩
def zlE : List zIv := [[(0, 0)], [(0, 40)], [(-1, -1)], [(10, 10)], [(10, 11)]]
def zaE : List zIv := [[(0, 0)], [(0, 40)], [(-1, 60)], [(10, 11)], [(10, 11)]]
/-- the stop before the jump is made, the way on where the text is full, the way on where it is watched -/
def zl30 : Nat × zTm × zRk := (30, ([(0, 1, 0, 0)], (zlE ++ [[(0, 61)]], [], [(3, 4, 0, 0, 0), (1, 5, 0, 0, 0)], [], [(4, 0, 4, (1, 5, 0, 0, 0))], [])), [])
def zl61 : zS := (zlE ++ [[(61, 61)]], [], [(3, 4, 0, 0, 0), (1, 5, 0, 0, 0)], [], [], [])
def zl37 : zS := ([[(0, 0)], [(0, 40)], [(0, 60)], [(10, 11)]], [], [(3, 3, 0, 0, 0), (1, 2, 0, 0, 0)], [], [], [])
def zlineD (cc : ByteArray) (iA iT iN : Nat) : Prop := decode cc 30 = .ok (.aload_n 0, 1) ∧ decode cc 31 = .ok (.bipush 63, 2) ∧ decode cc 33 = .ok (.iconst 0, 1) ∧ decode cc 34 = .ok (.invokevirtual iA, 3) ∧ decode cc 55 = .ok (.aload_n 0, 1) ∧ decode cc 56 = .ok (.getfield iN, 3) ∧ decode cc 59 = .ok (.iload_n 1, 1) ∧ decode cc 60 = .ok (.aload_n 0, 1) ∧ decode cc 61 = .ok (.getfield iT, 3) ∧ decode cc 64 = .ok (.iastore, 1) ∧ decode cc 65 = .ok (.return_, 1)
theorem zUn_num {wr : zWr} {ws0 ws : va_W} {q : Nat} {x : Nat × _} (hq : q = 10 ∨ q = 11) (h3 : (33, 34, 0, 0) ∈ wr) (h : zUn wr ws0 ws) : zUn wr ws0 (ws.set (q + 23) x) := by
  intro q2 j hn
  rw [← h q2 j hn]
  by_cases e2 : q2 = q + 23
  · exact absurd ⟨by subst e2; show (33 : Int) ≤ ((q + 23 : Nat) : Int); omega, by subst e2; show ((q + 23 : Nat) : Int) ≤ 34; omega, Or.inl rfl⟩ (hn _ h3)
  · exact zfv_ne (List.getElem?_set_ne (Ne.symm e2)) j
theorem zline_met {l : Launch} {Ts : List Cond} {cl : List vw_C} {Z : zZ} {RO : zRO} {RS : List (List Int)} {MT : zMT} {CS : List zC} {C K : zC} {P : zPool} {ci iA iT iN n n6 : Nat} {rm rm6 : Nat × Nat} {srcs srcs6 : List zSrc} {wr wr6 : zWr} {kN : Nat} (hTg : ∀ w ∈ Ts, goodWord w = true) (hR : zROk RO) (hZ : zDj Z) (hRS : zRowT RO RS) (hPk : zPok Ts cl RO MT (MT C.1).1.cls P) (hCS : ∀ C ∈ CS, zMet l Ts cl Z RO (zKof MT C)) (hret : (MT C.1).2.2.2 = none) (hmx : (MT C.1).2.2.1 = 2) (hy : plainName (MT C.1).1.cls = true)
    (hroom : P.2.2.2.1.all (fun q => !(q.2.1 == 3) || (decide (20 ≤ C.2.1.1) && decide (1000 ≤ C.2.1.2))) = true) (hT : zTxB Z ci = true) (hG4 : Z.2.2 = 4) (hdc : zlineD (MT C.1).2.1 iA iT iN) (p1 : (iT, ci, 4, 0) ∈ P.1) (p3 : (iN, ci, 2, kN) ∈ P.1) (p4 : (iA, 0, n6, 2, ci) ∈ P.2.2.2.1)
    (hC : C = (n, rm, (srcs, (zlE, [], [(3, 4, 0, 0, 0), (0, 0, 0, 0, 0)], [], [], [])), [([], (zlE, [], [], [], [], []))], wr)) (hK6 : K = (n6, rm6, (srcs6, (zaE, [], [(3, 4, 0, 0, 0), (1, 0, 63, 0, 0), (1, 0, 0, 0, 0)], [], [], [])), [([], (zaE, [], [], [], [], []))], wr6)) (hmx6 : (MT n6).2.2.1 = 3) (hrm : rm6.1 + 1 ≤ rm.1 ∧ 8 + (3 + 11) + rm6.2 ≤ rm.2) (hwr : zwrB wr wr6 = true) (w3 : (33, 34, 0, 0) ∈ wr) (hadd : zMetG l Ts cl Z RO (zKof MT K) (zφadd ci 4 0 True))
    (r1 : zrun Z RS P MT CS (5, C.2.2.2.1, wr, rm, 0) (MT C.1).2.1 [zl30] [] none 3000 0 C.2.2.1.2 = true) (r2 : zrun Z RS P MT CS (5, C.2.2.2.1, wr, rm, 0) (MT C.1).2.1 [] [] none 3000 30 zl61 = true) (r3 : zrun Z RS P MT CS (4, [], wr, rm, 0) (MT C.1).2.1 [(55, ([], zl37), [])] [] none 3000 37 zl37 = true) : zMet l Ts cl Z RO (zKof MT C) := by
  subst hC
  subst hK6
  refine zmet_of (rc := 0) hTg hR hZ hRS hPk hCS ⟨fun _ => hret, fun h => (by cases h), fun h => (by cases h), fun h => (by cases h)⟩ hy hroom ?_
  intro p e R s m args below meth c D tys A ad gh ws0 nuE Q hgh hQ hrt X
  subst hQ
  obtain ⟨⟨hx, hb, h0, hml, hH0, hown⟩, ⟨hts, -, hK, -, hro, -, hlocks⟩, ⟨hP0, hrmR⟩, ⟨hFl, hFp, -, -, hML⟩, -, -, -, -, -, hcs, -⟩ := id X
  obtain ⟨d30, d31, d33, d34, d55, d56, d59, d60, d61, d64, d65⟩ := hdc
  refine zrun_ok X hgh ⟨[], by rw [List.append_nil]⟩ (ro := none) (fun r hr => by cases hr) (fun a ha nu' hE _ ls st ws H locs hG => ?_) 3000 0 _ r1
  rw [List.mem_singleton] at ha
  subst ha
  obtain ⟨u, rfl⟩ := hE
  obtain ⟨hH, hN, hL, hS, hF, hM⟩ := id hG
  have hst : st = [] := List.length_eq_zero_iff.mp hS.len.symm
  subst hst
  have hnl : nuE.length = 5 := hP0.symm
  have hul : u.length = 1 := by
    have := hN.1.1
    rw [List.length_append, hnl] at this
    have h2 : zl30.2.1.2.1.length = 6 := rfl
    omega
  obtain ⟨k0, rfl⟩ : ∃ k0, u = [k0] := List.length_eq_one_iff.mp hul
  obtain ⟨v0, g0, q, rfl, hq⟩ := hL.2.2.2 0 (3, 4, 0, 0, 0) rfl (by simp)
  obtain ⟨v1, g1, k, rfl, hk⟩ := hL.2.2.2 1 (1, 5, 0, 0, 0) rfl (by simp)
  have bq := hq.bd hN.1
  have bk := hk.bd hN.1
  have hqq : q = 10 ∨ q = 11 := by
    have e1 : zlo zl30.2.1.2.1 4 = 10 := by decide
    have e2 : zhi zl30.2.1.2.1 4 = 11 := by decide
    simp only [e1, e2] at bq
    omega
  have bk' : 0 ≤ k.toInt ∧ k.toInt ≤ 61 := by
    have e1 : zlo zl30.2.1.2.1 5 = 0 := by decide
    have e2 : zhi zl30.2.1.2.1 5 = 61 := by decide
    simp only [e1, e2] at bk
    omega
  by_cases h61 : k.toInt = 61
  · refine zrun_ok X hgh ⟨[], by rw [List.append_nil]⟩ (ro := none) (fun r hr => by cases hr) (fun a ha => by cases ha) 3000 30 _ r2 (nuE ++ [k0]) ls [] ws H locs ⟨hH, ⟨?_, hN.2.1, hN.2.2.1, ⟨[k0], rfl⟩⟩, hL, trivial, (fun f hf => by cases hf), hM⟩
    have hk0 : k0 = 61 := by
      obtain ⟨u0, hu0, hu1⟩ := hk
      rw [List.getElem?_append_right (by omega), hnl] at hu0
      cases hu0
      omega
    obtain ⟨hE1, hE2⟩ := hN.1
    refine ⟨hE1, fun i iv hiv => ?_⟩
    by_cases hi : i = 5
    · subst hi
      cases hiv
      exact ⟨k0, by rw [List.getElem?_append_right (by omega), hnl]; rfl, (61, 61), List.mem_cons_self, by simp only; omega, by simp only; omega⟩
    · refine hE2 i iv ?_
      rw [← hiv]
      match i, hi with
      | 0, _ => rfl
      | 1, _ => rfl
      | 2, _ => rfl
      | 3, _ => rfl
      | 4, _ => rfl
      | 5, h => exact absurd rfl h
      | n + 6, _ => rfl
  · -- watched
    obtain ⟨fs, x, cA, cB, f, g, c1, vS, vN, vx, x1, x9, y1, y2, y3, y4, y5, y6⟩ := zTx_get hT hH.2.2.2.1 hqq
    have hkx : k = x := by
      obtain ⟨q', v', f1, f2, k', f3, f4⟩ := hF (4, 0, 4, (1, 5, 0, 0, 0)) List.mem_cons_self
      have eq' : q' = q := by have := f1.eq hq; omega
      subst eq'
      have ek : k' = k := Int32.toInt_inj.mp (f4.eq hk)
      subst ek
      have f2 : zfv ws q' 4 = some v' := f2
      unfold zfv at f2
      rw [c1] at f2
      have f2 : fs[4]? = some v' := f2
      rw [vx, f3] at f2
      cases f2
      rfl
    subst hkx
    have hG0 : ∀ g, g < 4 → nuE[g]? = some (gh g) := fun g hg => hgh g (by omega)
    have hq4 : nuE[4]? = some (q : Int) := by
      obtain ⟨u0, hu0, hu1⟩ := hq
      rw [List.getElem?_append_left (by omega)] at hu0
      rw [hu0]
      congr 1
      omega
    obtain ⟨l1, T6, N6, hcl⟩ := (hML _ p4).1 rfl (n6, rm6, (srcs6, (zaE, [], [(3, 4, 0, 0, 0), (1, 0, 63, 0, 0), (1, 0, 0, 0, 0)], [], [], [])), [([], (zaE, [], [], [], [], []))], wr6) rfl
    have hE5 := hN.1
    have hbnd : ∀ i, i < 5 → ∃ z, nuE[i]? = some z ∧ zInIv z (zlE.getD i []) := fun i hi => by
      obtain ⟨z, h1, h2⟩ := hE5.2 i (zlE.getD i []) (by
        match i, hi with
        | 0, _ => rfl
        | 1, _ => rfl
        | 2, _ => rfl
        | 3, _ => rfl
        | 4, _ => rfl)
      rw [List.getElem?_append_left (by omega)] at h1
      exact ⟨z, h1, h2⟩
    have hEa : zEnv zaE nuE := by
      refine ⟨hnl, fun i iv hiv => ?_⟩
      have hi : i < 5 := (List.getElem?_eq_some_iff.mp hiv).1
      obtain ⟨z, h1, p0, h2, h3, h4⟩ := hbnd i hi
      refine ⟨z, h1, ?_⟩
      match i, hi with
      | 0, _ => cases hiv; exact ⟨p0, h2, h3, h4⟩
      | 1, _ => cases hiv; exact ⟨p0, h2, h3, h4⟩
      | 2, _ => cases hiv; cases List.mem_singleton.mp h2; exact ⟨_, List.mem_cons_self, by simp only at *; omega, by simp only at *; omega⟩
      | 3, _ => cases hiv; cases List.mem_singleton.mp h2; exact ⟨_, List.mem_cons_self, by simp only at *; omega, by simp only at *; omega⟩
      | 4, _ => cases hiv; exact ⟨p0, h2, h3, h4⟩
    have hg2 : gh 2 = -1 := by
      obtain ⟨z, h1, p0, h2, h3, h4⟩ := hbnd 2 (by omega)
      rw [hG0 2 (by omega)] at h1
      cases h1
      cases List.mem_singleton.mp h2
      simp only at h3 h4
      omega
    have hgh0 : nuE[0]? = some 0 := by rw [hG0 0 (by omega), h0.2]
    have e63 : ((Int8.ofInt 63).toInt32).toInt = 63 := by decide
    have hAs : zall (zm ad nuE) [(3, 4, 0, 0, 0), (1, 0, 63, 0, 0), (1, 0, 0, 0, 0)] [.ref (ad q), .int (Int8.ofInt 63).toInt32, .int (Int32.ofInt 0)] := ⟨⟨q, rfl, q, hq4, by omega⟩, ⟨_, rfl, 0, hgh0, by rw [e63]; rfl⟩, ⟨_, rfl, 0, hgh0, by rfl⟩, trivial⟩
    have hEnt : zEnt Z ad gh tys (zKof MT (n6, rm6, (srcs6, (zaE, [], [(3, 4, 0, 0, 0), (1, 0, 63, 0, 0), (1, 0, 0, 0, 0)], [], [], [])), [([], (zaE, [], [], [], [], []))], wr6)) ws nuE [.ref (ad q), .int (Int8.ofInt 63).toInt32, .int (Int32.ofInt 0)] := by
      refine ⟨hH.2.2.2.1, hEa, (fun q hq => by cases hq), hgh, ?_, rfl, (fun f hf => by cases hf), rfl⟩
      have := zlayP_ok (n := 3) hAs (by decide) (by decide)
      show zL ad nuE (MT n6).2.2.1 (zels _ (MT n6).2.2.1) _
      rw [hmx6]
      exact this
    have hφ : zφadd ci 4 0 True ad gh (fun i => if i = 2 then k.toInt else if i = 3 then (q : Int) else gh i) ws nuE := by
      refine Or.inr ⟨fun n h2 h3 => by simp only [if_neg h2, if_neg h3], trivial, q, fs, k, ⟨q, hq4, by omega⟩, c1, vx, by omega, rfl, rfl⟩
    have hMet := hadd D tys A ad gh (fun i => if i = 2 then k.toInt else if i = 3 then (q : Int) else gh i) ws nuE _ h0 hEnt hH.2.1 hφ
    refine lv_aload_n hx hb d30 rfl g0 ?_
    refine lv_bipush hx hb d31 rfl ?_
    refine lv_iconst hx hb d33 rfl ?_
    refine zr_callV (As := [.int (Int8.ofInt 63).toInt32, .int (Int32.ofInt 0)]) (restc := []) (n := 2) hx hb hcs (hml.trans hmx) hH0 hown hts hTg hK hR hro (hL.1.trans hmx) hH.1 hH.2.2.1 c1 hcl rfl hMet d34 l1 ⟨Nat.le_trans hrm.1 hrmR.1, ?_⟩ (by decide) (fun alt v ws1 H1 locs1 halt q1 q2 q3 q4 q5 q6 => ?_)
    · show 8 + ((MT n6).2.2.1 + 11) + rm6.2 ≤ R.locals
      rw [hmx6]
      exact Nat.le_trans hrm.2 hrmR.2
    · have halt : alt = ([], (zaE, [], [], [], [], [])) := List.mem_singleton.mp halt
      subst halt
      obtain ⟨t, -, -, z3, -⟩ := q6
      have hv : v = none := by
        cases v with
        | none => rfl
        | some v => exact z3.elim
      subst hv
      have hU1 : zUn wr ws0 ws1 := fun q j hn => by rw [q5 q j (zwrB_ok hwr hn)]; exact hH.2.2.2.2 q j hn
      have X' := X.re (fun i => if i = 2 then k.toInt else if i = 3 then (q : Int) else gh i) ws0 [gh 0, gh 1, k.toInt, (q : Int)] wr 0 h0.2
      have hGE' : ∀ g, g < Z.2.2 → ([gh 0, gh 1, k.toInt, (q : Int)] : List Int)[g]? = some ((fun i => if i = 2 then k.toInt else if i = 3 then (q : Int) else gh i) g) := fun g hg => by
        rw [hG4] at hg
        match g, hg with
        | 0, _ => rfl
        | 1, _ => rfl
        | 2, _ => rfl
        | 3, _ => rfl
      have hsz : 61 ≠ k.toInt := fun h => h61 h.symm
      refine zrun_ok X' hGE' ⟨[], by rw [List.append_nil]⟩ (ro := none) (fun r hr => by cases hr) (fun a ha nu2 hE2 _ ls2 st2 ws2 H2 locs2 hG2 => ?_) 3000 37 _ r3 [gh 0, gh 1, k.toInt, (q : Int)] ls [] ws1 H1 locs1 ⟨⟨q1, q2, q3, q4, hU1⟩, ⟨⟨rfl, fun i iv hiv => ?_⟩, (fun q hq => by cases hq), hGE', ⟨[], rfl⟩⟩, ⟨hL.1, hmx.symm, hL.2.2.1, fun i a hi ha => ?_⟩, trivial, (fun f hf => by cases hf), (fun q hq => by cases hq)⟩
      · -- the store
        rw [List.mem_singleton] at ha
        subst ha
        obtain ⟨u2, rfl⟩ := hE2
        obtain ⟨hH2, hN2, hL2, hS2, -, -⟩ := hG2
        have hst2 : st2 = [] := List.length_eq_zero_iff.mp hS2.len.symm
        subst hst2
        obtain ⟨v0', g0', q', rfl, hq'⟩ := hL2.2.2.2 0 (3, 3, 0, 0, 0) rfl (by simp)
        obtain ⟨v1', g1', k', rfl, hk'⟩ := hL2.2.2.2 1 (1, 2, 0, 0, 0) rfl (by simp)
        have eq' : q' = q := by
          have := hq'.eq (z' := (q : Int)) ⟨(q : Int), rfl, by omega⟩
          omega
        subst eq'
        have ek : k' = k := Int32.toInt_inj.mp (hk'.eq ⟨k.toInt, rfl, by omega⟩)
        subst ek
        obtain ⟨fs', x', cA', cB', f', g', c1', vS', vN', vx', x1', x9', y1', y2', y3', y4', y5', y6'⟩ := zTx_get hT hH2.2.2.2.1 hqq
        have hin : vp_in k' 61 := vp_in_iff.mpr ⟨by omega, by omega⟩
        have hf63 := (y6' (by show ((q' + 21 : Nat) : Int) = (q' : Int) + 21; omega) (by show 0 ≤ k'.toInt; omega)).2
        have hf63 : (f' k'.toInt.toNat).toInt = 63 := hf63
        refine lv_aload_n hx hb d55 rfl g0' ?_
        refine zr_get hx hb hown hK (hFl _ p3) hH2.1 c1' vN' d56 ?_
        refine lv_iload_n hx hb d59 rfl g1' ?_
        refine lv_aload_n hx hb d60 rfl g0' ?_
        refine zr_get hx hb hown hK (hFl _ p1) hH2.1 c1' vx' d61 ?_
        refine va_iast hx hb hK hH2.1 hH2.2.1 hH2.2.2.1 (q' + 23) 0 y3' y4' hin d64 (fun H3 locs3 z1 z2 z3 => ?_)
        have hW3 := zW_num (k := k'.toNatClampNeg) (y := x') hT hH2.2.2.2.1 hqq y1' y3' ⟨fun h => by rw [show k'.toNatClampNeg = k'.toInt.toNat from rfl] at h; omega, fun _ => x1'.1⟩
        have hW4 : zW Z ad gh tys _ := zW_off hT (gh' := gh) (fun n h2 h3 => by simp only [if_neg h2, if_neg h3]) hg2 hW3
        exact zr_vret hx hb hlocks (hrt.trans hret) (by rw [hH0] at z3; exact z3) z1 z2 hW4 (zUn_num hqq w3 hH2.2.2.2.2) List.mem_cons_self ⟨[], (by rw [List.append_nil]; exact ⟨hnl, fun i iv hiv => by
          have hi : i < 5 := (List.getElem?_eq_some_iff.mp hiv).1
          obtain ⟨z, h1, h2⟩ := hbnd i hi
          refine ⟨z, h1, ?_⟩
          have : zlE.getD i [] = iv := by rw [List.getD_eq_getElem?_getD]; exact congrArg (fun o => o.getD []) hiv
          rw [← this]
          exact h2⟩), (fun q hq => by cases hq), trivial, (fun q hq => by cases hq)⟩ d65
      · match i, hiv with
        | 0, hiv =>
          cases hiv
          exact ⟨gh 0, rfl, (0, 0), List.mem_cons_self, by simp only [h0.2]; omega, by simp only [h0.2]; omega⟩
        | 1, hiv =>
          cases hiv
          obtain ⟨z, h1, h2⟩ := hbnd 1 (by omega)
          rw [hG0 1 (by omega)] at h1
          cases h1
          exact ⟨gh 1, rfl, h2⟩
        | 2, hiv =>
          cases hiv
          exact ⟨k.toInt, rfl, (0, 60), List.mem_cons_self, by simp only; omega, by simp only; omega⟩
        | 3, hiv =>
          cases hiv
          exact ⟨(q : Int), rfl, (10, 11), List.mem_cons_self, by simp only; omega, by simp only; omega⟩
        | n + 4, hiv => cases hiv
      · match i, hi with
        | 0, hi =>
          cases hi
          exact ⟨_, g0, q, rfl, (q : Int), rfl, by omega⟩
        | 1, hi =>
          cases hi
          exact ⟨_, g1, k, rfl, k.toInt, rfl, by omega⟩
        | n + 2, hi => cases hi
