/-! ONE MORE COMER IS LET IN; a call of it -/
def zadE : List zIv := [[(0, 0)], [(0, 39)], [(-1, 60)], [(10, 11)], [(0, 5)]]
def zadX : List zIv := [[(0, 0)], [(0, 40)], [(-1, 60)], [(10, 11)], [(0, 5)]]
def zad0 (jm : Nat) : zS := (zadE, [], [(3, 0, 1, 0, 0)], [], [(1, 50, jm, (1, 4, 0, 0, 0))], [])
def zad49 : zS := ([[(0, 0)], [(1, 40)], [(-1, 60)], [(10, 11)], [(0, 5)]], [], [(3, 0, 1, 0, 0)], [], [], [])
def zadmD (cc : ByteArray) (iZ : Nat) : Prop := decode cc 39 = .ok (.aload_n 0, 1) ∧ decode cc 40 = .ok (.dup, 1) ∧ decode cc 41 = .ok (.getfield iZ, 3) ∧ decode cc 44 = .ok (.iconst 1, 1) ∧ decode cc 45 = .ok (.iadd, 1) ∧ decode cc 46 = .ok (.putfield iZ, 3)
theorem zUn_fld {wr : zWr} {ws0 ws : va_W} {q a ci j0 : Nat} {fs : List Value} {v : Value} (hq : ((q : Int), (q : Int), 1, j0) ∈ wr) (c1 : ws[q]? = some (a, .inr (ci, fs))) (h : zUn wr ws0 ws) : zUn wr ws0 (ws.set q (a, .inr (ci, fs.set j0 v))) := by
  intro q2 j hn
  rw [← h q2 j hn]
  by_cases e : q2 = q
  · subst e
    by_cases hj : j = j0
    · subst hj
      exact absurd ⟨Int.le_refl _, Int.le_refl _, Or.inr rfl⟩ (hn _ hq)
    · unfold zfv
      rw [List.getElem?_set_self (List.getElem?_eq_some_iff.mp c1).1, c1]
      exact List.getElem?_set_ne (Ne.symm hj)
  · exact zfv_ne (List.getElem?_set_ne (Ne.symm e)) j
theorem zenv5 {a b c d e : Int} {A B C D E : zIv} (h1 : zInIv a A) (h2 : zInIv b B) (h3 : zInIv c C) (h4 : zInIv d D) (h5 : zInIv e E) : zEnv [A, B, C, D, E] [a, b, c, d, e] := by
  refine ⟨rfl, fun i iv hiv => ?_⟩
  match i, hiv with
  | 0, hiv => cases hiv; exact ⟨a, rfl, h1⟩
  | 1, hiv => cases hiv; exact ⟨b, rfl, h2⟩
  | 2, hiv => cases hiv; exact ⟨c, rfl, h3⟩
  | 3, hiv => cases hiv; exact ⟨d, rfl, h4⟩
  | 4, hiv => cases hiv; exact ⟨e, rfl, h5⟩
  | n + 5, hiv => cases hiv
theorem zin1 {x a b : Int} (h1 : a ≤ x) (h2 : x ≤ b) : zInIv x [(a, b)] := ⟨(a, b), List.mem_cons_self, h1, h2⟩
theorem zin1' {x a b : Int} (h : zInIv x [(a, b)]) : a ≤ x ∧ x ≤ b := by
  obtain ⟨p, hp, h1, h2⟩ := h
  cases List.mem_singleton.mp hp
  exact ⟨h1, h2⟩
theorem zat {env : List zIv} {nu : List Int} {i : Nat} {x a b : Int} (he : zEnv env nu) (h1 : env[i]? = some [(a, b)]) (h2 : nu[i]? = some x) : a ≤ x ∧ x ≤ b := by
  obtain ⟨z, h3, h4⟩ := he.2 i _ h1
  rw [h2] at h3
  cases h3
  exact zin1' h4
theorem zadm_met {l : Launch} {Ts : List Cond} {cl : List vw_C} {Z : zZ} {RO : zRO} {RS : List (List Int)} {MT : zMT} {CS : List zC} {C : zC} {P : zPool} {ciY xY jz jm iZ n : Nat} {ftY : List zFT} {rm : Nat × Nat} {wr : zWr} (hTg : ∀ w ∈ Ts, goodWord w = true) (hR : zROk RO) (hZ : zDj Z) (hRS : zRowT RO RS) (hPk : zPok Ts cl RO MT (MT C.1).1.cls P) (hCS : ∀ C ∈ CS, zMet l Ts cl Z RO (zKof MT C)) (hret : (MT C.1).2.2.2 = none) (hmx : (MT C.1).2.2.1 = 1) (hy : plainName (MT C.1).1.cls = true)
    (hroom : P.2.2.2.1.all (fun q => !(q.2.1 == 3) || (decide (20 ≤ C.2.1.1) && decide (1000 ≤ C.2.1.2))) = true) (hG4 : Z.2.2 = 4) (hcb : Z.2.1 = 50) (hB : zszB Z 1 ciY jz jm = true) (h6 : ∀ e ∈ Z.1, e.2.2.1 = 6 → ∀ q, e.1 ≤ q → q ≤ e.2.1 → q + (e.2.2.2.2.2.headD (0, 0, 0)).1 ≠ 1) (hYZ : (1, 1, (0, ciY, xY, ftY)) ∈ Z.1) (hfz : ftY[jz]? = some (3, 1, 0)) (hdc : zadmD (MT C.1).2.1 iZ) (p1 : (iZ, ciY, jz, 0) ∈ P.1)
    (hC : C = (n, rm, ([], zad0 jm), [([], (zadX, [], [], [], [], []))], wr)) (w1 : (1, 1, 1, jz) ∈ wr)
    (r1 : zrun Z RS P MT CS (5, C.2.2.2.1, wr, rm, 0) (MT C.1).2.1 [(39, ([], zad0 jm), [])] [] none 3000 0 (zad0 jm) = true) (r2 : zrun Z RS P MT CS (5, C.2.2.2.1, wr, rm, 0) (MT C.1).2.1 [] [] none 3000 49 zad49 = true) : zMetE l Ts cl Z RO (zKof MT C) := by
  subst hC
  refine zmet_ofE (rc := 0) hTg hR hZ hRS hPk hCS ⟨fun _ => hret, fun h => (by cases h), fun h => (by cases h), fun h => (by cases h)⟩ hy hroom ?_
  intro p e R s m args below meth c D tys A ad gh ws0 nuE Q hgh hlen hX ls0 hG0
  have hlen : nuE.length = 5 := hlen
  have b1 : 0 ≤ gh 1 ∧ gh 1 ≤ 39 := zat (i := 1) hG0.2.1.1 rfl (hgh 1 (by omega))
  have b2 := zat (i := 2) (a := -1) (b := 60) hG0.2.1.1 rfl (hgh 2 (by omega))
  have b3 := zat (i := 3) (a := 10) (b := 11) hG0.2.1.1 rfl (hgh 3 (by omega))
  have X := hX gh nuE ⟨Int.le_refl _, by omega, fun _ _ => rfl⟩ hgh hlen
  obtain ⟨⟨hx, hb, h0, hml, hH0, hown⟩, ⟨hts, -, hK, -, hro, -, hlocks⟩, ⟨hP0, hrmR⟩, ⟨hFl, hFp, -, -, hML⟩, -⟩ := id X
  obtain ⟨d39, d40, d41, d44, d45, d46⟩ := hdc
  refine zrun_ok X hgh ⟨[], by rw [List.append_nil]⟩ (ro := none) (fun r hr => by cases hr) (fun a ha nu' hE _ ls st ws H locs hG => ?_) 3000 0 _ r1 nuE ls0 [] ws0 s.heap [] hG0
  rw [List.mem_singleton] at ha
  subst ha
  obtain ⟨hH, hN, hL, hS, hF, hM⟩ := id hG
  have hst : st = [] := List.length_eq_zero_iff.mp hS.len.symm
  subst hst
  obtain ⟨u, rfl⟩ := hE
  have hu : u = [] := by
    have h1 := hN.1.1
    have h2 : (zad0 jm).1.length = 5 := rfl
    rw [List.length_append, hlen] at h1
    exact List.length_eq_zero_iff.mp (by simp only [h2] at h1; omega)
  subst hu
  rw [List.append_nil] at hN hL hF
  obtain ⟨v0, g0, q, rfl, hq⟩ := hL.2.2.2 0 (3, 0, 1, 0, 0) rfl (by simp)
  have hq1 : q = 1 := by
    obtain ⟨z, h1, h2⟩ := hq
    rw [hgh 0 (by omega), h0.2] at h1
    cases h1
    omega
  subst hq1
  obtain ⟨fs, c1, c2, c3⟩ := hH.2.2.2.1 _ hYZ 1 (Nat.le_refl _) (Nat.le_refl _)
  have hjl : jz < fs.length := by rw [c2]; exact (List.getElem?_eq_some_iff.mp hfz).1
  obtain ⟨x, hxv, hx1⟩ : ∃ x : Int32, fs[jz]? = some (.int x) ∧ x.toInt = gh 1 := by
    have h1 := List.getElem?_eq_getElem hjl
    obtain ⟨x, h2, h3⟩ := c3 jz _ _ hfz h1
    exact ⟨x, by rw [h1, h2], h3⟩
  obtain ⟨qm, vm, f1, f2, v, rfl, f4⟩ := hF (1, 50, jm, (1, 4, 0, 0, 0)) List.mem_cons_self
  have f2 : zfv ws qm jm = some (.int v) := f2
  have hqm : (qm : Int) = Z.2.1 + gh 1 := by
    obtain ⟨z, h1, h2⟩ := f1
    have h1 : nuE[1]? = some z := h1
    rw [hgh 1 (by omega)] at h1
    cases h1
    rw [hcb]
    simp only at h2
    omega
  obtain ⟨z4, h4, h4'⟩ := f4
  have h4 : nuE[4]? = some z4 := h4
  have b4 := zat (i := 4) (a := 0) (b := 5) hN.1 rfl h4
  have hx1' : (x + 1).toInt = gh 1 + 1 := by rw [zx1 (by omega) (by omega), hx1]
  have hφ : zφs gh (fun i => if i = 1 then gh 1 + 1 else gh i) := ⟨by simp only [if_true]; omega, by simp only [if_true]; omega, fun n hn => if_neg hn⟩
  refine lv_aload_n hx hb d39 rfl g0 ?_
  refine lv_dup hx hb d40 rfl ?_
  refine zr_get hx hb hown hK (hFl _ p1) hH.1 c1 hxv d41 ?_
  refine lv_iconst hx hb d44 rfl ?_
  refine lv_iadd hx hb d45 ?_
  refine zr_putI hx hb hown hK (hFp _ p1 (Nat.zero_le _)) hH.1 hH.2.1 hH.2.2.1 c1 hjl d46 (fun H3 locs3 s1 s2 s3 => ?_)
  have hW' := zW_size (gh' := fun i => if i = 1 then gh 1 + 1 else gh i) hB h6 hH.2.2.2.1 c1 hxv hx1' rfl (fun n hn => if_neg hn) hqm f2 (by omega)
  have hgF : ∀ g, g < Z.2.2 → ([gh 0, gh 1 + 1, gh 2, gh 3, z4] : List Int)[g]? = some ((fun i => if i = 1 then gh 1 + 1 else gh i) g) := fun g hg => by
    rw [hG4] at hg
    match g, hg with
    | 0, _ => rfl
    | 1, _ => rfl
    | 2, _ => rfl
    | 3, _ => rfl
  have X' := hX _ [gh 0, gh 1 + 1, gh 2, gh 3, z4] hφ hgF rfl
  refine zrun_ok X' hgF ⟨[], by rw [List.append_nil]⟩ (ro := none) (fun r hr => by cases hr) (fun a ha => by cases ha) 3000 49 _ r2 [gh 0, gh 1 + 1, gh 2, gh 3, z4] ls [] _ H3 locs3 ⟨⟨s1, s2, s3, hW', zUn_fld w1 c1 hH.2.2.2.2⟩, ⟨zenv5 (zin1 (by omega) (by omega)) (zin1 (by omega) (by omega)) (zin1 b2.1 b2.2) (zin1 b3.1 b3.2) (zin1 b4.1 b4.2), (fun q hq => by cases hq), hgF, ⟨[], rfl⟩⟩, ⟨hL.1, hmx.symm, hL.2.2.1, fun i a hi ha => ?_⟩, trivial, (fun f hf => by cases hf), (fun q hq => by cases hq)⟩
  match i, hi with
  | 0, hi =>
    cases hi
    exact ⟨_, g0, 1, rfl, gh 0, rfl, by rw [h0.2]; rfl⟩
  | n + 1, hi => cases hi
/-- aload_0, getfield yard, one more is let in -/
theorem zr_admit {p : Program} {l : Launch} {e : Env} {R : Room} {s : State} {m : MethodId} {args : Array Value} {below : List Frame} {meth : Method} {c : Code} {cc : ByteArray} {own : String} {nL : Nat} {Ts : List Cond} {RO : zRO} {cl : List vw_C} {Z : zZ} {RS : List (List Int)} {P : zPool} {MT : zMT} {CS : List zC} {Co : zCo} {D : va_G} {tys : List (ClassId × FieldType)} {A : Nat → Prop} {ad : Nat → Nat} {gh : Nat → Int} {ws0 : va_W} {nuE : List Int} {H0 : Heap} {pc : Nat} {Q : State → Prop}
    (X : zCtx p l e R s m args below meth c cc own nL Ts RO cl Z RS P MT CS Co D tys A ad gh ws0 nuE H0 0 0 Q) {iY iA jY jm ciP ciY xP xY n6 : Nat} {ftP ftY : List zFT} {rm6 : Nat × Nat} {wr6 : zWr} {ws : va_W} {H : Heap} {locs : List Loc} {ls : Array Slot} {v : Int32} {cbq : Nat} (hG4 : Z.2.2 = 4) (hPZ : (0, 0, (0, ciP, xP, ftP)) ∈ Z.1) (hfy : ftP[jY]? = some (2, 1, 1)) (hYZ : (1, 1, (0, ciY, xY, ftY)) ∈ Z.1) (p1 : ∃ kY, (iY, ciP, jY, kY) ∈ P.1) (p4 : (iA, 0, n6, 0, ciY) ∈ P.2.2.2.1) (hmx6 : (MT n6).2.2.1 = 1) (hrm : rm6.1 + 1 ≤ Co.2.2.2.1.1 ∧ 8 + (1 + 11) + rm6.2 ≤ Co.2.2.2.1.2)
    (hadm : zMetE l Ts cl Z RO (zKof MT (n6, rm6, ([], zad0 jm), [([], (zadX, [], [], [], [], []))], wr6))) (hwr : zwrB Co.2.2.1 wr6 = true) (d0 : decode cc pc = .ok (.aload_n 0, 1)) (d1 : decode cc (pc + 1) = .ok (.getfield iY, 3)) (d4 : decode cc (pc + 4) = .ok (.invokevirtual iA, 3)) (g0 : ls[0]? = some (.val (.ref (ad 0)))) (hsz : ls.size = nL)
    (hH : zHp Z D cl tys A ad gh Co.2.2.1 H0 ws0 ws H locs) (b1 : 0 ≤ gh 1 ∧ gh 1 ≤ 39) (b2 : -1 ≤ gh 2 ∧ gh 2 ≤ 60) (b3 : 10 ≤ gh 3 ∧ gh 3 ≤ 11) (hq : (cbq : Int) = 50 + gh 1) (hv : zfv ws cbq jm = some (.int v)) (hv5 : 0 ≤ v.toInt ∧ v.toInt ≤ 5)
    (k : ∀ (gh' : Nat → Int) (ws' : va_W) (H1 : Heap) (locs1 : List Loc), zφs gh gh' → zHp Z D cl tys A ad gh' Co.2.2.1 H0 ws0 ws' H1 locs1 → W p l e R s m args below meth c H1 locs1 0 0 Q (F0 m (pc + 7) ls [])) : W p l e R s m args below meth c H locs 0 0 Q (F0 m pc ls []) := by
  obtain ⟨⟨hx, hb, h0, hml, hH0, hown⟩, ⟨hts, hTg, hK, hR, hro, -, hlocks⟩, ⟨hP0, hrmR⟩, ⟨hFl, hFp, -, -, hML⟩, -, -, -, -, -, hcs, -⟩ := id X
  obtain ⟨fs, c1, c2, c3⟩ := hH.2.2.2.1 _ hPZ 0 (Nat.le_refl _) (Nat.le_refl _)
  have hjl : jY < fs.length := by rw [c2]; exact (List.getElem?_eq_some_iff.mp hfy).1
  have hyv : fs[jY]? = some (.ref (ad 1)) := by
    have h1 := List.getElem?_eq_getElem hjl
    obtain ⟨r, h2, h3, h4⟩ := c3 jY _ _ hfy h1
    have hr : r = 1 := by omega
    rw [h1, h2, hr]
  obtain ⟨fsY, c1Y, -, -⟩ := hH.2.2.2.1 _ hYZ 1 (Nat.le_refl _) (Nat.le_refl _)
  obtain ⟨l1, T6, N6, hcl⟩ := (hML _ p4).1 rfl (n6, rm6, ([], zad0 jm), [([], (zadX, [], [], [], [], []))], wr6) rfl
  obtain ⟨kY, p1⟩ := p1
  have hgF : ∀ g, g < Z.2.2 → ([gh 0, gh 1, gh 2, gh 3, v.toInt] : List Int)[g]? = some (gh g) := fun g hg => by
    rw [hG4] at hg
    match g, hg with
    | 0, _ => rfl
    | 1, _ => rfl
    | 2, _ => rfl
    | 3, _ => rfl
  have hEnt : zEnt Z ad gh tys (zKof MT (n6, rm6, ([], zad0 jm), [([], (zadX, [], [], [], [], []))], wr6)) ws [gh 0, gh 1, gh 2, gh 3, v.toInt] [.ref (ad 1)] := by
    refine ⟨hH.2.2.2.1, zenv5 (zin1 (by omega) (by omega)) (zin1 b1.1 b1.2) (zin1 b2.1 b2.2) (zin1 b3.1 b3.2) (zin1 hv5.1 hv5.2), (fun q hq => by cases hq), hgF, ?_, rfl, fun f hf => ?_, rfl⟩
    · have hAs : zall (zm ad [gh 0, gh 1, gh 2, gh 3, v.toInt]) [(3, 0, 1, 0, 0)] [.ref (ad 1)] := ⟨⟨1, rfl, gh 0, rfl, by rw [h0.2]; rfl⟩, trivial⟩
      have := zlayP_ok (n := 1) hAs (by decide) (by decide)
      show zL ad _ (MT n6).2.2.1 (zels _ (MT n6).2.2.1) _
      rw [hmx6]
      exact this
    · cases List.mem_singleton.mp hf
      exact ⟨cbq, .int v, ⟨gh 1, rfl, by simp only; omega⟩, hv, v, rfl, v.toInt, rfl, by omega⟩
  have hMet := hadm D tys A ad gh ws [gh 0, gh 1, gh 2, gh 3, v.toInt] _ h0 hEnt hH.2.1
  refine lv_aload_n hx hb d0 rfl g0 ?_
  refine zr_get hx hb hown hK (hFl _ p1) hH.1 c1 hyv d1 ?_
  refine zr_callE (As := []) (restc := []) (n := 0) hx hb hcs hml hH0 hown hts hTg hK hR hro hsz hH.1 hH.2.2.1 c1Y hcl rfl hMet d4 l1 ⟨Nat.le_trans hrm.1 hrmR.1, ?_⟩ (by decide) (fun gh' nu' alt w ws1 H1 locs1 hφ hgn halt q1 q2 q3 q4 q5 q6 => ?_)
  · show 8 + ((MT n6).2.2.1 + 11) + rm6.2 ≤ R.locals
    rw [hmx6]
    exact Nat.le_trans hrm.2 hrmR.2
  · have halt : alt = ([], (zadX, [], [], [], [], [])) := List.mem_singleton.mp halt
    subst halt
    obtain ⟨t, -, -, z3, -⟩ := q6
    have hv : w = none := by
      cases w with
      | none => rfl
      | some v => exact z3.elim
    subst hv
    exact k gh' ws1 H1 locs1 hφ ⟨q1, q2, q3, q4, fun q j hn => by rw [q5 q j (zwrB_ok hwr hn)]; exact hH.2.2.2.2 q j hn⟩
