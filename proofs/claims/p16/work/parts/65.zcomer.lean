/-! A COMER FROM THE TAPE, COMERS FROM A ROW -/
def zcmE : List zIv := [[(0, 0)], [(0, 40)], [(-1, 60)], [(10, 11)]]
def zcm0 : zS := (zcmE, [], [(3, 0, 0, 0, 0), (0, 0, 0, 0, 0)], [], [], [])
def zcm55 (jm : Nat) : Nat × zTm × zRk := (55, ([(2, 1, 50, jm)], (zadE, [], [(3, 0, 0, 0, 0), (0, 0, 0, 0, 0)], [], [(1, 50, jm, (1, 4, 0, 0, 0))], [])), [])
def zcmD (cc : ByteArray) (pc iY iA : Nat) : Prop := decode cc pc = .ok (.aload_n 0, 1) ∧ decode cc (pc + 1) = .ok (.getfield iY, 3) ∧ decode cc (pc + 4) = .ok (.invokevirtual iA, 3)
theorem zφs.trans {a b c : Nat → Int} (h1 : zφs a b) (h2 : zφs b c) : zφs a c := ⟨Int.le_trans h1.1 h2.1, h2.2.1, fun n hn => (h2.2.2 n hn).trans (h1.2.2 n hn)⟩
theorem zcomer_met {l : Launch} {Ts : List Cond} {cl : List vw_C} {Z : zZ} {RO : zRO} {RS : List (List Int)} {MT : zMT} {CS : List zC} {C : zC} {P : zPool} {ciP ciY xP xY jY jm iY iA kY n n6 : Nat} {ftP ftY : List zFT} {rm rm6 : Nat × Nat} {alts : List zTm} {wr wr6 : zWr} (hTg : ∀ w ∈ Ts, goodWord w = true) (hR : zROk RO) (hZ : zDj Z) (hRS : zRowT RO RS) (hPk : zPok Ts cl RO MT (MT C.1).1.cls P) (hCS : ∀ C ∈ CS, zMet l Ts cl Z RO (zKof MT C)) (hret : (MT C.1).2.2.2 = some .int) (hmx : (MT C.1).2.2.1 = 2) (hy : plainName (MT C.1).1.cls = true)
    (hroom : P.2.2.2.1.all (fun q => !(q.2.1 == 3) || (decide (20 ≤ C.2.1.1) && decide (1000 ≤ C.2.1.2))) = true) (hG4 : Z.2.2 = 4) (hPZ : (0, 0, (0, ciP, xP, ftP)) ∈ Z.1) (hfy : ftP[jY]? = some (2, 1, 1)) (hYZ : (1, 1, (0, ciY, xY, ftY)) ∈ Z.1) (p1 : (iY, ciP, jY, kY) ∈ P.1) (p4 : (iA, 0, n6, 0, ciY) ∈ P.2.2.2.1) (hmx6 : (MT n6).2.2.1 = 1) (hrm : rm6.1 + 1 ≤ rm.1 ∧ 8 + (1 + 11) + rm6.2 ≤ rm.2)
    (hadm : zMetE l Ts cl Z RO (zKof MT (n6, rm6, ([], zad0 jm), [([], (zadX, [], [], [], [], []))], wr6))) (hwr : zwrB wr wr6 = true) (hdc : zcmD (MT C.1).2.1 55 iY iA) (hC : C = (n, rm, ([], zcm0), alts, wr))
    (r1 : zrun Z RS P MT CS (4, alts, wr, rm, 1) (MT C.1).2.1 [zcm55 jm] [] none 3000 0 zcm0 = true) (r2 : zrun Z RS P MT CS (4, alts, wr, rm, 1) (MT C.1).2.1 [] [] none 3000 62 zcm0 = true) : zMetE l Ts cl Z RO (zKof MT C) := by
  subst hC
  refine zmet_ofE (rc := 1) hTg hR hZ hRS hPk hCS ⟨fun h => (by cases h), fun _ => hret, fun h => (by cases h), fun h => (by cases h)⟩ hy hroom ?_
  intro p e R s m args below meth c D tys A ad gh ws0 nuE Q hgh hlen hX ls0 hG0
  have hlen : nuE.length = 4 := hlen
  have b1 : 0 ≤ gh 1 ∧ gh 1 ≤ 40 := zat (i := 1) hG0.2.1.1 rfl (hgh 1 (by omega))
  have b2 := zat (i := 2) (a := -1) (b := 60) hG0.2.1.1 rfl (hgh 2 (by omega))
  have b3 := zat (i := 3) (a := 10) (b := 11) hG0.2.1.1 rfl (hgh 3 (by omega))
  have X := hX gh nuE ⟨Int.le_refl _, by omega, fun _ _ => rfl⟩ hgh hlen
  have h0 := X.1.2.2.1
  obtain ⟨d55, d56, d59⟩ := hdc
  refine zrun_ok X hgh ⟨[], by rw [List.append_nil]⟩ (ro := none) (fun r hr => by cases hr) (fun a ha nu' hE _ ls st ws H locs hG => ?_) 3000 0 _ r1 nuE ls0 [] ws0 s.heap [] hG0
  rw [List.mem_singleton] at ha
  subst ha
  obtain ⟨hH, hN, hL, hS, hF, hM⟩ := id hG
  have hst : st = [] := List.length_eq_zero_iff.mp hS.len.symm
  subst hst
  obtain ⟨u, rfl⟩ := hE
  have hgh' : ∀ g, g < 4 → (nuE ++ u)[g]? = some (gh g) := fun g hg => by
    rw [List.getElem?_append_left (by omega)]
    exact hgh g (by omega)
  obtain ⟨v0, g0, q, rfl, hq⟩ := hL.2.2.2 0 (3, 0, 0, 0, 0) rfl (by simp)
  have hq0 : q = 0 := by
    obtain ⟨z, h1, h2⟩ := hq
    rw [hgh' 0 (by omega), h0.2] at h1
    cases h1
    omega
  subst hq0
  have c1 : 0 ≤ gh 1 ∧ gh 1 ≤ 39 := zat (i := 1) hN.1 rfl (hgh' 1 (by omega))
  obtain ⟨qm, vm, f1, f2, v, rfl, f4⟩ := hF (1, 50, jm, (1, 4, 0, 0, 0)) List.mem_cons_self
  have f2 : zfv ws qm jm = some (.int v) := f2
  have hqm : (qm : Int) = 50 + gh 1 := by
    obtain ⟨z, h1, h2⟩ := f1
    have h1 : (nuE ++ u)[1]? = some z := h1
    rw [hgh' 1 (by omega)] at h1
    cases h1
    simp only at h2
    omega
  obtain ⟨z4, h4, h4'⟩ := f4
  have b4 := zat (i := 4) (a := 0) (b := 5) hN.1 rfl h4
  refine zr_admit X hG4 hPZ hfy hYZ ⟨kY, p1⟩ p4 hmx6 hrm hadm hwr d55 d56 d59 g0 hL.1 hH c1 b2 b3 hqm f2 (by omega) (fun gh' ws' H1 locs1 hφ hH' => ?_)
  have hgF : ∀ g, g < Z.2.2 → ([gh' 0, gh' 1, gh' 2, gh' 3] : List Int)[g]? = some (gh' g) := fun g hg => by
    rw [hG4] at hg
    match g, hg with
    | 0, _ => rfl
    | 1, _ => rfl
    | 2, _ => rfl
    | 3, _ => rfl
  have X' := hX gh' [gh' 0, gh' 1, gh' 2, gh' 3] hφ hgF rfl
  have e0 : gh' 0 = 0 := (hφ.2.2 0 (by decide)).trans h0.2
  have e2 := hφ.2.2 2 (by decide)
  have e3 := hφ.2.2 3 (by decide)
  have e1 := hφ.1
  have e1' := hφ.2.1
  refine zrun_ok X' hgF ⟨[], by rw [List.append_nil]⟩ (ro := none) (fun r hr => by cases hr) (fun a ha => by cases ha) 3000 62 _ r2 [gh' 0, gh' 1, gh' 2, gh' 3] ls [] ws' H1 locs1 ⟨hH', ⟨⟨rfl, fun i iv hiv => ?_⟩, (fun q hq => by cases hq), hgF, ⟨[], rfl⟩⟩, ⟨hL.1, hmx.symm, hL.2.2.1, fun i a hi ha => ?_⟩, trivial, (fun f hf => by cases hf), (fun q hq => by cases hq)⟩
  · match i, hiv with
    | 0, hiv => cases hiv; exact ⟨_, rfl, zin1 (by omega) (by omega)⟩
    | 1, hiv => cases hiv; exact ⟨_, rfl, zin1 (by omega) (by omega)⟩
    | 2, hiv => cases hiv; exact ⟨_, rfl, zin1 (by omega) (by omega)⟩
    | 3, hiv => cases hiv; exact ⟨_, rfl, zin1 (by omega) (by omega)⟩
    | n + 4, hiv => cases hiv
  · match i, hi with
    | 0, hi =>
      cases hi
      exact ⟨_, g0, 0, rfl, gh' 0, rfl, by rw [e0]; rfl⟩
    | 1, hi =>
      cases hi
      exact absurd rfl ha
    | n + 2, hi => cases hi
def zcsL : List zAV := [(3, 0, 0, 0, 0), (1, 4, 0, 0, 0), (1, 5, 0, 0, 0), (1, 6, 0, 0, 0), (1, 7, 0, 0, 0), (2, 8, 0, 0, 0), (0, 0, 0, 0, 0)]
def zcs0 : zS := ([[(0, 0)], [(0, 40)], [(-1, 60)], [(10, 11)], [(-2147483648, 2147483647)], [(-2147483648, 2147483647)], [(-2147483648, 2147483647)]], [], [(3, 0, 0, 0, 0), (1, 4, 0, 0, 0), (1, 5, 0, 0, 0), (1, 6, 0, 0, 0), (0, 0, 0, 0, 0), (0, 0, 0, 0, 0), (0, 0, 0, 0, 0)], [], [], [])
def zcs57 : zS := ([[(0, 0)], [(0, 40)], [(-1, 60)], [(10, 11)], [(0, 5)], [(-2147483648, 2147483647)], [(1, 12)], [(0, 12)], [(-2147483648, 2147483647)]], [], zcsL, [], [], [])
def zcs103 (jm : Nat) : zS := ([[(0, 0)], [(0, 39)], [(-1, 60)], [(10, 11)], [(0, 5)], [(-2147483648, 2147483647)], [(1, 12)], [(0, 11)], [(0, 55)], [(0, 5)]], [], zcsL, [], [(1, 50, jm, (1, 9, 0, 0, 0))], [])
def zcs110 : zS := ([[(0, 0)], [(0, 40)], [(-1, 60)], [(10, 11)], [(0, 5)], [(-2147483648, 2147483647)], [(1, 12)], [(0, 11)], [(0, 55)]], [], zcsL, [], [], [])
def zcsK : zRk := [(0, 7, 12), (2, 0, 1)]
def zcsM : zRk := [(0, 7, 12), (2, 0, 0)]
def zcsA : Nat × zTm × zRk := (57, ([(0, 4, 0, 0), (0, 5, 0, 0)], zcs57), zcsK)
def zcsB (jm : Nat) : Nat × zTm × zRk := (103, ([(0, 4, 0, 0), (0, 5, 0, 0), (2, 1, 50, jm)], zcs103 jm), zcsM)
theorem zcsR {n : Nat} (h : 9 ≤ n) : (∀ i, (zcsK.getD i (2, 0, 0)).2.1 < n) ∧ ∀ i, (zcsM.getD i (2, 0, 0)).2.1 < n := by
  refine ⟨fun i => ?_, fun i => ?_⟩
  · match i with
    | 0 => show 7 < n; omega
    | 1 => show 0 < n; omega
    | k + 2 => show 0 < n; omega
  · match i with
    | 0 => show 7 < n; omega
    | 1 => show 0 < n; omega
    | k + 2 => show 0 < n; omega
theorem zLex.trans {a b c : Nat × Nat × Nat × Nat} (h1 : zLex a b) (h2 : zLex b c) : zLex a c := by
  unfold zLex at *
  omega
theorem zlen7 {l : List Int} (h : l.length = 7) : ∃ a b c d e f g, l = [a, b, c, d, e, f, g] := by
  match l, h with
  | [a, b, c, d, e, f, g], _ => exact ⟨a, b, c, d, e, f, g, rfl⟩
theorem zlen3 {l : List Int} (h : l.length = 3) : ∃ a b c, l = [a, b, c] := by
  match l, h with
  | [a, b, c], _ => exact ⟨a, b, c, rfl⟩
theorem zcomers_met {l : Launch} {Ts : List Cond} {cl : List vw_C} {Z : zZ} {RO : zRO} {RS : List (List Int)} {MT : zMT} {CS : List zC} {C : zC} {P : zPool} {ciP ciY xP xY jY jm iY iA kY n n6 : Nat} {ftP ftY : List zFT} {rm rm6 : Nat × Nat} {srcs : List zSrc} {alts : List zTm} {wr wr6 : zWr} (hTg : ∀ w ∈ Ts, goodWord w = true) (hR : zROk RO) (hZ : zDj Z) (hRS : zRowT RO RS) (hPk : zPok Ts cl RO MT (MT C.1).1.cls P) (hCS : ∀ C ∈ CS, zMet l Ts cl Z RO (zKof MT C)) (hret : (MT C.1).2.2.2 = some .int) (hmx : (MT C.1).2.2.1 = 7) (hy : plainName (MT C.1).1.cls = true)
    (hroom : P.2.2.2.1.all (fun q => !(q.2.1 == 3) || (decide (20 ≤ C.2.1.1) && decide (1000 ≤ C.2.1.2))) = true) (hG4 : Z.2.2 = 4) (hPZ : (0, 0, (0, ciP, xP, ftP)) ∈ Z.1) (hfy : ftP[jY]? = some (2, 1, 1)) (hYZ : (1, 1, (0, ciY, xY, ftY)) ∈ Z.1) (p1 : (iY, ciP, jY, kY) ∈ P.1) (p4 : (iA, 0, n6, 0, ciY) ∈ P.2.2.2.1) (hmx6 : (MT n6).2.2.1 = 1) (hrm : rm6.1 + 1 ≤ rm.1 ∧ 8 + (1 + 11) + rm6.2 ≤ rm.2)
    (hadm : zMetE l Ts cl Z RO (zKof MT (n6, rm6, ([], zad0 jm), [([], (zadX, [], [], [], [], []))], wr6))) (hwr : zwrB wr wr6 = true) (hdc : zcmD (MT C.1).2.1 103 iY iA) (hC : C = (n, rm, (srcs, zcs0), alts, wr))
    (r1 : zrun Z RS P MT CS (7, alts, wr, rm, 1) (MT C.1).2.1 [zcsA] [] none 3000 0 zcs0 = true) (r2 : zrun Z RS P MT CS (7, alts, wr, rm, 1) (MT C.1).2.1 [zcsB jm] [] (some zcsK) 3000 57 zcs57 = true) (r3 : zrun Z RS P MT CS (7, alts, wr, rm, 1) (MT C.1).2.1 [zcsA] [] (some zcsM) 3000 110 zcs110 = true) : zMetE l Ts cl Z RO (zKof MT C) := by
  subst hC
  refine zmet_ofE (rc := 1) hTg hR hZ hRS hPk hCS ⟨fun h => (by cases h), fun _ => hret, fun h => (by cases h), fun h => (by cases h)⟩ hy hroom ?_
  intro p e R s m args below meth c D tys A ad gh ws0 nuE Q hgh hlen hX ls0 hG0
  have hlen : nuE.length = 7 := hlen
  have b1 : 0 ≤ gh 1 ∧ gh 1 ≤ 40 := zat (i := 1) hG0.2.1.1 rfl (hgh 1 (by omega))
  have X := hX gh nuE ⟨Int.le_refl _, by omega, fun _ _ => rfl⟩ hgh hlen
  obtain ⟨d103, d104, d107⟩ := hdc
  have loop : ∀ r : Nat × Nat × Nat × Nat, ∀ (gh1 : Nat → Int) (nuF u : List Int), zφs gh gh1 → (∀ g, g < Z.2.2 → nuF[g]? = some (gh1 g)) → nuF.length = 7 → zrk3 zcsK (nuF ++ u) = r → ∀ (ls : Array Slot) (st : List Value) (ws : va_W) (H : Heap) (locs : List Loc), zG Z D cl tys A ad gh1 wr s.heap ws0 (nuF ++ u) (MT n).2.2.1 zcs57 (nuF ++ u) ls st ws H locs → W p l e R s m args below meth c H locs 0 0 Q (F0 m 57 ls st) := by
    refine zLex_ind (fun r ih => ?_)
    intro gh1 nuF u hφ1 hg1 hlF hr ls st ws H locs hG
    have X1 := hX gh1 nuF hφ1 hg1 hlF
    have h0 := X1.1.2.2.1
    have hu : (nuF ++ u).length = 9 := hG.2.1.1.1
    refine zrun_ok X1 hg1 ⟨u, rfl⟩ (ro := some zcsK) (fun r2 hr2 => by cases hr2; exact (zcsR (by omega)).1) (fun a ha nu2 hE hlx ls2 st2 ws2 H2 locs2 hG2 => ?_) 3000 57 _ r2 (nuF ++ u) ls st ws H locs hG
    rw [List.mem_singleton] at ha
    subst ha
    have hlx := hlx zcsK rfl
    obtain ⟨hH, hN, hL, hS, hF, hM⟩ := id hG2
    have hst : st2 = [] := List.length_eq_zero_iff.mp hS.len.symm
    subst hst
    obtain ⟨u2, rfl⟩ := hE
    have hu2 : u2.length = 3 := by
      have h1 := hN.1.1
      rw [List.length_append, hlF] at h1
      have h2 : (zcs103 jm).1.length = 10 := rfl
      have h1 : 7 + u2.length = (zcs103 jm).1.length := h1
      omega
    obtain ⟨n0, n1, n2, n3, a1, a2, a3, rfl⟩ := zlen7 hlF
    obtain ⟨cv, xv, mv, rfl⟩ := zlen3 hu2
    have z0' : n0 = gh1 0 := Option.some.inj (hg1 0 (by omega))
    have z1' : n1 = gh1 1 := Option.some.inj (hg1 1 (by omega))
    have z2' : n2 = gh1 2 := Option.some.inj (hg1 2 (by omega))
    have z3' : n3 = gh1 3 := Option.some.inj (hg1 3 (by omega))
    have k1 : 0 ≤ n1 ∧ n1 ≤ 39 := zat (i := 1) hN.1 rfl rfl
    have k2 : -1 ≤ n2 ∧ n2 ≤ 60 := zat (i := 2) hN.1 rfl rfl
    have k3 : 10 ≤ n3 ∧ n3 ≤ 11 := zat (i := 3) hN.1 rfl rfl
    have k4 : 0 ≤ a1 ∧ a1 ≤ 5 := zat (i := 4) hN.1 rfl rfl
    have k5 : -2147483648 ≤ a2 ∧ a2 ≤ 2147483647 := zat (i := 5) hN.1 rfl rfl
    have k6 : 1 ≤ a3 ∧ a3 ≤ 12 := zat (i := 6) hN.1 rfl rfl
    have k7 : 0 ≤ cv ∧ cv ≤ 11 := zat (i := 7) hN.1 rfl rfl
    have k8 : 0 ≤ xv ∧ xv ≤ 55 := zat (i := 8) hN.1 rfl rfl
    have k9 : 0 ≤ mv ∧ mv ≤ 5 := zat (i := 9) hN.1 rfl rfl
    obtain ⟨v0, g0, q, rfl, hq⟩ := hL.2.2.2 0 (3, 0, 0, 0, 0) rfl (by simp)
    have hq0 : q = 0 := by
      obtain ⟨z, h1, h2⟩ := hq
      cases h1
      rw [z0', h0.2] at h2
      omega
    subst hq0
    obtain ⟨qm, vm, f1, f2, v, rfl, f4⟩ := hF (1, 50, jm, (1, 9, 0, 0, 0)) List.mem_cons_self
    have f2 : zfv ws2 qm jm = some (.int v) := f2
    have hqm : (qm : Int) = 50 + gh1 1 := by
      obtain ⟨z, h1, h2⟩ := f1
      have h1 : some n1 = some z := h1
      cases h1
      simp only at h2
      omega
    have hv5 : 0 ≤ v.toInt ∧ v.toInt ≤ 5 := by
      obtain ⟨z4, h4, h4'⟩ := f4
      have h4 : some mv = some z4 := h4
      cases h4
      omega
    refine zr_admit X1 hG4 hPZ hfy hYZ ⟨kY, p1⟩ p4 hmx6 hrm hadm hwr d103 d104 d107 g0 hL.1 hH (by omega) (by omega) (by omega) hqm f2 hv5 (fun gh2 ws' H1 locs1 hφ hH' => ?_)
    have hgF : ∀ g, g < Z.2.2 → ([gh2 0, gh2 1, gh2 2, gh2 3, a1, a2, a3] : List Int)[g]? = some (gh2 g) := fun g hg => by
      rw [hG4] at hg
      match g, hg with
      | 0, _ => rfl
      | 1, _ => rfl
      | 2, _ => rfl
      | 3, _ => rfl
    have hφ2 := hφ1.trans hφ
    have X2 := hX gh2 [gh2 0, gh2 1, gh2 2, gh2 3, a1, a2, a3] hφ2 hgF rfl
    have e0 : gh2 0 = 0 := (hφ.2.2 0 (by decide)).trans h0.2
    have e2 := hφ.2.2 2 (by decide)
    have e3 := hφ.2.2 3 (by decide)
    have e1 := hφ.1
    have e1' := hφ.2.1
    refine zrun_ok X2 hgF ⟨[cv, xv], rfl⟩ (ro := some zcsM) (fun r2 hr2 => by cases hr2; exact (zcsR (Nat.le_refl 9)).2) (fun a ha nu3 hE3 hlx3 ls3 st3 ws3 H3 locs3 hG3 => ?_) 3000 110 _ r3 [gh2 0, gh2 1, gh2 2, gh2 3, a1, a2, a3, cv, xv] ls2 [] ws' H1 locs1 ⟨hH', ⟨⟨rfl, fun i iv hiv => ?_⟩, (fun q hq => by cases hq), fun g hg => ?_, ⟨[], rfl⟩⟩, ⟨hL.1, hmx.symm, hL.2.2.1, fun i a hi ha => ?_⟩, trivial, (fun f hf => by cases hf), (fun q hq => by cases hq)⟩
    · rw [List.mem_singleton] at ha
      subst ha
      obtain ⟨u3, rfl⟩ := hE3
      exact ih _ ((hlx3 zcsM rfl).trans (by rw [← hr]; exact hlx)) gh2 _ u3 hφ2 hgF rfl rfl ls3 st3 ws3 H3 locs3 hG3
    · match i, hiv with
      | 0, hiv => cases hiv; exact ⟨_, rfl, zin1 (by omega) (by omega)⟩
      | 1, hiv => cases hiv; exact ⟨_, rfl, zin1 (by omega) (by omega)⟩
      | 2, hiv => cases hiv; exact ⟨_, rfl, zin1 (by omega) (by omega)⟩
      | 3, hiv => cases hiv; exact ⟨_, rfl, zin1 (by omega) (by omega)⟩
      | 4, hiv => cases hiv; exact ⟨_, rfl, zin1 (by omega) (by omega)⟩
      | 5, hiv => cases hiv; exact ⟨_, rfl, zin1 (by omega) (by omega)⟩
      | 6, hiv => cases hiv; exact ⟨_, rfl, zin1 (by omega) (by omega)⟩
      | 7, hiv => cases hiv; exact ⟨_, rfl, zin1 (by omega) (by omega)⟩
      | 8, hiv => cases hiv; exact ⟨_, rfl, zin1 (by omega) (by omega)⟩
      | n + 9, hiv => cases hiv
    · rw [hG4] at hg
      match g, hg with
      | 0, _ => rfl
      | 1, _ => rfl
      | 2, _ => rfl
      | 3, _ => rfl
    · match i, hi with
      | 0, hi =>
        cases hi
        exact ⟨_, g0, 0, rfl, gh2 0, rfl, by rw [e0]; rfl⟩
      | 1, hi => cases hi; exact hL.2.2.2 1 (1, 4, 0, 0, 0) rfl (by simp)
      | 2, hi => cases hi; exact hL.2.2.2 2 (1, 5, 0, 0, 0) rfl (by simp)
      | 3, hi => cases hi; exact hL.2.2.2 3 (1, 6, 0, 0, 0) rfl (by simp)
      | 4, hi => cases hi; exact hL.2.2.2 4 (1, 7, 0, 0, 0) rfl (by simp)
      | 5, hi => cases hi; exact hL.2.2.2 5 (2, 8, 0, 0, 0) rfl (by simp)
      | 6, hi => cases hi; exact absurd rfl ha
      | n + 7, hi => cases hi
  refine zrun_ok X hgh ⟨[], by rw [List.append_nil]⟩ (ro := none) (fun r hr => by cases hr) (fun a ha nu' hE _ ls st ws H locs hG => ?_) 3000 0 _ r1 nuE ls0 [] ws0 s.heap [] hG0
  rw [List.mem_singleton] at ha
  subst ha
  obtain ⟨u, rfl⟩ := hE
  exact loop _ gh nuE u ⟨Int.le_refl _, by omega, fun _ _ => rfl⟩ hgh hlen rfl ls st ws H locs hG
