/-! A TEXT'S WORTH: the head at which a sign and its number are read, by hand -/
def zworthD (cc : ByteArray) (iS iN : Nat) : Prop := decode cc 22 = .ok (.aload_n 0, 1) ∧ decode cc 23 = .ok (.getfield iS, 3) ∧ decode cc 26 = .ok (.iload_n 3, 1) ∧ decode cc 27 = .ok (.iaload, 1) ∧ decode cc 28 = .ok (.istore 5, 2) ∧ decode cc 30 = .ok (.aload_n 0, 1) ∧ decode cc 31 = .ok (.getfield iN, 3) ∧ decode cc 34 = .ok (.iload_n 3, 1) ∧ decode cc 35 = .ok (.iaload, 1) ∧ decode cc 36 = .ok (.istore 6, 2)
def zwrCs : List (zIv × zIv) := [([(78, 78)], [(0, 7)]), ([(63, 63)], [(0, 2147483647)]), ([(-2147483648, 62), (64, 77), (79, 2147483647)], zFull)]
theorem zTxB_pair {Z : zZ} {ci : Nat} (hT : zTxB Z ci = true) : ∀ e ∈ Z.1, e.2.2 = zTX ci → ∀ q, e.1 ≤ q → q ≤ e.2.1 → (∃ e' ∈ Z.1, e'.1 ≤ q + 21 ∧ q + 21 ≤ e'.2.1 ∧ e'.2.2 = (6, 0, 61, [(2, 21, 0)])) ∧ ∃ e' ∈ Z.1, e'.1 ≤ q + 21 + 2 ∧ q + 21 + 2 ≤ e'.2.1 ∧ e'.2.2 = (7, 0, 61, []) := by
  obtain ⟨hT1, hT2, hT3, hT4⟩ := zTxB_ok hT
  intro e he h q q1 q2
  rcases hT1 e he with rfl | rfl | rfl | ⟨h3, h4, h5⟩
  · exact ⟨⟨_, hT3, by simp only at *; omega, by simp only at *; omega, rfl⟩, _, hT4, by simp only at *; omega, by simp only at *; omega, rfl⟩
  · cases h
  · cases h
  · rw [h] at h3
    cases h3
theorem zworth_met {l : Launch} {Ts : List Cond} {cl : List vw_C} {Z : zZ} {RO : zRO} {RS : List (List Int)} {MT : zMT} {CS : List zC} {C : zC} {P : zPool} {ci iS iN nr ni fuel : Nat} {kr ki : Int} {kS kN : Nat} {srcs : List zSrc} {env : List zIv} {cd : List zCd} {L : List zAV} {fa : List zFa} {me : List zMe} {rk : zRk} {rest : zAnn} {sp : List (Nat × Nat × Int × Int)} (hTg : ∀ w ∈ Ts, goodWord w = true) (hR : zROk RO) (hZ : zDj Z) (hRS : zRowT RO RS) (hPk : zPok Ts cl RO MT (MT C.1).1.cls P) (hCS : ∀ C ∈ CS, zMet l Ts cl Z RO (zKof MT C)) (hret : (MT C.1).2.2.2 = some .int) (hy : plainName (MT C.1).1.cls = true)
    (hroom : P.2.2.2.1.all (fun q => !(q.2.1 == 3) || (decide (20 ≤ C.2.1.1) && decide (1000 ≤ C.2.1.2))) = true) (hT : zTxB Z ci = true) (hdc : zworthD (MT C.1).2.1 iS iN) (p2 : (iS, ci, 1, kS) ∈ P.1) (p3 : (iN, ci, 2, kN) ∈ P.1)
    (l0 : L[0]? = some (3, nr, kr, 0, 0)) (l3 : L[3]? = some (1, ni, ki, 0, 0)) (h6 : 6 < L.length) (ht : zty Z env (nr, kr) = some (zTX ci)) (hbd : zbds env cd (ni, ki) 61 = true) (hrk : 0 < env.length ∧ rk.all (fun r => decide (r.2.1 < env.length)) = true)
    (r0 : zrun Z RS P MT CS (C.2.2.1.2.1.length, C.2.2.2.1, C.2.2.2.2, C.2.1, 1) (MT C.1).2.1 ((22, (srcs, (env, cd, L, [], fa, me)), rk) :: rest) sp none fuel 0 C.2.2.1.2 = true)
    (r1 : rest.all (zhead Z RS MT CS C P 1 ((22, (srcs, (env, cd, L, [], fa, me)), rk) :: rest) sp fuel) = true)
    (r2 : zwrCs.all (fun iv => rest.any (fun a => a.1 == 38 && zjmp Z C.2.2.1.2.1.length (some rk) a.2.2 a.2.1 ((env ++ [iv.1]) ++ [iv.2], cd, zst1 (zst1 L 5 (1, env.length, 0, 0, 0)) 6 (1, env.length + 1, 0, 0, 0), [], fa, me))) = true) : zMet l Ts cl Z RO (zKof MT C) := by
  refine zmet_of (rc := 1) hTg hR hZ hRS hPk hCS ⟨fun h => (by cases h), fun _ => hret, fun h => (by cases h), fun h => (by cases h)⟩ hy hroom ?_
  intro p e R s m args below meth c D tys A ad gh ws0 nuE Q hgh hQ hrt X
  obtain ⟨⟨hx, hb, h0, hml, hH0, hown⟩, ⟨hts, -, hK, -, hro, -, hlocks⟩, ⟨hP0, hrmR⟩, ⟨hFl, -⟩, -⟩ := id X
  obtain ⟨d0, d1, d2, d3, d4, d5, d6, d7, d8, d9⟩ := hdc
  have hwk0 : ∀ i, (rk.getD i (2, 0, 0)).2.1 < env.length := fun i => by
    rw [List.getD_eq_getElem?_getD]
    cases hg : rk[i]? with
    | none => exact hrk.1
    | some r => have := List.all_eq_true.mp hrk.2 r (List.mem_of_getElem? hg); rwa [decide_eq_true_eq] at this
  have hall : ∀ a ∈ rest, (0 < a.2.1.2.1.length ∧ ∀ r ∈ a.2.2, r.2.1 < a.2.1.2.1.length) ∧ zrun Z RS P MT CS (C.2.2.1.2.1.length, C.2.2.2.1, C.2.2.2.2, C.2.1, 1) (MT C.1).2.1 ((22, (srcs, (env, cd, L, [], fa, me)), rk) :: rest) sp (some a.2.2) fuel a.1 a.2.1.2 = true := fun a ha => by
    have h1 := List.all_eq_true.mp r1 a ha
    unfold zhead at h1
    rw [Bool.and_eq_true, Bool.and_eq_true, decide_eq_true_eq] at h1
    exact ⟨⟨h1.1, fun r hr => by have := List.all_eq_true.mp h1.2.1 r hr; rwa [decide_eq_true_eq] at this⟩, h1.2.2⟩
  have hwk : ∀ a ∈ ((22, (srcs, (env, cd, L, [], fa, me)), rk) :: rest : zAnn), ∀ i, (a.2.2.getD i (2, 0, 0)).2.1 < a.2.1.2.1.length := fun a ha i => by
    rcases List.mem_cons.mp ha with rfl | ha
    · exact hwk0 i
    · obtain ⟨⟨w1, w2⟩, -⟩ := hall a ha
      rw [List.getD_eq_getElem?_getD]
      cases hg : a.2.2[i]? with
      | none => exact w1
      | some r => exact w2 r (List.mem_of_getElem? hg)
  have lp := zloops2 (sp := sp) (fuel := fuel) X hgh hwk (fun a ha => by
    rcases List.mem_cons.mp ha with rfl | ha
    · right
      intro nu' hE hTg' ls st ws H locs hG
      have hst : st = [] := List.length_eq_zero_iff.mp hG.2.2.2.1.len.symm
      subst hst
      refine zpair (x := 0) (t6 := 0) (t7 := 0) (eS := 21) (dS := 21) (d2 := 2) (fts := [(2, 2, 2), (4, 21, 0), (4, 23, 0), (4, 25, 0), (8, 0, 61)]) (jS := 1) (jN := 2) hx hb h0 hown hK d0 d1 d2 d3 d4 d5 d6 d7 d8 d9 (hFl _ p2) (hFl _ p3) l0 l3 h6 ht rfl rfl (zTxB_pair hT) hbd (fun iv hiv => ?_) nu' ls [] ws H locs hG
      have h1 := List.all_eq_true.mp r2 iv hiv
      obtain ⟨b, hb1, hb2⟩ := List.any_eq_true.mp h1
      rw [Bool.and_eq_true, beq_iff_eq] at hb2
      have := zjmp_ok X hgh hE (ro := some rk) (fun r hr i => by cases hr; rw [hG.2.1.1.1]; exact hwk0 i) (List.mem_cons_of_mem _ hb1) hTg' hb2.2
      rw [hb2.1] at this
      exact this
    · exact Or.inl (hall a ha).2)
  exact zrun_ok X hgh ⟨[], by rw [List.append_nil]⟩ (ro := none) (fun r hr => by cases hr) (fun a ha nu' hE2 _ => lp _ a ha nu' hE2 rfl) fuel 0 C.2.2.1.2 r0
