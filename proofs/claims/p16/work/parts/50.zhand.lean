/-! BY HAND: fields and elements read and written raw; a sign and its number read together -/
section ZHD
variable {p : Program} {l : Launch} {e : Env} {R : Room} {s : State} {m : MethodId} {args : Array Value} {below : List Frame} {meth : Method} {c : Code} {Q : State → Prop} {cc : ByteArray} {pc ce sl : Nat}
variable {Z : zZ} {D : va_G} {cl : List vw_C} {tys : List (ClassId × FieldType)} {A : Nat → Prop} {ad : Nat → Nat} {gh : Nat → Int} {wr : zWr} {H0 : Heap} {ws0 : va_W} {nu0 : List Int} {nL : Nat}
variable {env : List zIv} {cd : List zCd} {L st : List zAV} {fa : List zFa} {me : List zMe}
theorem zr_get (hx : p.tables.exec = Jvm.exec) (hb : c.code = cc) {own : String} (hown : s.vm.findClass own = some m.cls) (hK : va_K D cl tys s) {idx ci j q : Nat} {ws : va_W} {H : Heap} {locs : List Loc} {ls : Array Slot} {rest fs : List Value} {v : Value} (hf : zFld cl s args own idx ci j) (hP : va_P D cl ws H) (c1 : ws[q]? = some (ad q, .inr (ci, fs))) (hv : fs[j]? = some v) (hd : decode cc pc = .ok (.getfield idx, 3))
    (k : W p l e R s m args below meth c H locs ce sl Q (F0 m (pc + 3) ls (v :: rest))) : W p l e R s m args below meth c H locs ce sl Q (F0 m pc ls (.ref (ad q) :: rest)) := by
  obtain ⟨C, T, N, ty0, f1, f2, f3, f4, f5, f6⟩ := hf
  rcases f6 with f6 | ⟨host, f6⟩
  · exact va_get hx hb f3 (fun w hw => hw) hown hK hP q c1 f1 j f2 f6 (fun x h => h) hv hd k
  · exact va_getN hx hb f3 (fun w hw => hw) hown hK hP q c1 f1 j f2 f6 (fun x h => h) hv hd k
/-- an int field's new value -/
theorem zr_putI (hx : p.tables.exec = Jvm.exec) (hb : c.code = cc) {own : String} (hown : s.vm.findClass own = some m.cls) (hK : va_K D cl tys s) {idx ci j q : Nat} {ws : va_W} {H : Heap} {locs : List Loc} {ls : Array Slot} {rest fs : List Value} {y : Int32} (hf : zFldP cl s args own idx ci j 0) (hP : va_P D cl ws H) (hD : va_D A ws) (hS : va_S A H0 H locs) (c1 : ws[q]? = some (ad q, .inr (ci, fs))) (hl : j < fs.length) (hd : decode cc pc = .ok (.putfield idx, 3))
    (k : ∀ (H1 : Heap) (locs1 : List Loc), va_P D cl (ws.set q (ad q, .inr (ci, fs.set j (.int y)))) H1 → va_D A (ws.set q (ad q, .inr (ci, fs.set j (.int y)))) → va_S A H0 H1 locs1 → W p l e R s m args below meth c H1 locs1 ce sl Q (F0 m (pc + 3) ls rest)) : W p l e R s m args below meth c H locs ce sl Q (F0 m pc ls (.int y :: .ref (ad q) :: rest)) := by
  obtain ⟨C, T, N, ty0, f1, f2, f3, f4, f5, f6, f7, f8, f9, f10⟩ := hf
  have ht : ty0 j = .int := f8 rfl
  have n1 : narrow (ty0 j) (.int y) = .int y := by rw [ht]; rfl
  have n2 : fits (ty0 j) (.int y) = true := by rw [ht]; rfl
  rcases f6 with f6 | ⟨host, f6⟩
  · exact va_put hx hb f3 (fun w hw => hw) ty0 f4 f5 hown hK hP hD hS q c1 f1 j f2 f6 (fun x h => h) f7 (f4 j f2) n1 n2 hl hd k
  · exact va_putN hx hb f3 (fun w hw => hw) ty0 f4 f5 hown hK hP hD hS q c1 f1 j f2 f6 (fun x h => h) f7 (f4 j f2) n1 n2 hl hd k
theorem zst1_ne {L : List zAV} {i j : Nat} {a : zAV} (h1 : j ≠ i) (h2 : j + 1 ≠ i) : (zst1 L i a)[j]? = L[j]? := by
  unfold zst1
  rw [List.getElem?_set_ne (Ne.symm h1)]
  cases i with
  | zero => rfl
  | succ i =>
    unfold zkill
    simp only
    split
    · exact List.getElem?_set_ne (fun q => h2 (by omega))
    · rfl
/-- signs[at], then numbers[at] -/
theorem zpair (hx : p.tables.exec = Jvm.exec) (hb : c.code = cc) (h0 : 0 < Z.2.2 ∧ gh 0 = 0) {own : String} (hown : s.vm.findClass own = some m.cls) (hK : va_K D cl tys s) {iS iN ci jS jN x nr r2 ni i2 t6 t7 dS d2 : Nat} {kr r3 ki i3 eS : Int} {fts : List zFT}
    (d0 : decode cc pc = .ok (.aload_n 0, 1)) (d1 : decode cc (pc + 1) = .ok (.getfield iS, 3)) (d2' : decode cc (pc + 4) = .ok (.iload_n 3, 1)) (d3 : decode cc (pc + 5) = .ok (.iaload, 1)) (d4 : decode cc (pc + 6) = .ok (.istore 5, 2)) (d5 : decode cc (pc + 8) = .ok (.aload_n 0, 1)) (d6 : decode cc (pc + 9) = .ok (.getfield iN, 3)) (d7 : decode cc (pc + 12) = .ok (.iload_n 3, 1)) (d8 : decode cc (pc + 13) = .ok (.iaload, 1)) (d9 : decode cc (pc + 14) = .ok (.istore 6, 2))
    (hfS : zFld cl s args own iS ci jS) (hfN : zFld cl s args own iN ci jN) (l0 : L[0]? = some (3, nr, kr, r2, r3)) (l3 : L[3]? = some (1, ni, ki, i2, i3)) (h6 : 6 < L.length) (ht : zty Z env (nr, kr) = some (0, ci, x, fts)) (hjS : fts[jS]? = some (4, (dS : Int), 0)) (hjN : fts[jN]? = some (4, ((dS + d2 : Nat) : Int), 0))
    (hZ6 : ∀ e ∈ Z.1, e.2.2 = (0, ci, x, fts) → ∀ q, e.1 ≤ q → q ≤ e.2.1 → (∃ e' ∈ Z.1, e'.1 ≤ q + dS ∧ q + dS ≤ e'.2.1 ∧ e'.2.2 = (6, t6, 61, [(d2, eS, 0)])) ∧ ∃ e' ∈ Z.1, e'.1 ≤ q + dS + d2 ∧ q + dS + d2 ≤ e'.2.1 ∧ e'.2.2 = (7, t7, 61, [])) (hbd : zbds env cd (ni, ki) 61 = true)
    (k : ∀ iv ∈ [(([(78, 78)], [(0, 7)]) : zIv × zIv), ([(63, 63)], [(0, 2147483647)]), ([(-2147483648, 62), (64, 77), (79, 2147483647)], zFull)], zWP (zG Z D cl tys A ad gh wr H0 ws0 nu0 nL) (fun H locs pc ls st => W p l e R s m args below meth c H locs ce sl Q (F0 m pc ls st)) (pc + 16) ((env ++ [iv.1]) ++ [iv.2], cd, zst1 (zst1 L 5 (1, env.length, 0, 0, 0)) 6 (1, env.length + 1, 0, 0, 0), [], fa, me)) : zWP (zG Z D cl tys A ad gh wr H0 ws0 nu0 nL) (fun H locs pc ls st => W p l e R s m args below meth c H locs ce sl Q (F0 m pc ls st)) pc (env, cd, L, [], fa, me) := by
  intro nu ls stc ws H locs hG
  obtain ⟨hH, hN, hL, hS, hF, hM⟩ := hG
  have hst : stc = [] := List.length_eq_zero_iff.mp hS.len.symm
  subst hst
  obtain ⟨v0, g0, q, rfl, hq⟩ := hL.2.2.2 0 _ l0 (by simp)
  obtain ⟨v3, g3, i, rfl, hi⟩ := hL.2.2.2 3 _ l3 (by simp)
  obtain ⟨e0, he0, z1, z2, z3⟩ := zty_ok ht hN.1 hq
  have hc := hH.2.2.2.1 e0 he0 q z1 z2
  rw [z3] at hc
  obtain ⟨fs, c1, c2, c3⟩ := hc
  have lS : jS < fs.length := by rw [c2]; exact (List.getElem?_eq_some_iff.mp hjS).1
  have lN : jN < fs.length := by rw [c2]; exact (List.getElem?_eq_some_iff.mp hjN).1
  have vS : fs[jS]? = some (.ref (ad (q + dS))) := by
    have h1 := List.getElem?_eq_getElem lS
    have h2 : fs[jS] = .ref (ad (q + (dS : Int).toNat)) := c3 jS _ _ hjS h1
    rw [h1, h2]
    rfl
  have vN : fs[jN]? = some (.ref (ad (q + dS + d2))) := by
    have h1 := List.getElem?_eq_getElem lN
    have h2 : fs[jN] = .ref (ad (q + (((dS + d2 : Nat) : Int)).toNat)) := c3 jN _ _ hjN h1
    rw [h1, h2, Int.toNat_natCast, Nat.add_assoc]
  obtain ⟨⟨e6, he6, y1, y2, y3⟩, e7, he7, x1, x2, x3⟩ := hZ6 e0 he0 z3 q z1 z2
  have h6c := hH.2.2.2.1 e6 he6 _ y1 y2
  have h7c := hH.2.2.2.1 e7 he7 _ x1 x2
  rw [y3] at h6c
  rw [x3] at h7c
  obtain ⟨cA, cB, f, g, w1, w2, w3, w4, w5⟩ := h6c
  obtain ⟨cC, g', u1, u2⟩ := h7c
  have w3 : ws[q + dS + d2]? = some (ad (q + dS + d2), .inl (cB, 61, .inl g)) := w3
  rw [w3] at u1
  have hcc : cC = cB := by
    injection u1 with u1
    injection u1 with _ u1
    injection u1 with u1
    injection u1 with u1 _
    exact u1.symm
  rw [hcc] at u2
  obtain ⟨b1, b2, b3⟩ := zbds_ok (i := (ni, ki)) hbd (hN.z0 h0) hN.1 hN.2.1 hi
  have hTI := w4 _ b2
  have hll : L.length = nL := hL.2.1
  have h5 : 5 < nL := by omega
  have h6' : 6 < nL := by omega
  refine lv_aload_n hx hb d0 rfl g0 ?_
  refine zr_get hx hb hown hK hfS hH.1 c1 vS d1 ?_
  refine lv_iload_n hx hb d2' rfl g3 ?_
  refine va_iald hx hb hK hH.1 (q + dS) t6 w1 w2 b1 d3 ?_
  refine lv_istore hx hb d4 (zlv_has hL.1 hL.2.2.1) h5 rfl (fun ls1 hl1 => ?_)
  have hLa := (hL.app (t := [(f i.toNatClampNeg).toInt])).app (t := [(g i.toNatClampNeg).toInt])
  have zA : zV ((nu ++ [(f i.toNatClampNeg).toInt]) ++ [(g i.toNatClampNeg).toInt]) env.length 0 (f i.toNatClampNeg).toInt := (zV.new hN.1 _).app
  have hL1 := hLa.st1 h5 (a := (1, env.length, 0, 0, 0)) (v := .int (f i.toNatClampNeg)) ⟨_, rfl, zA⟩ hl1
  obtain ⟨v0', g0', q', rfl, hq'⟩ := hL1.2.2.2 0 (3, nr, kr, r2, r3) (by rw [zst1_ne (by decide) (by decide)]; exact l0) (by simp)
  have eq' : q' = q := by
    have h1 := hq'.eq (hq.app.app)
    omega
  subst eq'
  obtain ⟨v3', g3', i', rfl, hi'⟩ := hL1.2.2.2 3 (1, ni, ki, i2, i3) (by rw [zst1_ne (by decide) (by decide)]; exact l3) (by simp)
  have ei : i' = i := by
    have h1 := hi'.eq (hi.app.app)
    exact Int32.toInt_inj.mp h1
  subst ei
  refine lv_aload_n hx hb d5 rfl g0' ?_
  refine zr_get hx hb hown hK hfN hH.1 c1 vN d6 ?_
  refine lv_iload_n hx hb d7 rfl g3' ?_
  refine va_iald hx hb hK hH.1 (q' + dS + d2) t7 w3 u2 b1 d8 ?_
  refine lv_istore hx hb d9 (zlv_has hL1.1 hL1.2.2.1) h6' rfl (fun ls2 hl2 => ?_)
  have zB : zV ((nu ++ [(f i'.toNatClampNeg).toInt]) ++ [(g i'.toNatClampNeg).toInt]) (env.length + 1) 0 (g i'.toNatClampNeg).toInt := by
    refine ⟨(g i'.toNatClampNeg).toInt, ?_, by omega⟩
    have hnl : nu.length = env.length := hN.1.1
    rw [List.getElem?_append_right (by rw [List.length_append, hnl]; simp)]
    rw [List.length_append, hnl]
    simp
  have hL2 := hL1.st1 h6' (a := (1, env.length + 1, 0, 0, 0)) (v := .int (g i'.toNatClampNeg)) ⟨_, rfl, zB⟩ hl2
  have fin : ∀ iv ∈ [(([(78, 78)], [(0, 7)]) : zIv × zIv), ([(63, 63)], [(0, 2147483647)]), ([(-2147483648, 62), (64, 77), (79, 2147483647)], zFull)], zInIv (f i'.toNatClampNeg).toInt iv.1 → zInIv (g i'.toNatClampNeg).toInt iv.2 → W p l e R s m args below meth c H locs ce sl Q (F0 m (pc + 16) ls2 []) := fun iv hiv a1 a2 =>
    k iv hiv _ ls2 [] ws H locs ⟨hH, (hN.push a1).push a2, hL2, trivial, hF.app.app, hM.app.app⟩
  have mx := zFull_in (f i'.toNatClampNeg)
  obtain ⟨pf, hpf, m1, m2⟩ := mx
  have hpf : pf = (-2147483648, 2147483647) := by
    have := hpf
    unfold zFull at this
    exact List.mem_singleton.mp this
  subst hpf
  have mg := zFull_in (g i'.toNatClampNeg)
  obtain ⟨pg, hpg, m3, m4⟩ := id mg
  have hpg : pg = (-2147483648, 2147483647) := by
    have := hpg
    unfold zFull at this
    exact List.mem_singleton.mp this
  subst hpg
  simp only at m1 m2 m3 m4
  by_cases h78 : (f i'.toNatClampNeg).toInt = 78
  · refine fin _ (List.mem_cons_self) ⟨_, List.mem_cons_self, by simp only; omega, by simp only; omega⟩ ⟨_, List.mem_cons_self, (hTI.1 h78).1, (hTI.1 h78).2⟩
  · by_cases h63 : (f i'.toNatClampNeg).toInt = 63
    · exact fin _ (List.mem_cons_of_mem _ List.mem_cons_self) ⟨_, List.mem_cons_self, by simp only; omega, by simp only; omega⟩ ⟨_, List.mem_cons_self, hTI.2 h63, by simp only; omega⟩
    · refine fin _ (List.mem_cons_of_mem _ (List.mem_cons_of_mem _ List.mem_cons_self)) ?_ mg
      rcases Int.lt_or_le (f i'.toNatClampNeg).toInt 63 with h1 | h1
      · exact ⟨_, List.mem_cons_self, m1, by simp only; omega⟩
      · rcases Int.lt_or_le (f i'.toNatClampNeg).toInt 78 with h2 | h2
        · exact ⟨_, List.mem_cons_of_mem _ List.mem_cons_self, by simp only; omega, by simp only; omega⟩
        · exact ⟨_, List.mem_cons_of_mem _ (List.mem_cons_of_mem _ List.mem_cons_self), by simp only; omega, m2⟩
end ZHD
