/-! THE LAW'S LOOP -/
def zgok (gh : Nat → Int) : Prop := gh 0 = 0 ∧ (0 ≤ gh 1 ∧ gh 1 ≤ 40) ∧ gh 2 = -1 ∧ gh 3 = 10
def znuL (gh : Nat → Int) (L i : Nat) (xs : Nat → Int32) : List Int := [gh 0, gh 1, gh 2, gh 3, (L : Int), (i : Int), (xs (i + 0)).toInt, (xs (i + 1)).toInt, (xs (i + 2)).toInt, (xs (i + 3)).toInt, (xs (i + 4)).toInt, (xs (i + 5)).toInt]
def zDK0 (ws : va_W) : Prop := ∃ dn kp : Int32, zfv ws 90 5 = some (.int dn) ∧ zfv ws 90 4 = some (.int kp) ∧ 0 ≤ dn.toInt ∧ dn.toInt ≤ kp.toInt ∧ kp.toInt ≤ 40
def zRel (qa ja qb jb : Nat) (lo hi : Int) (ws : va_W) : Prop := ∃ x : Int32, zfv ws qa ja = some (.int x) ∧ zfv ws qb jb = some (.int x) ∧ lo ≤ x.toInt ∧ x.toInt ≤ hi
def zDK (ws : va_W) : Prop := zDK0 ws ∧ zRel 6 8 90 38 0 20 ws
theorem zfullI (x : Int32) : zInIv x.toInt [(-2147483648, 2147483647)] := zFull_in x
section ZLP
variable {p : Program} {l : Launch} {e : Env} {s : State} {m : MethodId} {below : List Frame} {meth : Method} {c : Code} {b L : Nat} {xs : Nat → Int32} {D : va_G} {tys : List (ClassId × FieldType)} {A : Nat → Prop} {ad : Nat → Nat} {Q : State → Prop} {ce sl : Nat}
theorem zlawX (C0 : lw_At p s m meth c b L xs) (hK : va_K D zpcl tys s) (hro : zpRO ad A s s.heap) {CS : List zC} (hCS : ∀ C ∈ CS, zMet l zpTs zpcl zpZ zpRO (zKof zpMT C)) {gh : Nat → Int} (h0 : gh 0 = 0) {nuE : List Int} (hlen : nuE.length = 12) (hcs : ce ≤ room_1.cells ∧ sl ≤ room_1.slots) (ws0 : va_W) : zCtx p l e room_1 s m #[Value.ref b] below meth c code "PushedInLaw" 4 zpTs zpRO zpcl zpZ zpRS zpPL zpMT CS zpLC D tys A ad gh ws0 nuE s.heap ce sl Q := by
  obtain ⟨hx, hb, hr, hml, hown, hts0, hX, hbl, hlocks, -⟩ := C0
  have hts : ∀ w ∈ zpTs, w.before #[Value.ref b] s = true := fun w hw => hts0 w (List.mem_filter.mp hw).1
  obtain ⟨q1, q2, q3, q4, q5, q6⟩ := zpKL
  refine ⟨⟨hx, hb, ⟨by decide, h0⟩, hml, rfl, hown⟩, ⟨hts, zTs_good, hK, zROx_ok, hro, zpDj, hlocks⟩, ⟨hlen.symm, ⟨Nat.le_refl _, Nat.le_refl _⟩⟩, ⟨fun f hf => ?_, fun f hf h2 => ?_, fun q hq => ⟨(q2 q hq).1, (q2 q hq).2.1, hts _ (q2 q hq).2.2⟩, fun q hq => ⟨(q3 q hq).1, (q3 q hq).2.1, hts _ (q3 q hq).2.2⟩, fun q hq => ?_⟩, fun q hq pc H locs ls rest hd hS kk => ?_, fun q hq pc H locs ls rest hd hS kk => ?_, fun q hq h3 => absurd h3 ((by decide : ∀ q ∈ zpPL.2.2.2.1, q.2.1 ≠ 3) q hq), fun i tb hi pc H locs ls rest x hd hS hin kk => ?_, hCS, hcs, fun nu0 rc2 pc len sg su hE2 hz d0 d1 d2 => by rw [zpLC, zi_ret_nil] at hz; cases hz⟩
  · cases hf
  · cases hf
  · obtain ⟨g1, g2, g3, -, g4⟩ := q4 q hq
    refine ⟨g1, g2, fun z Cc hCc => ?_, g4⟩
    obtain ⟨k1, host, k2⟩ := g3 z Cc hCc
    exact ⟨k1, host, k2 ad A s s.heap hro⟩
  · exact q5 q hq p l e _ s m _ below meth c _ _ A ad pc H locs ls rest _ _ hx hb hown hts hro hd hS kk
  · exact q6 q hq p l e _ s m _ below meth c _ _ A ad pc H locs ls rest _ _ hx hb hown hts hro hd hS kk
  · exact zpHyp.2.2.1 i tb hi p l e _ s m _ below meth c _ _ A ad pc H locs ls rest _ _ x hx hb hro hd hS hin kk
/-- from a stop on -/
def zStop (p : Program) (l : Launch) (e : Env) (s : State) (m : MethodId) (below : List Frame) (meth : Method) (c : Code) (b L : Nat) (xs : Nat → Int32) (D : va_G) (tys : List (ClassId × FieldType)) (A : Nat → Prop) (ad : Nat → Nat) (Q : State → Prop) (ce sl i pc : Nat) : Prop := ∀ (gh : Nat → Int), zgok gh → ∀ (ws0 : va_W) (u : List Int) (ls : Array Slot) (st : List Value) (ws : va_W) (H : Heap) (locs : List Loc), zG zpZ D zpcl tys A ad gh zpLW s.heap ws0 (znuL gh L i xs ++ u) 4 zpLS (znuL gh L i xs ++ u) ls st ws H locs → W p l e room_1 s m #[Value.ref b] below meth c H locs ce sl Q (F0 m pc ls st)
theorem zseg (C0 : lw_At p s m meth c b L xs) (hK : va_K D zpcl tys s) (hro : zpRO ad A s s.heap) (had : ad 3000 = b) (hbA : ¬ A b) (hL : L ≤ 384) {i : Nat} (hi : i + 5 < L) (hcs : ce ≤ room_1.cells ∧ sl ≤ room_1.slots) {CS : List zC} (hCS : ∀ C ∈ CS, zMet l zpTs zpcl zpZ zpRO (zKof zpMT C)) {ann : zAnn} {f pc : Nat} (hr : zrunL zpZ zpRS zpPL zpMT CS zpLC code ann f pc zpLS = true) (hann : ∀ a ∈ ann, a.2.1 = zpLT ∧ zStop p l e s m below meth c b L xs D tys A ad Q ce sl i a.1) : zStop p l e s m below meth c b L xs D tys A ad Q ce sl i pc := by
  intro gh hg ws0 u ls st ws H locs hG
  have X := zlawX (p := p) (l := l) (e := e) (below := below) (Q := Q) (CS := CS) C0 hK hro hCS (gh := gh) hg.1 (nuE := znuL gh L i xs) rfl hcs ws0
  obtain ⟨hx, hb, hr', hml, hown, hts0, hX, hbl, hlocks, -⟩ := C0
  have hGE : ∀ g, g < zpZ.2.2 → (znuL gh L i xs)[g]? = some (gh g) := fun g h4 => by
    have h4 : g < 4 := h4
    match g, h4 with
    | 0, _ => rfl
    | 1, _ => rfl
    | 2, _ => rfl
    | 3, _ => rfl
  refine zrunL_ok X hGE ⟨u, rfl⟩ (fun a ha nu' hE _ ls st ws H locs hG => ?_) (Ln := L) (i0 := i) (xs := xs) (by rw [had]; exact hX) (by rw [had]; exact hbl) (by rw [had]; exact hbA) rfl hi hL (fun k hk => ?_) f pc _ hr _ ls st ws H locs hG
  · obtain ⟨u', rfl⟩ := hE
    obtain ⟨h1, h2⟩ := hann a ha
    rw [h1] at hG
    exact h2 gh hg ws0 u' ls st ws H locs hG
  · match k, hk with
    | 0, _ => rfl
    | 1, _ => rfl
    | 2, _ => rfl
    | 3, _ => rfl
    | 4, _ => rfl
    | 5, _ => rfl
/-- the stop's state, out of the world -/
theorem zstop_G {gh : Nat → Int} (hg : zgok gh) (had : ad 3000 = b) (hL : L ≤ 384) {i : Nat} (hi : i + 5 < L) {ls : Array Slot} {ws : va_W} {H : Heap} {locs : List Loc} (hl : lv_has ls 4 [(3, .int (Int32.ofNat i)), (2, .ref (ad 90)), (1, .ref (ad 0)), (0, .ref b)]) (hP : va_P D zpcl ws H) (hD : va_D A ws) (hS : va_S A s.heap H locs) (hW : zW zpZ ad gh tys ws) (hDK : zDK ws) : ∃ u, zG zpZ D zpcl tys A ad gh zpLW s.heap ws (znuL gh L i xs ++ u) 4 zpLS (znuL gh L i xs ++ u) ls [] ws H locs := by
  obtain ⟨⟨dn, kp, k1, k2, k3, k4, k5⟩, ⟨x0, r0a, r0b, r0c, r0d⟩⟩ := hDK
  obtain ⟨g0, g1, g2, g3⟩ := hg
  have hi3 : (Int32.ofNat i).toInt = (i : Int) := Int32.toInt_ofNat_of_lt (by omega)
  refine ⟨[dn.toInt, kp.toInt, x0.toInt], ⟨hP, hD, hS, hW, fun _ _ _ => rfl⟩, ⟨⟨rfl, fun j iv hj => ?_⟩, fun q hq => ?_, fun g h4 => ?_, ⟨[], by rw [List.append_nil]⟩⟩, ⟨hl.1, rfl, hl.2.1, fun j a hj ha => ?_⟩, trivial, fun f hf => ?_, fun q hq => by cases hq⟩
  · match j, hj with
    | 0, hj => cases hj; exact ⟨_, rfl, zin1 (by omega) (by omega)⟩
    | 1, hj => cases hj; exact ⟨_, rfl, zin1 (by omega) (by omega)⟩
    | 2, hj => cases hj; exact ⟨_, rfl, zin1 (by omega) (by omega)⟩
    | 3, hj => cases hj; exact ⟨_, rfl, zin1 (by omega) (by omega)⟩
    | 4, hj => cases hj; exact ⟨_, rfl, zin1 (by omega) (by omega)⟩
    | 5, hj => cases hj; exact ⟨_, rfl, zin1 (by omega) (by omega)⟩
    | 6, hj => cases hj; exact ⟨_, rfl, zfullI _⟩
    | 7, hj => cases hj; exact ⟨_, rfl, zfullI _⟩
    | 8, hj => cases hj; exact ⟨_, rfl, zfullI _⟩
    | 9, hj => cases hj; exact ⟨_, rfl, zfullI _⟩
    | 10, hj => cases hj; exact ⟨_, rfl, zfullI _⟩
    | 11, hj => cases hj; exact ⟨_, rfl, zfullI _⟩
    | 12, hj => cases hj; exact ⟨_, rfl, zin1 (by omega) (by omega)⟩
    | 13, hj => cases hj; exact ⟨_, rfl, zin1 (by omega) (by omega)⟩
    | 14, hj => cases hj; exact ⟨_, rfl, zin1 (by omega) (by omega)⟩
    | n + 15, hj => cases hj
  · cases List.mem_singleton.mp hq
    exact ⟨dn.toInt, kp.toInt, rfl, rfl, by show dn.toInt ≤ kp.toInt + 0; omega⟩
  · have h4 : g < 4 := h4
    match g, h4 with
    | 0, _ => rfl
    | 1, _ => rfl
    | 2, _ => rfl
    | 3, _ => rfl
  · match j, hj with
    | 0, hj => cases hj; exact ⟨_, lv_at hl 3 rfl, 3000, by rw [had], gh 0, rfl, by rw [g0]; rfl⟩
    | 1, hj => cases hj; exact ⟨_, lv_at hl 2 rfl, 0, rfl, gh 0, rfl, by rw [g0]; rfl⟩
    | 2, hj => cases hj; exact ⟨_, lv_at hl 1 rfl, 90, rfl, gh 0, rfl, by rw [g0]; rfl⟩
    | 3, hj => cases hj; exact ⟨_, lv_at hl 0 rfl, _, rfl, (i : Int), rfl, by rw [hi3]; omega⟩
    | n + 4, hj => cases hj
  · rcases List.mem_cons.mp hf with rfl | hf
    · exact ⟨90, .int dn, ⟨gh 0, rfl, by rw [g0]; rfl⟩, k1, dn, rfl, dn.toInt, rfl, by omega⟩
    rcases List.mem_cons.mp hf with rfl | hf
    · exact ⟨90, .int kp, ⟨gh 0, rfl, by rw [g0]; rfl⟩, k2, kp, rfl, kp.toInt, rfl, by omega⟩
    rcases List.mem_cons.mp hf with rfl | hf
    · exact ⟨6, .int x0, ⟨gh 0, rfl, by rw [g0]; rfl⟩, r0a, x0, rfl, x0.toInt, rfl, by omega⟩
    rcases List.mem_cons.mp hf with rfl | hf
    · exact ⟨90, .int x0, ⟨gh 0, rfl, by rw [g0]; rfl⟩, r0b, x0, rfl, x0.toInt, rfl, by omega⟩
    cases hf
/-- and back -/
theorem zstop_of {gh : Nat → Int} (hg : zgok gh) (had : ad 3000 = b) {i : Nat} (hi4 : i < 400) {ws0 ws : va_W} {u : List Int} {ls : Array Slot} {st : List Value} {H : Heap} {locs : List Loc} (hG : zG zpZ D zpcl tys A ad gh zpLW s.heap ws0 (znuL gh L i xs ++ u) 4 zpLS (znuL gh L i xs ++ u) ls st ws H locs) : st = [] ∧ lv_has ls 4 [(3, .int (Int32.ofNat i)), (2, .ref (ad 90)), (1, .ref (ad 0)), (0, .ref b)] ∧ va_P D zpcl ws H ∧ va_D A ws ∧ va_S A s.heap H locs ∧ zW zpZ ad gh tys ws ∧ zDK ws := by
  obtain ⟨hH, hN, hL, hS, hF, hM⟩ := hG
  have hst : st = [] := List.length_eq_zero_iff.mp hS.len.symm
  have z0' : ∀ (z : Int), (znuL gh L i xs ++ u)[0]? = some z → z = 0 := fun z hz => by
    have hz : some (gh 0) = some z := hz
    rw [hg.1] at hz
    exact (Option.some.inj hz).symm
  have rf : ∀ (j : Nat) (k : Int), zpLS.2.2.1[j]? = some (3, 0, k, 0, 0) → 0 ≤ k → ls[j]? = some (.val (.ref (ad k.toNat))) := fun j k hj hk => by
    obtain ⟨v, v1, q, rfl, z, z1, z2⟩ := hL.2.2.2 j _ hj (by simp)
    have := z0' z z1
    rw [v1]
    congr 4
    omega
  obtain ⟨v3, v31, x3, rfl, z, z1, z2⟩ := hL.2.2.2 3 (1, 5, 0, 0, 0) rfl (by simp)
  have z1 : some (i : Int) = some z := z1
  cases z1
  have ex : x3 = Int32.ofNat i := Int32.toInt_inj.mp (by rw [Int32.toInt_ofNat_of_lt (by omega)]; omega)
  subst ex
  refine ⟨hst, ⟨hL.1, hL.2.2.1, fun q hq => ?_⟩, hH.1, hH.2.1, hH.2.2.1, hH.2.2.2.1, ?_⟩
  · simp only [List.mem_cons, List.not_mem_nil, or_false] at hq
    rcases hq with rfl | rfl | rfl | rfl
    · exact v31
    · exact rf 2 90 rfl (by decide)
    · exact rf 1 0 rfl (by decide)
    · have := rf 0 3000 rfl (by decide)
      rw [← had]
      exact this
  · obtain ⟨q1, v1, a1, a2, dn, rfl, a3⟩ := hF (0, 90, 5, (1, 12, 0, 0, 0)) List.mem_cons_self
    obtain ⟨q2, v2, b1, b2, kp, rfl, b3⟩ := hF (0, 90, 4, (1, 13, 0, 0, 0)) (List.mem_cons_of_mem _ List.mem_cons_self)
    have e1 : q1 = 90 := by
      obtain ⟨z, y1, y2⟩ := a1
      have := z0' z y1
      simp only at y2
      omega
    have e2 : q2 = 90 := by
      obtain ⟨z, y1, y2⟩ := b1
      have := z0' z y1
      simp only at y2
      omega
    subst e1
    subst e2
    have c1 := a3.bd hN.1
    have c2 := b3.bd hN.1
    have lo12 : zlo zpLS.1 12 = 0 := by decide
    have hi13 : zhi zpLS.1 13 = 40 := by decide
    simp only [lo12] at c1
    simp only [hi13] at c2
    obtain ⟨x, y, y1, y2, y3⟩ := hN.2.1 (12, 13, 0) List.mem_cons_self
    obtain ⟨za, za1, za2⟩ := a3
    obtain ⟨zb, zb1, zb2⟩ := b3
    have t1 : za = x := Option.some.inj (za1.symm.trans y1)
    have t2 : zb = y := Option.some.inj (zb1.symm.trans y2)
    have y3 : x ≤ y + 0 := y3
    have hrel0 : zRel 6 8 90 38 0 20 ws := by
      obtain ⟨q1, v1, a1, a2, xa, rfl, a3⟩ := hF (0, 6, 8, (1, 14, 0, 0, 0)) (List.mem_of_getElem? (i := 2) rfl)
      obtain ⟨q2, v2, b1, b2, xb, rfl, b3⟩ := hF (0, 90, 38, (1, 14, 0, 0, 0)) (List.mem_of_getElem? (i := 3) rfl)
      have e1 : q1 = 6 := by
        obtain ⟨z, y1, y2⟩ := a1
        have := z0' z y1
        simp only at y2
        omega
      have e2 : q2 = 90 := by
        obtain ⟨z, y1, y2⟩ := b1
        have := z0' z y1
        simp only at y2
        omega
      subst e1
      subst e2
      have c1 := a3.bd hN.1
      have lo1 : zlo zpLS.1 14 = 0 := by decide
      have hi1 : zhi zpLS.1 14 = 20 := by decide
      simp only [lo1, hi1] at c1
      obtain ⟨za, za1, za2⟩ := a3
      obtain ⟨zb, zb1, zb2⟩ := b3
      have t1 : za = zb := Option.some.inj (za1.symm.trans zb1)
      have ex : xb = xa := Int32.toInt_inj.mp (by omega)
      subst ex
      exact ⟨xb, a2, b2, by omega, by omega⟩
    exact ⟨⟨dn, kp, a2, b2, by omega, by omega, by omega⟩, hrel0⟩

theorem zstop_comer (C0 : lw_At p s m meth c b L xs) (hK : va_K D zpcl tys s) (hro : zpRO ad A s s.heap) (had : ad 3000 = b) (hbA : ¬ A b) (hL : L ≤ 384) {i : Nat} (hi : i + 5 < L) (hcs : ce ≤ room_1.cells ∧ sl ≤ room_1.slots) (hn : zStop p l e s m below meth c b L xs D tys A ad Q ce sl i 347) : zStop p l e s m below meth c b L xs D tys A ad Q ce sl i 342 := by
  intro gh hg ws0 u ls st ws H locs hG
  obtain ⟨rfl, hl, hP, hD, hS, hW, hDK⟩ := zstop_of hg had (by omega) hG
  have X := zlawX (p := p) (l := l) (e := e) (below := below) (Q := Q) (CS := []) C0 hK hro (fun _ h => absurd h List.not_mem_nil) (gh := gh) hg.1 (nuE := znuL gh L i xs) rfl hcs ws0
  obtain ⟨⟨hx, hb, h0, hml, hH0, hown⟩, ⟨hts, -, -, -, -, -, hlocks⟩, -, ⟨-, -, -, -, hML⟩, -⟩ := id X
  obtain ⟨-, -, -, -, -, -, hX, hbl, -, -⟩ := C0
  obtain ⟨g0, g1, g2, g3⟩ := id hg
  obtain ⟨l1, T6, N6, hcl⟩ := (hML (31, 0, zpC52.1, 0, 11) (by decide)).1 rfl zpC52 rfl
  obtain ⟨fs, c1, -, -⟩ := hW (0, 0, (0, 11, 0, [(2, 1, 1), (2, 2, 2), (2, 3, 3), (2, 4, 4), (2, 5, 5), (2, 6, 6), (2, 7, 7), (2, 8, 8), (2, 9, 9)])) (by decide) 0 (Nat.le_refl _) (Nat.le_refl _)
  have d342 : decode code 342 = .ok (.aload_n 1, 1) := by decide +kernel
  have d343 : decode code 343 = .ok (.invokevirtual 31, 3) := by decide +kernel
  have d346 : decode code 346 = .ok (.pop, 1) := by decide +kernel
  have hgn : ∀ g, g < zpZ.2.2 → ([gh 0, gh 1, gh 2, gh 3] : List Int)[g]? = some (gh g) := fun g h4 => by
    have h4 : g < 4 := h4
    match g, h4 with
    | 0, _ => rfl
    | 1, _ => rfl
    | 2, _ => rfl
    | 3, _ => rfl
  have hEnt : zEnt zpZ ad gh tys (zKof zpMT zpC52) ws [gh 0, gh 1, gh 2, gh 3] (.ref (ad 0) :: []) := by
    refine ⟨hW, ⟨rfl, fun j iv hj => ?_⟩, (fun q hq => by cases hq), hgn, ?_, rfl, (fun f hf => by cases hf), rfl⟩
    · match j, hj with
      | 0, hj => cases hj; exact ⟨_, rfl, zin1 (by omega) (by omega)⟩
      | 1, hj => cases hj; exact ⟨_, rfl, zin1 (by omega) (by omega)⟩
      | 2, hj => cases hj; exact ⟨_, rfl, zin1 (by omega) (by omega)⟩
      | 3, hj => cases hj; exact ⟨_, rfl, zin1 (by omega) (by omega)⟩
      | n + 4, hj => cases hj
    · have hAs : zall (zm ad [gh 0, gh 1, gh 2, gh 3]) [(3, 0, 0, 0, 0)] (.ref (ad 0) :: []) := ⟨⟨0, rfl, gh 0, rfl, by rw [g0]; rfl⟩, trivial⟩
      exact zlayP_ok (n := 2) hAs (by decide) (by decide)
  have hMet := zpM52 (l := l) zpHyp D tys A ad gh ws [gh 0, gh 1, gh 2, gh 3] (.ref (ad 0) :: []) h0 hEnt hD
  refine lv_aload_n hx hb d342 rfl (lv_at hl 2 rfl) ?_
  refine zr_callE (As := []) (restc := []) (n := 0) hx hb hcs hml hH0 hown hts zTs_good hK zROx_ok hro hl.1 hP hS c1 hcl rfl hMet d343 l1 ⟨Nat.le_of_ble_eq_true rfl, Nat.le_of_ble_eq_true rfl⟩ (by decide) (fun gh' nu' alt w ws1 H1 locs1 hφ hgn' halt q1 q2 q3 q4 q5 q6 => ?_)
  have halt : alt = _ := List.mem_singleton.mp halt
  subst halt
  obtain ⟨t, -, -, z3, -⟩ := q6
  obtain ⟨r, rfl⟩ : ∃ r : Value, w = some r := by
    cases w with
    | none => exact z3.elim
    | some v => exact ⟨v, rfl⟩
  obtain ⟨⟨x, rfl, -⟩, -⟩ := z3
  have hg' : zgok gh' := ⟨(hφ.2.2 0 (by decide)).trans g0, ⟨Int.le_trans g1.1 hφ.1, hφ.2.1⟩, (hφ.2.2 2 (by decide)).trans g2, (hφ.2.2 3 (by decide)).trans g3⟩
  have hun : ∀ j : Nat, zfv ws1 90 j = zfv ws 90 j := fun j => q5 90 j (fun w hw hc => by
    have h9 : ∀ w ∈ zpC52.2.2.2.2, w.2.1 < 90 := by decide
    have h8 := h9 w hw
    have h7 : ((90 : Nat) : Int) ≤ w.2.1 := hc.2.1
    omega)
  have hDK1 : zDK ws1 := by
    obtain ⟨⟨dn, kp, k1, k2, k3⟩, ⟨x0, r0a, r0b, r0c, r0d⟩⟩ := hDK
    exact ⟨⟨dn, kp, by rw [hun]; exact k1, by rw [hun]; exact k2, k3⟩, ⟨x0, by rw [q5 6 8 (fun w hw hc => absurd hc ((by decide : ∀ w ∈ zpC52.2.2.2.2, ¬ (w.1 ≤ ((6 : Nat) : Int) ∧ ((6 : Nat) : Int) ≤ w.2.1 ∧ (w.2.2.1 = 0 ∨ w.2.2.2 = 8))) w hw))]; exact r0a, by rw [hun]; exact r0b, r0c, r0d⟩⟩
  refine lv_pop hx hb d346 rfl ?_
  obtain ⟨u', hG'⟩ := zstop_G (D := D) (tys := tys) (A := A) (s := s) (xs := xs) hg' had hL hi hl q1 q2 q3 q4 hDK1
  exact hn gh' hg' ws1 u' ls [] ws1 H1 locs1 hG'

theorem zstop_comers (C0 : lw_At p s m meth c b L xs) (hK : va_K D zpcl tys s) (hro : zpRO ad A s s.heap) (had : ad 3000 = b) (hbA : ¬ A b) (hL : L ≤ 384) {i : Nat} (hi : i + 5 < L) (hcs : ce ≤ room_1.cells ∧ sl ≤ room_1.slots) (hn : zStop p l e s m below meth c b L xs D tys A ad Q ce sl i 375) : zStop p l e s m below meth c b L xs D tys A ad Q ce sl i 355 := by
  intro gh hg ws0 u ls st ws H locs hG
  obtain ⟨rfl, hl, hP, hD, hS, hW, hDK⟩ := zstop_of hg had (by omega) hG
  have X := zlawX (p := p) (l := l) (e := e) (below := below) (Q := Q) (CS := []) C0 hK hro (fun _ h => absurd h List.not_mem_nil) (gh := gh) hg.1 (nuE := znuL gh L i xs) rfl hcs ws0
  obtain ⟨⟨hx, hb, h0, hml, hH0, hown⟩, ⟨hts, -, -, -, -, -, hlocks⟩, -, ⟨-, -, -, -, hML⟩, -⟩ := id X
  obtain ⟨-, -, -, -, -, -, hX, hbl, -, -⟩ := C0
  obtain ⟨g0, g1, g2, g3⟩ := id hg
  obtain ⟨l1, T6, N6, hcl⟩ := (hML (36, 0, zpC57.1, 3, 11) (by decide)).1 rfl zpC57 rfl
  obtain ⟨fs, c1, -, -⟩ := hW (0, 0, (0, 11, 0, [(2, 1, 1), (2, 2, 2), (2, 3, 3), (2, 4, 4), (2, 5, 5), (2, 6, 6), (2, 7, 7), (2, 8, 8), (2, 9, 9)])) (by decide) 0 (Nat.le_refl _) (Nat.le_refl _)
  have d355 : decode code 355 = .ok (.aload_n 1, 1) := by decide +kernel
  have d356 : decode code 356 = .ok (.aload_n 0, 1) := by decide +kernel
  have d357 : decode code 357 = .ok (.iload_n 3, 1) := by decide +kernel
  have d358 : decode code 358 = .ok (.iconst 1, 1) := by decide +kernel
  have d359 : decode code 359 = .ok (.iadd, 1) := by decide +kernel
  have d360 : decode code 360 = .ok (.iaload, 1) := by decide +kernel
  have d361 : decode code 361 = .ok (.aload_n 0, 1) := by decide +kernel
  have d362 : decode code 362 = .ok (.iload_n 3, 1) := by decide +kernel
  have d363 : decode code 363 = .ok (.iconst 2, 1) := by decide +kernel
  have d364 : decode code 364 = .ok (.iadd, 1) := by decide +kernel
  have d365 : decode code 365 = .ok (.iaload, 1) := by decide +kernel
  have d366 : decode code 366 = .ok (.aload_n 0, 1) := by decide +kernel
  have d367 : decode code 367 = .ok (.iload_n 3, 1) := by decide +kernel
  have d368 : decode code 368 = .ok (.iconst 3, 1) := by decide +kernel
  have d369 : decode code 369 = .ok (.iadd, 1) := by decide +kernel
  have d370 : decode code 370 = .ok (.iaload, 1) := by decide +kernel
  have d371 : decode code 371 = .ok (.invokevirtual 36, 3) := by decide +kernel
  have d374 : decode code 374 = .ok (.pop, 1) := by decide +kernel
  have hgn : ∀ g, g < zpZ.2.2 → ([gh 0, gh 1, gh 2, gh 3, (xs (i + 1)).toInt, (xs (i + 2)).toInt, (xs (i + 3)).toInt] : List Int)[g]? = some (gh g) := fun g h4 => by
    have h4 : g < 4 := h4
    match g, h4 with
    | 0, _ => rfl
    | 1, _ => rfl
    | 2, _ => rfl
    | 3, _ => rfl
  have hEnt : zEnt zpZ ad gh tys (zKof zpMT zpC57) ws [gh 0, gh 1, gh 2, gh 3, (xs (i + 1)).toInt, (xs (i + 2)).toInt, (xs (i + 3)).toInt] (.ref (ad 0) :: [.int (xs (i + 1)), .int (xs (i + 2)), .int (xs (i + 3))]) := by
    refine ⟨hW, ⟨rfl, fun j iv hj => ?_⟩, (fun q hq => by cases hq), hgn, ?_, rfl, (fun f hf => by cases hf), rfl⟩
    · match j, hj with
      | 0, hj => cases hj; exact ⟨_, rfl, zin1 (by omega) (by omega)⟩
      | 1, hj => cases hj; exact ⟨_, rfl, zin1 (by omega) (by omega)⟩
      | 2, hj => cases hj; exact ⟨_, rfl, zin1 (by omega) (by omega)⟩
      | 3, hj => cases hj; exact ⟨_, rfl, zin1 (by omega) (by omega)⟩
      | 4, hj => cases hj; exact ⟨_, rfl, zfullI _⟩
      | 5, hj => cases hj; exact ⟨_, rfl, zfullI _⟩
      | 6, hj => cases hj; exact ⟨_, rfl, zfullI _⟩
      | n + 7, hj => cases hj
    · have hAs : zall (zm ad [gh 0, gh 1, gh 2, gh 3, (xs (i + 1)).toInt, (xs (i + 2)).toInt, (xs (i + 3)).toInt]) [(3, 0, 0, 0, 0), (1, 4, 0, 0, 0), (1, 5, 0, 0, 0), (1, 6, 0, 0, 0)] (.ref (ad 0) :: [.int (xs (i + 1)), .int (xs (i + 2)), .int (xs (i + 3))]) := ⟨⟨0, rfl, gh 0, rfl, by rw [g0]; rfl⟩, ⟨_, rfl, _, rfl, by omega⟩, ⟨_, rfl, _, rfl, by omega⟩, ⟨_, rfl, _, rfl, by omega⟩, trivial⟩
      exact zlayP_ok (n := 7) hAs (by decide) (by decide)
  have hMet := zpM57 (l := l) zpHyp D tys A ad gh ws [gh 0, gh 1, gh 2, gh 3, (xs (i + 1)).toInt, (xs (i + 2)).toInt, (xs (i + 3)).toInt] (.ref (ad 0) :: [.int (xs (i + 1)), .int (xs (i + 2)), .int (xs (i + 3))]) h0 hEnt hD
  refine lv_aload_n hx hb d355 rfl (lv_at hl 2 rfl) ?_
  have e0 : (Int32.ofNat i + Int32.ofInt 1).toInt = (i : Int) + 1 := by
    rw [Int32.toInt_add, Int32.toInt_ofNat_of_lt (by omega), show (Int32.ofInt 1).toInt = 1 from rfl, Int.bmod_eq_of_le (by omega) (by omega)]
  have f0 : (Int32.ofNat i + Int32.ofInt 1).toNatClampNeg = i + 1 := by
    show (Int32.ofNat i + Int32.ofInt 1).toInt.toNat = _
    omega
  refine lv_aload_n hx hb d356 rfl (lv_at hl 3 rfl) ?_
  refine lv_iload_n hx hb d357 rfl (lv_at hl 0 rfl) ?_
  refine lv_iconst hx hb d358 rfl ?_
  refine lv_iadd hx hb d359 ?_
  refine va_sld hx hb hX hbl hbA hS (vp_in_iff.mpr ⟨by omega, by omega⟩) d360 ?_
  rw [f0]
  have e1 : (Int32.ofNat i + Int32.ofInt 2).toInt = (i : Int) + 2 := by
    rw [Int32.toInt_add, Int32.toInt_ofNat_of_lt (by omega), show (Int32.ofInt 2).toInt = 2 from rfl, Int.bmod_eq_of_le (by omega) (by omega)]
  have f1 : (Int32.ofNat i + Int32.ofInt 2).toNatClampNeg = i + 2 := by
    show (Int32.ofNat i + Int32.ofInt 2).toInt.toNat = _
    omega
  refine lv_aload_n hx hb d361 rfl (lv_at hl 3 rfl) ?_
  refine lv_iload_n hx hb d362 rfl (lv_at hl 0 rfl) ?_
  refine lv_iconst hx hb d363 rfl ?_
  refine lv_iadd hx hb d364 ?_
  refine va_sld hx hb hX hbl hbA hS (vp_in_iff.mpr ⟨by omega, by omega⟩) d365 ?_
  rw [f1]
  have e2 : (Int32.ofNat i + Int32.ofInt 3).toInt = (i : Int) + 3 := by
    rw [Int32.toInt_add, Int32.toInt_ofNat_of_lt (by omega), show (Int32.ofInt 3).toInt = 3 from rfl, Int.bmod_eq_of_le (by omega) (by omega)]
  have f2 : (Int32.ofNat i + Int32.ofInt 3).toNatClampNeg = i + 3 := by
    show (Int32.ofNat i + Int32.ofInt 3).toInt.toNat = _
    omega
  refine lv_aload_n hx hb d366 rfl (lv_at hl 3 rfl) ?_
  refine lv_iload_n hx hb d367 rfl (lv_at hl 0 rfl) ?_
  refine lv_iconst hx hb d368 rfl ?_
  refine lv_iadd hx hb d369 ?_
  refine va_sld hx hb hX hbl hbA hS (vp_in_iff.mpr ⟨by omega, by omega⟩) d370 ?_
  rw [f2]
  refine zr_callE (As := [.int (xs (i + 1)), .int (xs (i + 2)), .int (xs (i + 3))]) (restc := []) (n := 3) hx hb hcs hml hH0 hown hts zTs_good hK zROx_ok hro hl.1 hP hS c1 hcl rfl hMet d371 l1 ⟨Nat.le_of_ble_eq_true rfl, Nat.le_of_ble_eq_true rfl⟩ (by decide) (fun gh' nu' alt w ws1 H1 locs1 hφ hgn' halt q1 q2 q3 q4 q5 q6 => ?_)
  have halt : alt = _ := List.mem_singleton.mp halt
  subst halt
  obtain ⟨t, -, -, z3, -⟩ := q6
  obtain ⟨r, rfl⟩ : ∃ r : Value, w = some r := by
    cases w with
    | none => exact z3.elim
    | some v => exact ⟨v, rfl⟩
  obtain ⟨⟨x, rfl, -⟩, -⟩ := z3
  have hg' : zgok gh' := ⟨(hφ.2.2 0 (by decide)).trans g0, ⟨Int.le_trans g1.1 hφ.1, hφ.2.1⟩, (hφ.2.2 2 (by decide)).trans g2, (hφ.2.2 3 (by decide)).trans g3⟩
  have hun : ∀ j : Nat, zfv ws1 90 j = zfv ws 90 j := fun j => q5 90 j (fun w hw hc => by
    have h9 : ∀ w ∈ zpC57.2.2.2.2, w.2.1 < 90 := by decide
    have h8 := h9 w hw
    have h7 : ((90 : Nat) : Int) ≤ w.2.1 := hc.2.1
    omega)
  have hDK1 : zDK ws1 := by
    obtain ⟨⟨dn, kp, k1, k2, k3⟩, ⟨x0, r0a, r0b, r0c, r0d⟩⟩ := hDK
    exact ⟨⟨dn, kp, by rw [hun]; exact k1, by rw [hun]; exact k2, k3⟩, ⟨x0, by rw [q5 6 8 (fun w hw hc => absurd hc ((by decide : ∀ w ∈ zpC57.2.2.2.2, ¬ (w.1 ≤ ((6 : Nat) : Int) ∧ ((6 : Nat) : Int) ≤ w.2.1 ∧ (w.2.2.1 = 0 ∨ w.2.2.2 = 8))) w hw))]; exact r0a, by rw [hun]; exact r0b, r0c, r0d⟩⟩
  refine lv_pop hx hb d374 rfl ?_
  obtain ⟨u', hG'⟩ := zstop_G (D := D) (tys := tys) (A := A) (s := s) (xs := xs) hg' had hL hi hl q1 q2 q3 q4 hDK1
  exact hn gh' hg' ws1 u' ls [] ws1 H1 locs1 hG'

theorem zlaw_loop (C0 : lw_At p s m meth c b L xs) (hK : va_K D zpcl tys s) (hro : zpRO ad A s s.heap) (had : ad 3000 = b) (hbA : ¬ A b) (hA : ∀ q, A q → s.heap.size ≤ q) (hL : L ≤ 384) (hcs : ce ≤ 600000 ∧ sl ≤ 7302250) (hcmp : zrunL zpZ zpRS zpPL zpMT [zpC86, zpC537] zpLC code zpLX 400 695 zpLS = true) : ∀ (n i : Nat) (gh : Nat → Int) (ls : Array Slot) (ws : va_W) (H : Heap) (locs : List Loc), 390 - i = n → i ≤ 390 → zgok gh → lv_has ls 4 [(3, .int (Int32.ofNat i)), (2, .ref (ad 90)), (1, .ref (ad 0)), (0, .ref b)] → va_P D zpcl ws H → va_D A ws → va_S A s.heap H locs → zW zpZ ad gh tys ws → zDK ws → W p l e room_1 s m #[Value.ref b] below meth c H locs ce sl (lw_Z below #[Value.ref b] s) (F0 m 18 ls []) := by
  intro n
  induction n using Nat.strongRecOn with
  | ind n ih =>
    intro i gh ls ws H locs hn i390 hg hl hP hD hS hW hDK
    obtain ⟨hx, hb, hr, hml, hown, hts0, hX, hbl, hlocks, -⟩ := id C0
    have hi3 : (Int32.ofNat i).toInt = (i : Int) := Int32.toInt_ofNat_of_lt (by omega)
    have hL3 : (Int32.ofNat L).toInt = (L : Int) := Int32.toInt_ofNat_of_lt (by omega)
    have e6 : (Int8.ofInt 6).toInt32.toInt = 6 := by decide
    have es : (Int32.ofNat L - (Int8.ofInt 6).toInt32).toInt = (L : Int) - 6 := by
      rw [Int32.toInt_sub, hL3, e6, Int.bmod_eq_of_le (by omega) (by omega)]
    have d18 : decode code 18 = .ok (.iload_n 3, 1) := by decide +kernel
    have d19 : decode code 19 = .ok (.aload_n 0, 1) := by decide +kernel
    have d20 : decode code 20 = .ok (.arraylength, 1) := by decide +kernel
    have d21 : decode code 21 = .ok (.bipush 6, 2) := by decide +kernel
    have d23 : decode code 23 = .ok (.isub, 1) := by decide +kernel
    have d24 : decode code 24 = .ok (.if_icmp .gt 1466, 3) := by decide +kernel
    have dR0 : decode code 1490 = .ok (.iconst 1, 1) := by decide +kernel
    have dR1 : decode code 1491 = .ok (.ireturn, 1) := by decide +kernel
    have dE : decode code 1484 = .ok (.iinc 3 6, 3) := by decide +kernel
    have dG : decode code 1487 = .ok (.goto (-1469), 3) := by decide +kernel
    refine lv_iload_n hx hb d18 rfl (lv_at hl 0 rfl) ?_
    refine lv_aload_n hx hb d19 rfl (lv_at hl 3 rfl) ?_
    refine va_slen hx hb hX hbl hbA hS d20 ?_
    refine lv_bipush hx hb d21 rfl ?_
    refine lv_isub hx hb d23 ?_
    refine lv_icmp_gt hx hb d24 (tgt := 1490) (by decide) (fun _ => ?_) (fun hgt => ?_)
    · refine lv_iconst hx hb dR0 rfl ?_
      refine va_forget (fun q hq => hA _ (hS.2.2 q hq)) ?_
      exact W.widen hcs.1 hcs.2 (lw_ret hx hb hr hlocks dR1)
    · have hi5 : i + 5 < L := by
        have h1 : ¬ (Int32.ofNat L - (Int8.ofInt 6).toInt32).toInt < (Int32.ofNat i).toInt := fun h => hgt (Int32.lt_iff_toInt_lt.mpr h)
        omega
      have hcs' : ce ≤ room_1.cells ∧ sl ≤ room_1.slots := hcs
      have sE : zStop p l e s m below meth c b L xs D tys A ad (lw_Z below #[Value.ref b] s) ce sl i 1484 := by
        intro gh hg ws0 u ls st ws H locs hG
        obtain ⟨rfl, hl, hP, hD, hS, hW, hDK⟩ := zstop_of hg had (by omega) hG
        refine lv_iinc hx hb dE hl (k := 0) rfl rfl (by decide) rfl (fun ls3 hl3 => ?_)
        refine lv_goto hx hb dG (tgt := 18) (by decide) ?_
        have hadd : Int32.ofNat i + Int32.ofInt 6 = Int32.ofNat (i + 6) := by
          apply Int32.toInt_inj.mp
          rw [Int32.toInt_add, hi3, show (Int32.ofInt 6).toInt = 6 from rfl, Int.bmod_eq_of_le (by omega) (by omega), Int32.toInt_ofNat_of_lt (by omega)]
          omega
        rw [hadd] at hl3
        exact ih (390 - (i + 6)) (by omega) (i + 6) gh ls3 ws H locs rfl (by omega) hg hl3 hP hD hS hW hDK
      have sX : ∀ a ∈ zpLX, a.2.1 = zpLT ∧ zStop p l e s m below meth c b L xs D tys A ad (lw_Z below #[Value.ref b] s) ce sl i a.1 := fun a ha => by
        cases List.mem_singleton.mp ha
        exact ⟨rfl, sE⟩

      have sb0 := zseg (p := p) (l := l) (e := e) (below := below) (Q := lw_Z below #[Value.ref b] s) C0 hK hro had hbA hL hi5 hcs' (zmets_cons (zpM458 zpHyp) zmets_nil) zpLb0 sX
      have sa0 := zseg (p := p) (l := l) (e := e) (below := below) (Q := lw_Z below #[Value.ref b] s) C0 hK hro had hbA hL hi5 hcs' (zmets_cons (zpM8 zpHyp) zmets_nil) zpLa0 (fun a ha => by cases List.mem_singleton.mp ha; exact ⟨rfl, sb0⟩)
      have sb1 := zseg (p := p) (l := l) (e := e) (below := below) (Q := lw_Z below #[Value.ref b] s) C0 hK hro had hbA hL hi5 hcs' (zmets_cons (zpM463 zpHyp) zmets_nil) zpLb1 sX
      have sa1 := zseg (p := p) (l := l) (e := e) (below := below) (Q := lw_Z below #[Value.ref b] s) C0 hK hro had hbA hL hi5 hcs' (zmets_cons (zpM17 zpHyp) zmets_nil) zpLa1 (fun a ha => by cases List.mem_singleton.mp ha; exact ⟨rfl, sb1⟩)
      have sb2 := zseg (p := p) (l := l) (e := e) (below := below) (Q := lw_Z below #[Value.ref b] s) C0 hK hro had hbA hL hi5 hcs' (zmets_cons (zpM466 zpHyp) zmets_nil) zpLb2 sX
      have sa2 := zseg (p := p) (l := l) (e := e) (below := below) (Q := lw_Z below #[Value.ref b] s) C0 hK hro had hbA hL hi5 hcs' (zmets_cons (zpM19 zpHyp) zmets_nil) zpLa2 (fun a ha => by cases List.mem_singleton.mp ha; exact ⟨rfl, sb2⟩)
      have sb3 := zseg (p := p) (l := l) (e := e) (below := below) (Q := lw_Z below #[Value.ref b] s) C0 hK hro had hbA hL hi5 hcs' (zmets_cons (zpM468 zpHyp) zmets_nil) zpLb3 sX
      have sa3 := zseg (p := p) (l := l) (e := e) (below := below) (Q := lw_Z below #[Value.ref b] s) C0 hK hro had hbA hL hi5 hcs' (zmets_cons (zpM21 zpHyp) zmets_nil) zpLa3 (fun a ha => by cases List.mem_singleton.mp ha; exact ⟨rfl, sb3⟩)
      have sb4 := zseg (p := p) (l := l) (e := e) (below := below) (Q := lw_Z below #[Value.ref b] s) C0 hK hro had hbA hL hi5 hcs' (zmets_cons (zpM502 zpHyp) zmets_nil) zpLb4 sX
      have sa4 := zstop_comer C0 hK hro had hbA hL hi5 hcs' sb4
      have sb5 := zseg (p := p) (l := l) (e := e) (below := below) (Q := lw_Z below #[Value.ref b] s) C0 hK hro had hbA hL hi5 hcs' (zmets_cons (zpM505 zpHyp) zmets_nil) zpLb5 sX
      have sa5 := zstop_comers C0 hK hro had hbA hL hi5 hcs' sb5
      have sb6 := zseg (p := p) (l := l) (e := e) (below := below) (Q := lw_Z below #[Value.ref b] s) C0 hK hro had hbA hL hi5 hcs' (zmets_cons (zpM514 zpHyp) zmets_nil) zpLb6 sX
      have sa6 := zseg (p := p) (l := l) (e := e) (below := below) (Q := lw_Z below #[Value.ref b] s) C0 hK hro had hbA hL hi5 hcs' (zmets_cons (zpM59 zpHyp) zmets_nil) zpLa6 (fun a ha => by cases List.mem_singleton.mp ha; exact ⟨rfl, sb6⟩)
      have sb7 := zseg (p := p) (l := l) (e := e) (below := below) (Q := lw_Z below #[Value.ref b] s) C0 hK hro had hbA hL hi5 hcs' (zmets_cons (zpM515 zpHyp) zmets_nil) zpLb7 sX
      have sa7 := zseg (p := p) (l := l) (e := e) (below := below) (Q := lw_Z below #[Value.ref b] s) C0 hK hro had hbA hL hi5 hcs' (zmets_cons (zpM60 zpHyp) zmets_nil) zpLa7 (fun a ha => by cases List.mem_singleton.mp ha; exact ⟨rfl, sb7⟩)
      have sb8 := zseg (p := p) (l := l) (e := e) (below := below) (Q := lw_Z below #[Value.ref b] s) C0 hK hro had hbA hL hi5 hcs' (zmets_cons (zpM517 zpHyp) zmets_nil) zpLb8 sX
      have sa8 := zseg (p := p) (l := l) (e := e) (below := below) (Q := lw_Z below #[Value.ref b] s) C0 hK hro had hbA hL hi5 hcs' (zmets_cons (zpM62 zpHyp) zmets_nil) zpLa8 (fun a ha => by cases List.mem_singleton.mp ha; exact ⟨rfl, sb8⟩)
      have sb9 := zseg (p := p) (l := l) (e := e) (below := below) (Q := lw_Z below #[Value.ref b] s) C0 hK hro had hbA hL hi5 hcs' (zmets_cons (zpM521 zpHyp) zmets_nil) zpLb9 sX
      have sa9 := zseg (p := p) (l := l) (e := e) (below := below) (Q := lw_Z below #[Value.ref b] s) C0 hK hro had hbA hL hi5 hcs' (zmets_cons (zpM66 zpHyp) zmets_nil) zpLa9 (fun a ha => by cases List.mem_singleton.mp ha; exact ⟨rfl, sb9⟩)
      have sb10 := zseg (p := p) (l := l) (e := e) (below := below) (Q := lw_Z below #[Value.ref b] s) C0 hK hro had hbA hL hi5 hcs' (zmets_cons (zpM522 zpHyp) zmets_nil) zpLb10 sX
      have sa10 := zseg (p := p) (l := l) (e := e) (below := below) (Q := lw_Z below #[Value.ref b] s) C0 hK hro had hbA hL hi5 hcs' (zmets_cons (zpM68 zpHyp) zmets_nil) zpLa10 (fun a ha => by cases List.mem_singleton.mp ha; exact ⟨rfl, sb10⟩)
      have sb11 := zseg (p := p) (l := l) (e := e) (below := below) (Q := lw_Z below #[Value.ref b] s) C0 hK hro had hbA hL hi5 hcs' (zmets_cons (zpM524 zpHyp) zmets_nil) zpLb11 sX
      have sa11 := zseg (p := p) (l := l) (e := e) (below := below) (Q := lw_Z below #[Value.ref b] s) C0 hK hro had hbA hL hi5 hcs' (zmets_cons (zpM69 zpHyp) zmets_nil) zpLa11 (fun a ha => by cases List.mem_singleton.mp ha; exact ⟨rfl, sb11⟩)
      have sb12 := zseg (p := p) (l := l) (e := e) (below := below) (Q := lw_Z below #[Value.ref b] s) C0 hK hro had hbA hL hi5 hcs' (zmets_cons (zpM526 zpHyp) zmets_nil) zpLb12 sX
      have sa12 := zseg (p := p) (l := l) (e := e) (below := below) (Q := lw_Z below #[Value.ref b] s) C0 hK hro had hbA hL hi5 hcs' (zmets_cons (zpM72 zpHyp) zmets_nil) zpLa12 (fun a ha => by cases List.mem_singleton.mp ha; exact ⟨rfl, sb12⟩)
      have sb13 := zseg (p := p) (l := l) (e := e) (below := below) (Q := lw_Z below #[Value.ref b] s) C0 hK hro had hbA hL hi5 hcs' (zmets_cons (zpM527 zpHyp) zmets_nil) zpLb13 sX
      have sa13 := zseg (p := p) (l := l) (e := e) (below := below) (Q := lw_Z below #[Value.ref b] s) C0 hK hro had hbA hL hi5 hcs' (zmets_cons (zpM74 zpHyp) zmets_nil) zpLa13 (fun a ha => by cases List.mem_singleton.mp ha; exact ⟨rfl, sb13⟩)
      have sb14 := zseg (p := p) (l := l) (e := e) (below := below) (Q := lw_Z below #[Value.ref b] s) C0 hK hro had hbA hL hi5 hcs' (zmets_cons (zpM535 zpHyp) zmets_nil) zpLb14 sX
      have sa14 := zseg (p := p) (l := l) (e := e) (below := below) (Q := lw_Z below #[Value.ref b] s) C0 hK hro had hbA hL hi5 hcs' (zmets_cons (zpM82 zpHyp) zmets_nil) zpLa14 (fun a ha => by cases List.mem_singleton.mp ha; exact ⟨rfl, sb14⟩)
      have sb16 := zseg (p := p) (l := l) (e := e) (below := below) (Q := lw_Z below #[Value.ref b] s) C0 hK hro had hbA hL hi5 hcs' (zmets_cons (zpM592 zpHyp) zmets_nil) zpLb16 sX
      have sa16 := zseg (p := p) (l := l) (e := e) (below := below) (Q := lw_Z below #[Value.ref b] s) C0 hK hro had hbA hL hi5 hcs' (zmets_cons (zpM142 zpHyp) zmets_nil) zpLa16 (fun a ha => by cases List.mem_singleton.mp ha; exact ⟨rfl, sb16⟩)
      have sb17 := zseg (p := p) (l := l) (e := e) (below := below) (Q := lw_Z below #[Value.ref b] s) C0 hK hro had hbA hL hi5 hcs' (zmets_cons (zpM597 zpHyp) zmets_nil) zpLb17 sX
      have sa17 := zseg (p := p) (l := l) (e := e) (below := below) (Q := lw_Z below #[Value.ref b] s) C0 hK hro had hbA hL hi5 hcs' (zmets_cons (zpM150 zpHyp) zmets_nil) zpLa17 (fun a ha => by cases List.mem_singleton.mp ha; exact ⟨rfl, sb17⟩)
      have sb18 := zseg (p := p) (l := l) (e := e) (below := below) (Q := lw_Z below #[Value.ref b] s) C0 hK hro had hbA hL hi5 hcs' (zmets_cons (zpM599 zpHyp) zmets_nil) zpLb18 sX
      have sa18 := zseg (p := p) (l := l) (e := e) (below := below) (Q := lw_Z below #[Value.ref b] s) C0 hK hro had hbA hL hi5 hcs' (zmets_cons (zpM154 zpHyp) zmets_nil) zpLa18 (fun a ha => by cases List.mem_singleton.mp ha; exact ⟨rfl, sb18⟩)
      have sb19 := zseg (p := p) (l := l) (e := e) (below := below) (Q := lw_Z below #[Value.ref b] s) C0 hK hro had hbA hL hi5 hcs' (zmets_cons (zpM600 zpHyp) zmets_nil) zpLb19 sX
      have sa19 := zseg (p := p) (l := l) (e := e) (below := below) (Q := lw_Z below #[Value.ref b] s) C0 hK hro had hbA hL hi5 hcs' (zmets_cons (zpM156 zpHyp) zmets_nil) zpLa19 (fun a ha => by cases List.mem_singleton.mp ha; exact ⟨rfl, sb19⟩)
      have sb20 := zseg (p := p) (l := l) (e := e) (below := below) (Q := lw_Z below #[Value.ref b] s) C0 hK hro had hbA hL hi5 hcs' (zmets_cons (zpM601 zpHyp) zmets_nil) zpLb20 sX
      have sa20 := zseg (p := p) (l := l) (e := e) (below := below) (Q := lw_Z below #[Value.ref b] s) C0 hK hro had hbA hL hi5 hcs' (zmets_cons (zpM158 zpHyp) zmets_nil) zpLa20 (fun a ha => by cases List.mem_singleton.mp ha; exact ⟨rfl, sb20⟩)
      have sb21 := zseg (p := p) (l := l) (e := e) (below := below) (Q := lw_Z below #[Value.ref b] s) C0 hK hro had hbA hL hi5 hcs' (zmets_cons (zpM602 zpHyp) zmets_nil) zpLb21 sX
      have sa21 := zseg (p := p) (l := l) (e := e) (below := below) (Q := lw_Z below #[Value.ref b] s) C0 hK hro had hbA hL hi5 hcs' (zmets_cons (zpM160 zpHyp) zmets_nil) zpLa21 (fun a ha => by cases List.mem_singleton.mp ha; exact ⟨rfl, sb21⟩)
      have sb22 := zseg (p := p) (l := l) (e := e) (below := below) (Q := lw_Z below #[Value.ref b] s) C0 hK hro had hbA hL hi5 hcs' (zmets_cons (zpM603 zpHyp) zmets_nil) zpLb22 sX
      have sa22 := zseg (p := p) (l := l) (e := e) (below := below) (Q := lw_Z below #[Value.ref b] s) C0 hK hro had hbA hL hi5 hcs' (zmets_cons (zpM164 zpHyp) zmets_nil) zpLa22 (fun a ha => by cases List.mem_singleton.mp ha; exact ⟨rfl, sb22⟩)
      have sb23 := zseg (p := p) (l := l) (e := e) (below := below) (Q := lw_Z below #[Value.ref b] s) C0 hK hro had hbA hL hi5 hcs' (zmets_cons (zpM605 zpHyp) zmets_nil) zpLb23 sX
      have sa23 := zseg (p := p) (l := l) (e := e) (below := below) (Q := lw_Z below #[Value.ref b] s) C0 hK hro had hbA hL hi5 hcs' (zmets_cons (zpM169 zpHyp) zmets_nil) zpLa23 (fun a ha => by cases List.mem_singleton.mp ha; exact ⟨rfl, sb23⟩)
      have sb24 := zseg (p := p) (l := l) (e := e) (below := below) (Q := lw_Z below #[Value.ref b] s) C0 hK hro had hbA hL hi5 hcs' (zmets_cons (zpM608 zpHyp) zmets_nil) zpLb24 sX
      have sa24 := zseg (p := p) (l := l) (e := e) (below := below) (Q := lw_Z below #[Value.ref b] s) C0 hK hro had hbA hL hi5 hcs' (zmets_cons (zpM174 zpHyp) zmets_nil) zpLa24 (fun a ha => by cases List.mem_singleton.mp ha; exact ⟨rfl, sb24⟩)
      have sb25 := zseg (p := p) (l := l) (e := e) (below := below) (Q := lw_Z below #[Value.ref b] s) C0 hK hro had hbA hL hi5 hcs' (zmets_cons (zpM609 zpHyp) zmets_nil) zpLb25 sX
      have sa25 := zseg (p := p) (l := l) (e := e) (below := below) (Q := lw_Z below #[Value.ref b] s) C0 hK hro had hbA hL hi5 hcs' (zmets_cons (zpM177 zpHyp) zmets_nil) zpLa25 (fun a ha => by cases List.mem_singleton.mp ha; exact ⟨rfl, sb25⟩)
      have sb26 := zseg (p := p) (l := l) (e := e) (below := below) (Q := lw_Z below #[Value.ref b] s) C0 hK hro had hbA hL hi5 hcs' (zmets_cons (zpM610 zpHyp) zmets_nil) zpLb26 sX
      have sa26 := zseg (p := p) (l := l) (e := e) (below := below) (Q := lw_Z below #[Value.ref b] s) C0 hK hro had hbA hL hi5 hcs' (zmets_cons (zpM179 zpHyp) zmets_nil) zpLa26 (fun a ha => by cases List.mem_singleton.mp ha; exact ⟨rfl, sb26⟩)
      have sb27 := zseg (p := p) (l := l) (e := e) (below := below) (Q := lw_Z below #[Value.ref b] s) C0 hK hro had hbA hL hi5 hcs' (zmets_cons (zpM611 zpHyp) zmets_nil) zpLb27 sX
      have sa27 := zseg (p := p) (l := l) (e := e) (below := below) (Q := lw_Z below #[Value.ref b] s) C0 hK hro had hbA hL hi5 hcs' (zmets_cons (zpM181 zpHyp) zmets_nil) zpLa27 (fun a ha => by cases List.mem_singleton.mp ha; exact ⟨rfl, sb27⟩)
      have sb28 := zseg (p := p) (l := l) (e := e) (below := below) (Q := lw_Z below #[Value.ref b] s) C0 hK hro had hbA hL hi5 hcs' (zmets_cons (zpM612 zpHyp) zmets_nil) zpLb28 sX
      have sa28 := zseg (p := p) (l := l) (e := e) (below := below) (Q := lw_Z below #[Value.ref b] s) C0 hK hro had hbA hL hi5 hcs' (zmets_cons (zpM183 zpHyp) zmets_nil) zpLa28 (fun a ha => by cases List.mem_singleton.mp ha; exact ⟨rfl, sb28⟩)
      have sb29 := zseg (p := p) (l := l) (e := e) (below := below) (Q := lw_Z below #[Value.ref b] s) C0 hK hro had hbA hL hi5 hcs' (zmets_cons (zpM625 zpHyp) zmets_nil) zpLb29 sX
      have sa29 := zseg (p := p) (l := l) (e := e) (below := below) (Q := lw_Z below #[Value.ref b] s) C0 hK hro had hbA hL hi5 hcs' (zmets_cons (zpM373 zpHyp) zmets_nil) zpLa29 (fun a ha => by cases List.mem_singleton.mp ha; exact ⟨rfl, sb29⟩)
      have sb30 := zseg (p := p) (l := l) (e := e) (below := below) (Q := lw_Z below #[Value.ref b] s) C0 hK hro had hbA hL hi5 hcs' (zmets_cons (zpM626 zpHyp) zmets_nil) zpLb30 sX
      have sa30 := zseg (p := p) (l := l) (e := e) (below := below) (Q := lw_Z below #[Value.ref b] s) C0 hK hro had hbA hL hi5 hcs' (zmets_cons (zpM375 zpHyp) zmets_nil) zpLa30 (fun a ha => by cases List.mem_singleton.mp ha; exact ⟨rfl, sb30⟩)
      have sb31 := zseg (p := p) (l := l) (e := e) (below := below) (Q := lw_Z below #[Value.ref b] s) C0 hK hro had hbA hL hi5 hcs' (zmets_cons (zpM627 zpHyp) zmets_nil) zpLb31 sX
      have sa31 := zseg (p := p) (l := l) (e := e) (below := below) (Q := lw_Z below #[Value.ref b] s) C0 hK hro had hbA hL hi5 hcs' (zmets_cons (zpM378 zpHyp) zmets_nil) zpLa31 (fun a ha => by cases List.mem_singleton.mp ha; exact ⟨rfl, sb31⟩)
      have sb32 := zseg (p := p) (l := l) (e := e) (below := below) (Q := lw_Z below #[Value.ref b] s) C0 hK hro had hbA hL hi5 hcs' (zmets_cons (zpM629 zpHyp) zmets_nil) zpLb32 sX
      have sa32 := zseg (p := p) (l := l) (e := e) (below := below) (Q := lw_Z below #[Value.ref b] s) C0 hK hro had hbA hL hi5 hcs' (zmets_cons (zpM381 zpHyp) zmets_nil) zpLa32 (fun a ha => by cases List.mem_singleton.mp ha; exact ⟨rfl, sb32⟩)
      have sb33 := zseg (p := p) (l := l) (e := e) (below := below) (Q := lw_Z below #[Value.ref b] s) C0 hK hro had hbA hL hi5 hcs' (zmets_cons (zpM632 zpHyp) zmets_nil) zpLb33 sX
      have sa33 := zseg (p := p) (l := l) (e := e) (below := below) (Q := lw_Z below #[Value.ref b] s) C0 hK hro had hbA hL hi5 hcs' (zmets_cons (zpM385 zpHyp) zmets_nil) zpLa33 (fun a ha => by cases List.mem_singleton.mp ha; exact ⟨rfl, sb33⟩)
      have sb34 := zseg (p := p) (l := l) (e := e) (below := below) (Q := lw_Z below #[Value.ref b] s) C0 hK hro had hbA hL hi5 hcs' (zmets_cons (zpM633 zpHyp) zmets_nil) zpLb34 sX
      have sa34 := zseg (p := p) (l := l) (e := e) (below := below) (Q := lw_Z below #[Value.ref b] s) C0 hK hro had hbA hL hi5 hcs' (zmets_cons (zpM386 zpHyp) zmets_nil) zpLa34 (fun a ha => by cases List.mem_singleton.mp ha; exact ⟨rfl, sb34⟩)
      have sb35 := zseg (p := p) (l := l) (e := e) (below := below) (Q := lw_Z below #[Value.ref b] s) C0 hK hro had hbA hL hi5 hcs' (zmets_cons (zpM634 zpHyp) zmets_nil) zpLb35 sX
      have sa35 := zseg (p := p) (l := l) (e := e) (below := below) (Q := lw_Z below #[Value.ref b] s) C0 hK hro had hbA hL hi5 hcs' (zmets_cons (zpM449 zpHyp) zmets_nil) zpLa35 (fun a ha => by cases List.mem_singleton.mp ha; exact ⟨rfl, sb35⟩)
      have sb36 := zseg (p := p) (l := l) (e := e) (below := below) (Q := lw_Z below #[Value.ref b] s) C0 hK hro had hbA hL hi5 hcs' (zmets_cons (zpM643 zpHyp) zmets_nil) zpLb36 sX
      have sa36 := zseg (p := p) (l := l) (e := e) (below := below) (Q := lw_Z below #[Value.ref b] s) C0 hK hro had hbA hL hi5 hcs' (zmets_cons (zpM452 zpHyp) zmets_nil) zpLa36 (fun a ha => by cases List.mem_singleton.mp ha; exact ⟨rfl, sb36⟩)
      have sb37 := zseg (p := p) (l := l) (e := e) (below := below) (Q := lw_Z below #[Value.ref b] s) C0 hK hro had hbA hL hi5 hcs' (zmets_cons (zpM644 zpHyp) zmets_nil) zpLb37 sX
      have sa37 := zseg (p := p) (l := l) (e := e) (below := below) (Q := lw_Z below #[Value.ref b] s) C0 hK hro had hbA hL hi5 hcs' (zmets_cons (zpM453 zpHyp) zmets_nil) zpLa37 (fun a ha => by cases List.mem_singleton.mp ha; exact ⟨rfl, sb37⟩)
      have sa15 := zseg (p := p) (l := l) (e := e) (below := below) (Q := lw_Z below #[Value.ref b] s) C0 hK hro had hbA hL hi5 hcs' (zmets_cons (zpM86 zpHyp) (zmets_cons (zpM537 zpHyp) zmets_nil)) hcmp sX
      have sY : ∀ a ∈ zpLY, a.2.1 = zpLT ∧ zStop p l e s m below meth c b L xs D tys A ad (lw_Z below #[Value.ref b] s) ce sl i a.1 := List.forall_mem_cons.mpr ⟨⟨rfl, sa0⟩, List.forall_mem_cons.mpr ⟨⟨rfl, sa1⟩, List.forall_mem_cons.mpr ⟨⟨rfl, sa2⟩, List.forall_mem_cons.mpr ⟨⟨rfl, sa3⟩, List.forall_mem_cons.mpr ⟨⟨rfl, sa4⟩, List.forall_mem_cons.mpr ⟨⟨rfl, sa5⟩, List.forall_mem_cons.mpr ⟨⟨rfl, sa6⟩, List.forall_mem_cons.mpr ⟨⟨rfl, sa7⟩, List.forall_mem_cons.mpr ⟨⟨rfl, sa8⟩, List.forall_mem_cons.mpr ⟨⟨rfl, sa9⟩, List.forall_mem_cons.mpr ⟨⟨rfl, sa10⟩, List.forall_mem_cons.mpr ⟨⟨rfl, sa11⟩, List.forall_mem_cons.mpr ⟨⟨rfl, sa12⟩, List.forall_mem_cons.mpr ⟨⟨rfl, sa13⟩, List.forall_mem_cons.mpr ⟨⟨rfl, sa14⟩, List.forall_mem_cons.mpr ⟨⟨rfl, sa15⟩, List.forall_mem_cons.mpr ⟨⟨rfl, sa16⟩, List.forall_mem_cons.mpr ⟨⟨rfl, sa17⟩, List.forall_mem_cons.mpr ⟨⟨rfl, sa18⟩, List.forall_mem_cons.mpr ⟨⟨rfl, sa19⟩, List.forall_mem_cons.mpr ⟨⟨rfl, sa20⟩, List.forall_mem_cons.mpr ⟨⟨rfl, sa21⟩, List.forall_mem_cons.mpr ⟨⟨rfl, sa22⟩, List.forall_mem_cons.mpr ⟨⟨rfl, sa23⟩, List.forall_mem_cons.mpr ⟨⟨rfl, sa24⟩, List.forall_mem_cons.mpr ⟨⟨rfl, sa25⟩, List.forall_mem_cons.mpr ⟨⟨rfl, sa26⟩, List.forall_mem_cons.mpr ⟨⟨rfl, sa27⟩, List.forall_mem_cons.mpr ⟨⟨rfl, sa28⟩, List.forall_mem_cons.mpr ⟨⟨rfl, sa29⟩, List.forall_mem_cons.mpr ⟨⟨rfl, sa30⟩, List.forall_mem_cons.mpr ⟨⟨rfl, sa31⟩, List.forall_mem_cons.mpr ⟨⟨rfl, sa32⟩, List.forall_mem_cons.mpr ⟨⟨rfl, sa33⟩, List.forall_mem_cons.mpr ⟨⟨rfl, sa34⟩, List.forall_mem_cons.mpr ⟨⟨rfl, sa35⟩, List.forall_mem_cons.mpr ⟨⟨rfl, sa36⟩, List.forall_mem_cons.mpr ⟨⟨rfl, sa37⟩, List.forall_mem_cons.mpr ⟨⟨rfl, sE⟩, fun _ h => absurd h List.not_mem_nil⟩⟩⟩⟩⟩⟩⟩⟩⟩⟩⟩⟩⟩⟩⟩⟩⟩⟩⟩⟩⟩⟩⟩⟩⟩⟩⟩⟩⟩⟩⟩⟩⟩⟩⟩⟩⟩⟩⟩
      have s27 := zseg (p := p) (l := l) (e := e) (below := below) (Q := lw_Z below #[Value.ref b] s) C0 hK hro had hbA hL hi5 hcs' zmets_nil zpLs sY
      obtain ⟨u, hG⟩ := zstop_G (D := D) (tys := tys) (A := A) (s := s) (xs := xs) hg had hL hi5 hl hP hD hS hW hDK
      exact s27 gh hg ws u ls [] ws H locs hG
end ZLP
