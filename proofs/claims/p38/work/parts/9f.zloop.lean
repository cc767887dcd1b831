/-! THE LAW'S LOOP, with watched numbers -/
def zgok (gh : Nat → Int) : Prop := gh 0 = 0 ∧ (0 ≤ gh 1 ∧ gh 1 ≤ 40) ∧ gh 2 = -1 ∧ gh 3 = 10
def znuL (gh : Nat → Int) (L i : Nat) (xs : Nat → Int32) : List Int := [gh 0, gh 1, gh 2, gh 3, (L : Int), (i : Int), (xs (i + 0)).toInt, (xs (i + 1)).toInt, (xs (i + 2)).toInt, (xs (i + 3)).toInt, (xs (i + 4)).toInt, (xs (i + 5)).toInt]
def zDK0 (ws : va_W) : Prop := ∃ dn kp : Int32, zfv ws 90 5 = some (.int dn) ∧ zfv ws 90 4 = some (.int kp) ∧ 0 ≤ dn.toInt ∧ dn.toInt ≤ kp.toInt ∧ kp.toInt ≤ 40
def zwv (w : Nat → Int) : List Int := [w 0, w 1, w 2, w 3, w 4, w 5, w 6, w 7, w 8, w 9, w 10, w 11, w 12, w 13, w 14, w 15, w 16, w 17, w 18, w 19, w 20, w 21, w 22, w 23, w 24, w 25, w 26, w 27, w 28, w 29, w 30, w 31, w 32, w 33, w 34, w 35, w 36, w 37, w 38, w 39, w 40, w 41, w 42, w 43, w 44, w 45, w 46, w 47, w 48, w 49, w 50, w 51, w 52, w 53, w 54, w 55, w 56, w 57, w 58, w 59]
abbrev zR2 (h ln s mn : Int) : Prop := (h = -1 ∧ s = -1) ∨ (h = -2 ∧ 0 ≤ s ∧ s ≤ 19) ∨ (0 ≤ h ∧ h ≤ 4 ∧ s = h + 20 ∧ ln = mn)
abbrev zR3 (z h rl s : Int) : Prop := (h = -1 ∧ s = -1) ∨ (h = -2 ∧ rl = s ∧ 0 ≤ s ∧ s ≤ z - 1) ∨ (0 ≤ h ∧ h ≤ 4 ∧ 20 ≤ s ∧ s ≤ 24)
/-- the clauses: between two ends; the same; a place of rows; a place of rules; the same as far as a count goes -/
def zQk (n : Nat) (ps vs : List Int) : Prop := match n, ps, vs with
  | 0, [lo, hi], [v] => lo ≤ v ∧ v ≤ hi
  | 1, [], [a, b] => a = b
  | 2, [], [h, ln, s, mn] => zR2 h ln s mn
  | 3, [], [z, h, rl, s] => zR3 z h rl s
  | 4, [j], [n, a, b] => j < n → a = b
  | _, _, _ => False
def zR (w : Nat → Int) : Prop := ∀ c ∈ zpCl, zQk c.1 c.2.2 (c.2.1.map w)
theorem zR3_up {z h rl s : Int} (h9 : zR3 z h rl s) : zR3 (z + 1) h rl s := by
  rcases h9 with h9 | h9 | h9
  · exact Or.inl h9
  · exact Or.inr (Or.inl ⟨h9.1, h9.2.1, h9.2.2.1, by have h8 := h9.2.2.2; omega⟩)
  · exact Or.inr (Or.inr h9)
theorem zRi {w : Nat → Int} (hR : zR w) {k : Nat} {lo hi : Int} (h : (0, [k], [lo, hi]) ∈ zpCl) : lo ≤ w k ∧ w k ≤ hi := hR _ h
theorem zpClN : ∀ c ∈ zpCl, ∀ k ∈ c.2.1, k < 60 := by decide +kernel
theorem zR_of {w w2 : Nat → Int} (ch : List Nat) (hs : ∀ k : Nat, k < 60 → ch.contains k = false → w2 k = w k) (hR : zR w) (hc : ∀ c ∈ zpCl.filter (fun c => c.2.1.any (fun k => ch.contains k)), zQk c.1 c.2.2 (c.2.1.map w2)) : zR w2 := by
  intro c hcl
  cases h : c.2.1.any (fun k => ch.contains k) with
  | true => exact hc c (List.mem_filter.mpr ⟨hcl, h⟩)
  | false =>
    have e : c.2.1.map w2 = c.2.1.map w := List.map_congr_left (fun k hk => hs k (zpClN c hcl k hk) (by
      cases h9 : ch.contains k with
      | false => rfl
      | true =>
        have h8 : c.2.1.any (fun k => ch.contains k) = true := List.any_eq_true.mpr ⟨k, hk, h9⟩
        rw [h] at h8
        cases h8))
    rw [e]
    exact hR c hcl
def zWt (w : Nat → Int) (ws : va_W) : Prop := ∀ q ∈ zpWt, ∃ x : Int32, zfv ws q.2.1 q.2.2 = some (.int x) ∧ x.toInt = w q.1
def zDK (ws : va_W) : Prop := zDK0 ws ∧ ∃ w : Nat → Int, zWt w ws ∧ zR w
theorem zfullI (x : Int32) : zInIv x.toInt [(-2147483648, 2147483647)] := zFull_in x
def zSetP (nu : List Int) : List (Nat × zIv) → Prop
  | [] => True
  | q :: r => (∃ a, nu[q.1]? = some a ∧ zInIv a q.2) ∧ zSetP nu r
def zCdP (nu : List Int) : List zCd → Prop
  | [] => True
  | q :: r => (∃ x y, nu[q.1]? = some x ∧ nu[q.2.1]? = some y ∧ x ≤ y + q.2.2) ∧ zCdP nu r
theorem zsets_ok {nu : List Int} : ∀ (q : List (Nat × zIv)) (e : List zIv), zEnv e nu → zSetP nu q → zEnv (zsets q e) nu
  | [], _, h, _ => h
  | x :: r, e, h, ⟨⟨a, h1, h2⟩, h3⟩ => zsets_ok r (e.set x.1 x.2) (h.set (fun b hb => by
      rw [h1] at hb
      cases hb
      exact h2)) h3
theorem zcdp_ok {nu : List Int} : ∀ (q : List zCd), zCdP nu q → zCds q nu
  | [], _ => fun q hq => by cases hq
  | x :: r, ⟨h1, h2⟩ => fun q hq => by
    rcases List.mem_cons.mp hq with rfl | hq
    · exact h1
    · exact zcdp_ok r h2 q hq
/-- the watched numbers behind a state's facts -/
def zw2 (nu : List Int) (fa : List zFa) (k : Nat) : Int := match fa[k + 2]? with
  | some f => (nu[f.2.2.2.2.1]?).getD 0 + f.2.2.2.2.2.1
  | none => 0
def zwT (gh : Nat → Int) (L i : Nat) (xs : Nat → Int32) (w : Nat → Int) (u : List Int) (T : zS) : Nat → Int := zw2 (znuL gh L i xs ++ zwv w ++ u) T.2.2.2.2.1
theorem zwv_eq (w : Nat → Int) : zwv w = (List.range 60).map w := rfl
theorem znu_get {gh : Nat → Int} {L i : Nat} {xs : Nat → Int32} {w : Nat → Int} {u : List Int} {k : Nat} (hk : k < 60) : (znuL gh L i xs ++ zwv w ++ u)[12 + k]? = some (w k) := by
  have h12 : (znuL gh L i xs).length = 12 := rfl
  rw [List.append_assoc, List.getElem?_append_right (by rw [h12]; omega), h12, Nat.add_sub_cancel_left, List.getElem?_append_left (by rw [zwv_eq, List.length_map, List.length_range]; exact hk), zwv_eq, List.getElem?_map, List.getElem?_range hk]
  rfl
def zsmB (T : zS) (ch : List Nat) : Bool := (List.range 60).all (fun k => ch.contains k || (match T.2.2.2.2.1[k + 2]? with
  | some f => f.2.2.2.2.1 == 12 + k && decide (f.2.2.2.2.2.1 = 0)
  | none => false))
theorem zsame {T : zS} {ch : List Nat} (hB : zsmB T ch = true) {gh : Nat → Int} {L i : Nat} {xs : Nat → Int32} {w : Nat → Int} {u : List Int} : ∀ k : Nat, k < 60 → ch.contains k = false → zwT gh L i xs w u T k = w k := by
  intro k hk hc
  have h1 : (ch.contains k || (match T.2.2.2.2.1[k + 2]? with
    | some f => f.2.2.2.2.1 == 12 + k && decide (f.2.2.2.2.2.1 = 0)
    | none => false)) = true := List.all_eq_true.mp hB k (List.mem_range.mpr hk)
  rw [hc, Bool.false_or] at h1
  unfold zwT zw2
  cases hf : T.2.2.2.2.1[k + 2]? with
  | none =>
    rw [hf] at h1
    cases h1
  | some f =>
    rw [hf] at h1
    simp only [Bool.and_eq_true, beq_iff_eq, decide_eq_true_eq] at h1
    show ((znuL gh L i xs ++ zwv w ++ u)[f.2.2.2.2.1]?).getD 0 + f.2.2.2.2.2.1 = w k
    rw [h1.1, h1.2, znu_get hk]
    exact Int.add_zero _
def zf1B (o : Option zFa) (q : Int) (j n : Nat) : Bool := match o with
  | some f => f.1 == 0 && (decide (f.2.1 = q) && (f.2.2.1 == j && decide (f.2.2.2 = (1, n, 0, 0, 0))))
  | none => false
theorem zf1B_ok {o : Option zFa} {q : Int} {j n : Nat} (h : zf1B o q j n = true) : o = some (0, q, j, (1, n, 0, 0, 0)) := by
  unfold zf1B at h
  split at h
  · rename_i f
    obtain ⟨a, b, c, d⟩ := f
    simp only [Bool.and_eq_true, beq_iff_eq, decide_eq_true_eq] at h
    obtain ⟨h1, h2, h3, h4⟩ := h
    rw [h1, h2, h3, h4]
  · cases h
def zTokB (T : zS) : Bool := decide ((72, 73, 0) ∈ T.2.1) && (decide (T.2.2.1 = zpLS.2.2.1) && (decide (T.2.2.2.1 = []) && (zf1B T.2.2.2.2.1[0]? 90 5 72 && (zf1B T.2.2.2.2.1[1]? 90 4 73 && (decide (zlo T.1 72 = 0) && (decide (zhi T.1 73 = 40) && zpWt.all (fun q => match T.2.2.2.2.1[q.1 + 2]? with
  | some f => f.1 == 0 && (decide (f.2.1 = (q.2.1 : Int)) && (f.2.2.1 == q.2.2 && f.2.2.2.1 == 1))
  | none => false)))))))
section ZLP
variable {p : Program} {l : Launch} {e : Env} {s : State} {m : MethodId} {below : List Frame} {meth : Method} {c : Code} {b L : Nat} {xs : Nat → Int32} {D : va_G} {tys : List (ClassId × FieldType)} {A : Nat → Prop} {ad : Nat → Nat} {Q : State → Prop} {ce sl : Nat}
theorem zlawX (C0 : lw_At p s m meth c b L xs) (hK : va_K D zpcl tys s) (hro : zpRO ad A s s.heap) {CS : List zC} (hCS : ∀ C ∈ CS, zMet l zpTs zpcl zpZ zpRO (zKof zpMT C)) {gh : Nat → Int} (h0 : gh 0 = 0) {nuE : List Int} (hlen : nuE.length = 72) (hcs : ce ≤ room_1.cells ∧ sl ≤ room_1.slots) (ws0 : va_W) : zCtx p l e room_1 s m #[Value.ref b] below meth c code "PushedInLaw" 4 zpTs zpRO zpcl zpZ zpRS zpPL zpMT CS zpLC D tys A ad gh ws0 nuE s.heap ce sl Q := by
  obtain ⟨hx, hb, hr, hml, hown, hts0, hX, hbl, hlocks, -⟩ := C0
  have hts : ∀ w ∈ zpTs, w.before #[Value.ref b] s = true := fun w hw => hts0 w (List.mem_filter.mp hw).1
  obtain ⟨q1, q2, q3, q4, q5, q6⟩ := zpKL
  refine ⟨⟨hx, hb, ⟨by decide, h0⟩, hml, rfl, hown⟩, ⟨hts, zTs_good, hK, zROx_ok, hro, zpDj, hlocks⟩, ⟨hlen.symm, ⟨Nat.le_refl _, Nat.le_refl _⟩⟩, ⟨fun f hf => ?_, fun f hf h2 => ?_, fun q hq => ⟨(q2 q hq).1, (q2 q hq).2.1, hts _ (q2 q hq).2.2⟩, fun q hq => ⟨(q3 q hq).1, (q3 q hq).2.1, hts _ (q3 q hq).2.2⟩, fun q hq => ?_⟩, fun q hq pc H locs ls rest hd hS kk => ?_, fun q hq pc H locs ls rest hd hS kk => ?_, fun q hq h3 => absurd h3 ((by decide : ∀ q ∈ zpPL.2.2.2.1, q.2.1 ≠ 3) q hq), fun i tb hi pc H locs ls rest x hd hS hin kk => ?_, hCS, hcs, fun nu0 rc2 pc len sg su hE2 hz d0 d1 d2 => by rw [zpLC, zi_ret_nil] at hz; cases hz⟩
  · cases hf
  · cases hf
  · obtain ⟨g1, g2, g3, -, g4⟩ := q4 q hq
    refine ⟨g1, g2, fun z Cc hCc => ?_, g4⟩
    obtain ⟨k1, host, k2⟩ := g3 z Cc hCc
    exact ⟨k1, host, k2 ad A s s.heap hro⟩
  · exact q5 q hq p l e _ s m _ below meth c _ _ A ad pc H locs ls rest _ _ hx hb hown hts hro hd hS kk
  · exact q6 q hq p l e _ s m _ below meth c _ _ A ad pc H locs ls rest _ _ hx hb hown hts hro hd hS kk
  · exact zpHyp.2.2.1 i tb hi p l e _ s m _ below meth c _ _ A ad pc H locs ls rest _ _ x hx hb hro hd hS hin kk
/-- from a stop on -/
def zStop (p : Program) (l : Launch) (e : Env) (s : State) (m : MethodId) (below : List Frame) (meth : Method) (c : Code) (b L : Nat) (xs : Nat → Int32) (D : va_G) (tys : List (ClassId × FieldType)) (A : Nat → Prop) (ad : Nat → Nat) (Q : State → Prop) (ce sl i pc : Nat) (T : zS) : Prop := ∀ (gh : Nat → Int), zgok gh → ∀ (w : Nat → Int), zR w → ∀ (ws0 : va_W) (u : List Int) (ls : Array Slot) (st : List Value) (ws : va_W) (H : Heap) (locs : List Loc), zG zpZ D zpcl tys A ad gh zpLW s.heap ws0 (znuL gh L i xs ++ zwv w ++ u) 4 T (znuL gh L i xs ++ zwv w ++ u) ls st ws H locs → W p l e room_1 s m #[Value.ref b] below meth c H locs ce sl Q (F0 m pc ls st)
theorem zseg (C0 : lw_At p s m meth c b L xs) (hK : va_K D zpcl tys s) (hro : zpRO ad A s s.heap) (had : ad 3000 = b) (hbA : ¬ A b) (hL : L ≤ 384) {i : Nat} (hi : i + 5 < L) (hcs : ce ≤ room_1.cells ∧ sl ≤ room_1.slots) {CS : List zC} (hCS : ∀ C ∈ CS, zMet l zpTs zpcl zpZ zpRO (zKof zpMT C)) {ann : zAnn} {f pc : Nat} {T : zS} (hr : zrunL zpZ zpRS zpPL zpMT CS zpLC code ann f pc T = true) (hann : ∀ a ∈ ann, zStop p l e s m below meth c b L xs D tys A ad Q ce sl i a.1 a.2.1.2) : zStop p l e s m below meth c b L xs D tys A ad Q ce sl i pc T := by
  intro gh hg w hR ws0 u ls st ws H locs hG
  have X := zlawX (p := p) (l := l) (e := e) (below := below) (Q := Q) (CS := CS) C0 hK hro hCS (gh := gh) hg.1 (nuE := znuL gh L i xs ++ zwv w) rfl hcs ws0
  obtain ⟨hx, hb, hr', hml, hown, hts0, hX, hbl, hlocks, -⟩ := C0
  have hGE : ∀ g, g < zpZ.2.2 → (znuL gh L i xs ++ zwv w)[g]? = some (gh g) := fun g h4 => by
    have h4 : g < 4 := h4
    match g, h4 with
    | 0, _ => rfl
    | 1, _ => rfl
    | 2, _ => rfl
    | 3, _ => rfl
  refine zrunL_ok X hGE ⟨u, rfl⟩ (fun a ha nu' hE _ ls st ws H locs hG => ?_) (Ln := L) (i0 := i) (xs := xs) (by rw [had]; exact hX) (by rw [had]; exact hbl) (by rw [had]; exact hbA) rfl hi hL (fun k hk => ?_) f pc _ hr _ ls st ws H locs hG
  · obtain ⟨u', rfl⟩ := hE
    exact hann a ha gh hg w hR ws0 u' ls st ws H locs hG
  · match k, hk with
    | 0, _ => rfl
    | 1, _ => rfl
    | 2, _ => rfl
    | 3, _ => rfl
    | 4, _ => rfl
    | 5, _ => rfl
/-- a case of the watched numbers -/
theorem zref {q : List (Nat × zIv)} {cd : List zCd} {gh : Nat → Int} {ws0 ws : va_W} {nu0 nu : List Int} {ls : Array Slot} {st : List Value} {H : Heap} {locs : List Loc} (hG : zG zpZ D zpcl tys A ad gh zpLW s.heap ws0 nu0 4 zpLS nu ls st ws H locs) (h1 : zSetP nu q) (h2 : zCdP nu cd) : zG zpZ D zpcl tys A ad gh zpLW s.heap ws0 nu0 4 (zpLr q cd) nu ls st ws H locs := by
  obtain ⟨hH, ⟨n1, n2, n3, n4⟩, hL, hS, hF, hM⟩ := hG
  refine ⟨hH, ⟨zsets_ok q _ n1 h1, fun x hx => ?_, n3, n4⟩, hL, hS, hF, hM⟩
  rcases List.mem_append.mp hx with h | h
  · exact zcdp_ok cd h2 x h
  · exact n2 x h
/-- the stop's state, out of the world -/
theorem zstop_G {gh : Nat → Int} (hg : zgok gh) (had : ad 3000 = b) (hL : L ≤ 384) {i : Nat} (hi : i + 5 < L) {ls : Array Slot} {ws : va_W} {H : Heap} {locs : List Loc} (hl : lv_has ls 4 [(3, .int (Int32.ofNat i)), (2, .ref (ad 90)), (1, .ref (ad 0)), (0, .ref b)]) (hP : va_P D zpcl ws H) (hD : va_D A ws) (hS : va_S A s.heap H locs) (hW : zW zpZ ad gh tys ws) (hD0 : zDK0 ws) {w : Nat → Int} (hwt : zWt w ws) (hR : zR w) : ∃ u, zG zpZ D zpcl tys A ad gh zpLW s.heap ws (znuL gh L i xs ++ zwv w ++ u) 4 zpLS (znuL gh L i xs ++ zwv w ++ u) ls [] ws H locs := by
  obtain ⟨dn, kp, k1, k2, k3, k4, k5⟩ := hD0
  obtain ⟨g0, g1, g2, g3⟩ := hg
  have hi3 : (Int32.ofNat i).toInt = (i : Int) := Int32.toInt_ofNat_of_lt (by omega)
  refine ⟨[dn.toInt, kp.toInt], ⟨hP, hD, hS, hW, fun _ _ _ => rfl⟩, ⟨⟨rfl, fun j iv hj => ?_⟩, fun q hq => ?_, fun g h4 => ?_, ⟨[], by rw [List.append_nil]⟩⟩, ⟨hl.1, rfl, hl.2.1, fun j a hj ha => ?_⟩, trivial, fun f hf => ?_, fun q hq => by cases hq⟩
  · match j, hj with
    | 0, hj => cases hj; exact ⟨_, rfl, zin1 (by omega) (by omega)⟩
    | 1, hj => cases hj; exact ⟨_, rfl, zin1 (by omega) (by omega)⟩
    | 2, hj => cases hj; exact ⟨_, rfl, zin1 (by omega) (by omega)⟩
    | 3, hj => cases hj; exact ⟨_, rfl, zin1 (by omega) (by omega)⟩
    | 4, hj => cases hj; exact ⟨_, rfl, zin1 (by omega) (by omega)⟩
    | 5, hj => cases hj; exact ⟨_, rfl, zin1 (by omega) (by omega)⟩
    | 6, hj => cases hj; exact ⟨_, rfl, zfullI _⟩
    | 7, hj => cases hj; exact ⟨_, rfl, zfullI _⟩
    | 8, hj => cases hj; exact ⟨_, rfl, zfullI _⟩
    | 9, hj => cases hj; exact ⟨_, rfl, zfullI _⟩
    | 10, hj => cases hj; exact ⟨_, rfl, zfullI _⟩
    | 11, hj => cases hj; exact ⟨_, rfl, zfullI _⟩
    | 12, hj => cases hj; exact ⟨_, rfl, zin1 (zRi hR (k := 0) (List.mem_of_getElem? (i := 0) rfl)).1 (zRi hR (k := 0) (List.mem_of_getElem? (i := 0) rfl)).2⟩
    | 13, hj => cases hj; exact ⟨_, rfl, zin1 (zRi hR (k := 1) (List.mem_of_getElem? (i := 1) rfl)).1 (zRi hR (k := 1) (List.mem_of_getElem? (i := 1) rfl)).2⟩
    | 14, hj => cases hj; exact ⟨_, rfl, zin1 (zRi hR (k := 2) (List.mem_of_getElem? (i := 2) rfl)).1 (zRi hR (k := 2) (List.mem_of_getElem? (i := 2) rfl)).2⟩
    | 15, hj => cases hj; exact ⟨_, rfl, zin1 (zRi hR (k := 3) (List.mem_of_getElem? (i := 3) rfl)).1 (zRi hR (k := 3) (List.mem_of_getElem? (i := 3) rfl)).2⟩
    | 16, hj => cases hj; exact ⟨_, rfl, zin1 (zRi hR (k := 4) (List.mem_of_getElem? (i := 4) rfl)).1 (zRi hR (k := 4) (List.mem_of_getElem? (i := 4) rfl)).2⟩
    | 17, hj => cases hj; exact ⟨_, rfl, zin1 (zRi hR (k := 5) (List.mem_of_getElem? (i := 5) rfl)).1 (zRi hR (k := 5) (List.mem_of_getElem? (i := 5) rfl)).2⟩
    | 18, hj => cases hj; exact ⟨_, rfl, zin1 (zRi hR (k := 6) (List.mem_of_getElem? (i := 6) rfl)).1 (zRi hR (k := 6) (List.mem_of_getElem? (i := 6) rfl)).2⟩
    | 19, hj => cases hj; exact ⟨_, rfl, zin1 (zRi hR (k := 7) (List.mem_of_getElem? (i := 7) rfl)).1 (zRi hR (k := 7) (List.mem_of_getElem? (i := 7) rfl)).2⟩
    | 20, hj => cases hj; exact ⟨_, rfl, zin1 (zRi hR (k := 8) (List.mem_of_getElem? (i := 8) rfl)).1 (zRi hR (k := 8) (List.mem_of_getElem? (i := 8) rfl)).2⟩
    | 21, hj => cases hj; exact ⟨_, rfl, zin1 (zRi hR (k := 9) (List.mem_of_getElem? (i := 9) rfl)).1 (zRi hR (k := 9) (List.mem_of_getElem? (i := 9) rfl)).2⟩
    | 22, hj => cases hj; exact ⟨_, rfl, zin1 (zRi hR (k := 10) (List.mem_of_getElem? (i := 10) rfl)).1 (zRi hR (k := 10) (List.mem_of_getElem? (i := 10) rfl)).2⟩
    | 23, hj => cases hj; exact ⟨_, rfl, zin1 (zRi hR (k := 11) (List.mem_of_getElem? (i := 11) rfl)).1 (zRi hR (k := 11) (List.mem_of_getElem? (i := 11) rfl)).2⟩
    | 24, hj => cases hj; exact ⟨_, rfl, zin1 (zRi hR (k := 12) (List.mem_of_getElem? (i := 12) rfl)).1 (zRi hR (k := 12) (List.mem_of_getElem? (i := 12) rfl)).2⟩
    | 25, hj => cases hj; exact ⟨_, rfl, zin1 (zRi hR (k := 13) (List.mem_of_getElem? (i := 13) rfl)).1 (zRi hR (k := 13) (List.mem_of_getElem? (i := 13) rfl)).2⟩
    | 26, hj => cases hj; exact ⟨_, rfl, zin1 (zRi hR (k := 14) (List.mem_of_getElem? (i := 14) rfl)).1 (zRi hR (k := 14) (List.mem_of_getElem? (i := 14) rfl)).2⟩
    | 27, hj => cases hj; exact ⟨_, rfl, zin1 (zRi hR (k := 15) (List.mem_of_getElem? (i := 15) rfl)).1 (zRi hR (k := 15) (List.mem_of_getElem? (i := 15) rfl)).2⟩
    | 28, hj => cases hj; exact ⟨_, rfl, zin1 (zRi hR (k := 16) (List.mem_of_getElem? (i := 16) rfl)).1 (zRi hR (k := 16) (List.mem_of_getElem? (i := 16) rfl)).2⟩
    | 29, hj => cases hj; exact ⟨_, rfl, zin1 (zRi hR (k := 17) (List.mem_of_getElem? (i := 17) rfl)).1 (zRi hR (k := 17) (List.mem_of_getElem? (i := 17) rfl)).2⟩
    | 30, hj => cases hj; exact ⟨_, rfl, zin1 (zRi hR (k := 18) (List.mem_of_getElem? (i := 18) rfl)).1 (zRi hR (k := 18) (List.mem_of_getElem? (i := 18) rfl)).2⟩
    | 31, hj => cases hj; exact ⟨_, rfl, zin1 (zRi hR (k := 19) (List.mem_of_getElem? (i := 19) rfl)).1 (zRi hR (k := 19) (List.mem_of_getElem? (i := 19) rfl)).2⟩
    | 32, hj => cases hj; exact ⟨_, rfl, zin1 (zRi hR (k := 20) (List.mem_of_getElem? (i := 20) rfl)).1 (zRi hR (k := 20) (List.mem_of_getElem? (i := 20) rfl)).2⟩
    | 33, hj => cases hj; exact ⟨_, rfl, zin1 (zRi hR (k := 21) (List.mem_of_getElem? (i := 21) rfl)).1 (zRi hR (k := 21) (List.mem_of_getElem? (i := 21) rfl)).2⟩
    | 34, hj => cases hj; exact ⟨_, rfl, zin1 (zRi hR (k := 22) (List.mem_of_getElem? (i := 22) rfl)).1 (zRi hR (k := 22) (List.mem_of_getElem? (i := 22) rfl)).2⟩
    | 35, hj => cases hj; exact ⟨_, rfl, zin1 (zRi hR (k := 23) (List.mem_of_getElem? (i := 23) rfl)).1 (zRi hR (k := 23) (List.mem_of_getElem? (i := 23) rfl)).2⟩
    | 36, hj => cases hj; exact ⟨_, rfl, zin1 (zRi hR (k := 24) (List.mem_of_getElem? (i := 24) rfl)).1 (zRi hR (k := 24) (List.mem_of_getElem? (i := 24) rfl)).2⟩
    | 37, hj => cases hj; exact ⟨_, rfl, zin1 (zRi hR (k := 25) (List.mem_of_getElem? (i := 25) rfl)).1 (zRi hR (k := 25) (List.mem_of_getElem? (i := 25) rfl)).2⟩
    | 38, hj => cases hj; exact ⟨_, rfl, zin1 (zRi hR (k := 26) (List.mem_of_getElem? (i := 26) rfl)).1 (zRi hR (k := 26) (List.mem_of_getElem? (i := 26) rfl)).2⟩
    | 39, hj => cases hj; exact ⟨_, rfl, zin1 (zRi hR (k := 27) (List.mem_of_getElem? (i := 27) rfl)).1 (zRi hR (k := 27) (List.mem_of_getElem? (i := 27) rfl)).2⟩
    | 40, hj => cases hj; exact ⟨_, rfl, zin1 (zRi hR (k := 28) (List.mem_of_getElem? (i := 28) rfl)).1 (zRi hR (k := 28) (List.mem_of_getElem? (i := 28) rfl)).2⟩
    | 41, hj => cases hj; exact ⟨_, rfl, zin1 (zRi hR (k := 29) (List.mem_of_getElem? (i := 29) rfl)).1 (zRi hR (k := 29) (List.mem_of_getElem? (i := 29) rfl)).2⟩
    | 42, hj => cases hj; exact ⟨_, rfl, zin1 (zRi hR (k := 30) (List.mem_of_getElem? (i := 30) rfl)).1 (zRi hR (k := 30) (List.mem_of_getElem? (i := 30) rfl)).2⟩
    | 43, hj => cases hj; exact ⟨_, rfl, zin1 (zRi hR (k := 31) (List.mem_of_getElem? (i := 31) rfl)).1 (zRi hR (k := 31) (List.mem_of_getElem? (i := 31) rfl)).2⟩
    | 44, hj => cases hj; exact ⟨_, rfl, zin1 (zRi hR (k := 32) (List.mem_of_getElem? (i := 32) rfl)).1 (zRi hR (k := 32) (List.mem_of_getElem? (i := 32) rfl)).2⟩
    | 45, hj => cases hj; exact ⟨_, rfl, zin1 (zRi hR (k := 33) (List.mem_of_getElem? (i := 33) rfl)).1 (zRi hR (k := 33) (List.mem_of_getElem? (i := 33) rfl)).2⟩
    | 46, hj => cases hj; exact ⟨_, rfl, zin1 (zRi hR (k := 34) (List.mem_of_getElem? (i := 34) rfl)).1 (zRi hR (k := 34) (List.mem_of_getElem? (i := 34) rfl)).2⟩
    | 47, hj => cases hj; exact ⟨_, rfl, zin1 (zRi hR (k := 35) (List.mem_of_getElem? (i := 35) rfl)).1 (zRi hR (k := 35) (List.mem_of_getElem? (i := 35) rfl)).2⟩
    | 48, hj => cases hj; exact ⟨_, rfl, zin1 (zRi hR (k := 36) (List.mem_of_getElem? (i := 36) rfl)).1 (zRi hR (k := 36) (List.mem_of_getElem? (i := 36) rfl)).2⟩
    | 49, hj => cases hj; exact ⟨_, rfl, zin1 (zRi hR (k := 37) (List.mem_of_getElem? (i := 37) rfl)).1 (zRi hR (k := 37) (List.mem_of_getElem? (i := 37) rfl)).2⟩
    | 50, hj => cases hj; exact ⟨_, rfl, zin1 (zRi hR (k := 38) (List.mem_of_getElem? (i := 38) rfl)).1 (zRi hR (k := 38) (List.mem_of_getElem? (i := 38) rfl)).2⟩
    | 51, hj => cases hj; exact ⟨_, rfl, zin1 (zRi hR (k := 39) (List.mem_of_getElem? (i := 39) rfl)).1 (zRi hR (k := 39) (List.mem_of_getElem? (i := 39) rfl)).2⟩
    | 52, hj => cases hj; exact ⟨_, rfl, zin1 (zRi hR (k := 40) (List.mem_of_getElem? (i := 40) rfl)).1 (zRi hR (k := 40) (List.mem_of_getElem? (i := 40) rfl)).2⟩
    | 53, hj => cases hj; exact ⟨_, rfl, zin1 (zRi hR (k := 41) (List.mem_of_getElem? (i := 41) rfl)).1 (zRi hR (k := 41) (List.mem_of_getElem? (i := 41) rfl)).2⟩
    | 54, hj => cases hj; exact ⟨_, rfl, zin1 (zRi hR (k := 42) (List.mem_of_getElem? (i := 42) rfl)).1 (zRi hR (k := 42) (List.mem_of_getElem? (i := 42) rfl)).2⟩
    | 55, hj => cases hj; exact ⟨_, rfl, zin1 (zRi hR (k := 43) (List.mem_of_getElem? (i := 43) rfl)).1 (zRi hR (k := 43) (List.mem_of_getElem? (i := 43) rfl)).2⟩
    | 56, hj => cases hj; exact ⟨_, rfl, zin1 (zRi hR (k := 44) (List.mem_of_getElem? (i := 44) rfl)).1 (zRi hR (k := 44) (List.mem_of_getElem? (i := 44) rfl)).2⟩
    | 57, hj => cases hj; exact ⟨_, rfl, zin1 (zRi hR (k := 45) (List.mem_of_getElem? (i := 45) rfl)).1 (zRi hR (k := 45) (List.mem_of_getElem? (i := 45) rfl)).2⟩
    | 58, hj => cases hj; exact ⟨_, rfl, zin1 (zRi hR (k := 46) (List.mem_of_getElem? (i := 46) rfl)).1 (zRi hR (k := 46) (List.mem_of_getElem? (i := 46) rfl)).2⟩
    | 59, hj => cases hj; exact ⟨_, rfl, zin1 (zRi hR (k := 47) (List.mem_of_getElem? (i := 47) rfl)).1 (zRi hR (k := 47) (List.mem_of_getElem? (i := 47) rfl)).2⟩
    | 60, hj => cases hj; exact ⟨_, rfl, zin1 (zRi hR (k := 48) (List.mem_of_getElem? (i := 48) rfl)).1 (zRi hR (k := 48) (List.mem_of_getElem? (i := 48) rfl)).2⟩
    | 61, hj => cases hj; exact ⟨_, rfl, zin1 (zRi hR (k := 49) (List.mem_of_getElem? (i := 49) rfl)).1 (zRi hR (k := 49) (List.mem_of_getElem? (i := 49) rfl)).2⟩
    | 62, hj => cases hj; exact ⟨_, rfl, zin1 (zRi hR (k := 50) (List.mem_of_getElem? (i := 50) rfl)).1 (zRi hR (k := 50) (List.mem_of_getElem? (i := 50) rfl)).2⟩
    | 63, hj => cases hj; exact ⟨_, rfl, zin1 (zRi hR (k := 51) (List.mem_of_getElem? (i := 51) rfl)).1 (zRi hR (k := 51) (List.mem_of_getElem? (i := 51) rfl)).2⟩
    | 64, hj => cases hj; exact ⟨_, rfl, zin1 (zRi hR (k := 52) (List.mem_of_getElem? (i := 52) rfl)).1 (zRi hR (k := 52) (List.mem_of_getElem? (i := 52) rfl)).2⟩
    | 65, hj => cases hj; exact ⟨_, rfl, zin1 (zRi hR (k := 53) (List.mem_of_getElem? (i := 53) rfl)).1 (zRi hR (k := 53) (List.mem_of_getElem? (i := 53) rfl)).2⟩
    | 66, hj => cases hj; exact ⟨_, rfl, zin1 (zRi hR (k := 54) (List.mem_of_getElem? (i := 54) rfl)).1 (zRi hR (k := 54) (List.mem_of_getElem? (i := 54) rfl)).2⟩
    | 67, hj => cases hj; exact ⟨_, rfl, zin1 (zRi hR (k := 55) (List.mem_of_getElem? (i := 55) rfl)).1 (zRi hR (k := 55) (List.mem_of_getElem? (i := 55) rfl)).2⟩
    | 68, hj => cases hj; exact ⟨_, rfl, zin1 (zRi hR (k := 56) (List.mem_of_getElem? (i := 56) rfl)).1 (zRi hR (k := 56) (List.mem_of_getElem? (i := 56) rfl)).2⟩
    | 69, hj => cases hj; exact ⟨_, rfl, zin1 (zRi hR (k := 57) (List.mem_of_getElem? (i := 57) rfl)).1 (zRi hR (k := 57) (List.mem_of_getElem? (i := 57) rfl)).2⟩
    | 70, hj => cases hj; exact ⟨_, rfl, zin1 (zRi hR (k := 58) (List.mem_of_getElem? (i := 58) rfl)).1 (zRi hR (k := 58) (List.mem_of_getElem? (i := 58) rfl)).2⟩
    | 71, hj => cases hj; exact ⟨_, rfl, zin1 (zRi hR (k := 59) (List.mem_of_getElem? (i := 59) rfl)).1 (zRi hR (k := 59) (List.mem_of_getElem? (i := 59) rfl)).2⟩
    | 72, hj => cases hj; exact ⟨_, rfl, zin1 (by omega) (by omega)⟩
    | 73, hj => cases hj; exact ⟨_, rfl, zin1 (by omega) (by omega)⟩
    | n + 74, hj => cases hj
  · cases List.mem_singleton.mp hq
    exact ⟨dn.toInt, kp.toInt, rfl, rfl, by show dn.toInt ≤ kp.toInt + 0; omega⟩
  · have h4 : g < 4 := h4
    match g, h4 with
    | 0, _ => rfl
    | 1, _ => rfl
    | 2, _ => rfl
    | 3, _ => rfl
  · match j, hj with
    | 0, hj => cases hj; exact ⟨_, lv_at hl 3 rfl, 3000, by rw [had], gh 0, rfl, by rw [g0]; rfl⟩
    | 1, hj => cases hj; exact ⟨_, lv_at hl 2 rfl, 0, rfl, gh 0, rfl, by rw [g0]; rfl⟩
    | 2, hj => cases hj; exact ⟨_, lv_at hl 1 rfl, 90, rfl, gh 0, rfl, by rw [g0]; rfl⟩
    | 3, hj => cases hj; exact ⟨_, lv_at hl 0 rfl, _, rfl, (i : Int), rfl, by rw [hi3]; omega⟩
    | n + 4, hj => cases hj
  · rcases List.mem_cons.mp hf with rfl | hf
    · exact ⟨90, .int dn, ⟨gh 0, rfl, by rw [g0]; rfl⟩, k1, dn, rfl, dn.toInt, rfl, by omega⟩
    rcases List.mem_cons.mp hf with rfl | hf
    · exact ⟨90, .int kp, ⟨gh 0, rfl, by rw [g0]; rfl⟩, k2, kp, rfl, kp.toInt, rfl, by omega⟩
    rcases List.mem_cons.mp hf with rfl | hf
    · obtain ⟨x, x1, x2⟩ := hwt (0, 6, 8) (List.mem_of_getElem? (i := 0) rfl)
      exact ⟨6, .int x, ⟨gh 0, rfl, by rw [g0]; rfl⟩, x1, x, rfl, w 0, rfl, by simp only at x2; omega⟩
    rcases List.mem_cons.mp hf with rfl | hf
    · obtain ⟨x, x1, x2⟩ := hwt (1, 90, 38) (List.mem_of_getElem? (i := 1) rfl)
      exact ⟨90, .int x, ⟨gh 0, rfl, by rw [g0]; rfl⟩, x1, x, rfl, w 1, rfl, by simp only at x2; omega⟩
    rcases List.mem_cons.mp hf with rfl | hf
    · obtain ⟨x, x1, x2⟩ := hwt (2, 40, 0) (List.mem_of_getElem? (i := 2) rfl)
      exact ⟨40, .int x, ⟨gh 0, rfl, by rw [g0]; rfl⟩, x1, x, rfl, w 2, rfl, by simp only at x2; omega⟩
    rcases List.mem_cons.mp hf with rfl | hf
    · obtain ⟨x, x1, x2⟩ := hwt (3, 41, 0) (List.mem_of_getElem? (i := 3) rfl)
      exact ⟨41, .int x, ⟨gh 0, rfl, by rw [g0]; rfl⟩, x1, x, rfl, w 3, rfl, by simp only at x2; omega⟩
    rcases List.mem_cons.mp hf with rfl | hf
    · obtain ⟨x, x1, x2⟩ := hwt (4, 121, 0) (List.mem_of_getElem? (i := 4) rfl)
      exact ⟨121, .int x, ⟨gh 0, rfl, by rw [g0]; rfl⟩, x1, x, rfl, w 4, rfl, by simp only at x2; omega⟩
    rcases List.mem_cons.mp hf with rfl | hf
    · obtain ⟨x, x1, x2⟩ := hwt (5, 40, 1) (List.mem_of_getElem? (i := 5) rfl)
      exact ⟨40, .int x, ⟨gh 0, rfl, by rw [g0]; rfl⟩, x1, x, rfl, w 5, rfl, by simp only at x2; omega⟩
    rcases List.mem_cons.mp hf with rfl | hf
    · obtain ⟨x, x1, x2⟩ := hwt (6, 41, 1) (List.mem_of_getElem? (i := 6) rfl)
      exact ⟨41, .int x, ⟨gh 0, rfl, by rw [g0]; rfl⟩, x1, x, rfl, w 6, rfl, by simp only at x2; omega⟩
    rcases List.mem_cons.mp hf with rfl | hf
    · obtain ⟨x, x1, x2⟩ := hwt (7, 121, 1) (List.mem_of_getElem? (i := 7) rfl)
      exact ⟨121, .int x, ⟨gh 0, rfl, by rw [g0]; rfl⟩, x1, x, rfl, w 7, rfl, by simp only at x2; omega⟩
    rcases List.mem_cons.mp hf with rfl | hf
    · obtain ⟨x, x1, x2⟩ := hwt (8, 40, 2) (List.mem_of_getElem? (i := 8) rfl)
      exact ⟨40, .int x, ⟨gh 0, rfl, by rw [g0]; rfl⟩, x1, x, rfl, w 8, rfl, by simp only at x2; omega⟩
    rcases List.mem_cons.mp hf with rfl | hf
    · obtain ⟨x, x1, x2⟩ := hwt (9, 41, 2) (List.mem_of_getElem? (i := 9) rfl)
      exact ⟨41, .int x, ⟨gh 0, rfl, by rw [g0]; rfl⟩, x1, x, rfl, w 9, rfl, by simp only at x2; omega⟩
    rcases List.mem_cons.mp hf with rfl | hf
    · obtain ⟨x, x1, x2⟩ := hwt (10, 121, 2) (List.mem_of_getElem? (i := 10) rfl)
      exact ⟨121, .int x, ⟨gh 0, rfl, by rw [g0]; rfl⟩, x1, x, rfl, w 10, rfl, by simp only at x2; omega⟩
    rcases List.mem_cons.mp hf with rfl | hf
    · obtain ⟨x, x1, x2⟩ := hwt (11, 40, 3) (List.mem_of_getElem? (i := 11) rfl)
      exact ⟨40, .int x, ⟨gh 0, rfl, by rw [g0]; rfl⟩, x1, x, rfl, w 11, rfl, by simp only at x2; omega⟩
    rcases List.mem_cons.mp hf with rfl | hf
    · obtain ⟨x, x1, x2⟩ := hwt (12, 41, 3) (List.mem_of_getElem? (i := 12) rfl)
      exact ⟨41, .int x, ⟨gh 0, rfl, by rw [g0]; rfl⟩, x1, x, rfl, w 12, rfl, by simp only at x2; omega⟩
    rcases List.mem_cons.mp hf with rfl | hf
    · obtain ⟨x, x1, x2⟩ := hwt (13, 121, 3) (List.mem_of_getElem? (i := 13) rfl)
      exact ⟨121, .int x, ⟨gh 0, rfl, by rw [g0]; rfl⟩, x1, x, rfl, w 13, rfl, by simp only at x2; omega⟩
    rcases List.mem_cons.mp hf with rfl | hf
    · obtain ⟨x, x1, x2⟩ := hwt (14, 40, 4) (List.mem_of_getElem? (i := 14) rfl)
      exact ⟨40, .int x, ⟨gh 0, rfl, by rw [g0]; rfl⟩, x1, x, rfl, w 14, rfl, by simp only at x2; omega⟩
    rcases List.mem_cons.mp hf with rfl | hf
    · obtain ⟨x, x1, x2⟩ := hwt (15, 41, 4) (List.mem_of_getElem? (i := 15) rfl)
      exact ⟨41, .int x, ⟨gh 0, rfl, by rw [g0]; rfl⟩, x1, x, rfl, w 15, rfl, by simp only at x2; omega⟩
    rcases List.mem_cons.mp hf with rfl | hf
    · obtain ⟨x, x1, x2⟩ := hwt (16, 121, 4) (List.mem_of_getElem? (i := 16) rfl)
      exact ⟨121, .int x, ⟨gh 0, rfl, by rw [g0]; rfl⟩, x1, x, rfl, w 16, rfl, by simp only at x2; omega⟩
    rcases List.mem_cons.mp hf with rfl | hf
    · obtain ⟨x, x1, x2⟩ := hwt (17, 40, 5) (List.mem_of_getElem? (i := 17) rfl)
      exact ⟨40, .int x, ⟨gh 0, rfl, by rw [g0]; rfl⟩, x1, x, rfl, w 17, rfl, by simp only at x2; omega⟩
    rcases List.mem_cons.mp hf with rfl | hf
    · obtain ⟨x, x1, x2⟩ := hwt (18, 41, 5) (List.mem_of_getElem? (i := 18) rfl)
      exact ⟨41, .int x, ⟨gh 0, rfl, by rw [g0]; rfl⟩, x1, x, rfl, w 18, rfl, by simp only at x2; omega⟩
    rcases List.mem_cons.mp hf with rfl | hf
    · obtain ⟨x, x1, x2⟩ := hwt (19, 121, 5) (List.mem_of_getElem? (i := 19) rfl)
      exact ⟨121, .int x, ⟨gh 0, rfl, by rw [g0]; rfl⟩, x1, x, rfl, w 19, rfl, by simp only at x2; omega⟩
    rcases List.mem_cons.mp hf with rfl | hf
    · obtain ⟨x, x1, x2⟩ := hwt (20, 30, 0) (List.mem_of_getElem? (i := 20) rfl)
      exact ⟨30, .int x, ⟨gh 0, rfl, by rw [g0]; rfl⟩, x1, x, rfl, w 20, rfl, by simp only at x2; omega⟩
    rcases List.mem_cons.mp hf with rfl | hf
    · obtain ⟨x, x1, x2⟩ := hwt (21, 114, 0) (List.mem_of_getElem? (i := 21) rfl)
      exact ⟨114, .int x, ⟨gh 0, rfl, by rw [g0]; rfl⟩, x1, x, rfl, w 21, rfl, by simp only at x2; omega⟩
    rcases List.mem_cons.mp hf with rfl | hf
    · obtain ⟨x, x1, x2⟩ := hwt (22, 30, 1) (List.mem_of_getElem? (i := 22) rfl)
      exact ⟨30, .int x, ⟨gh 0, rfl, by rw [g0]; rfl⟩, x1, x, rfl, w 22, rfl, by simp only at x2; omega⟩
    rcases List.mem_cons.mp hf with rfl | hf
    · obtain ⟨x, x1, x2⟩ := hwt (23, 114, 1) (List.mem_of_getElem? (i := 23) rfl)
      exact ⟨114, .int x, ⟨gh 0, rfl, by rw [g0]; rfl⟩, x1, x, rfl, w 23, rfl, by simp only at x2; omega⟩
    rcases List.mem_cons.mp hf with rfl | hf
    · obtain ⟨x, x1, x2⟩ := hwt (24, 30, 2) (List.mem_of_getElem? (i := 24) rfl)
      exact ⟨30, .int x, ⟨gh 0, rfl, by rw [g0]; rfl⟩, x1, x, rfl, w 24, rfl, by simp only at x2; omega⟩
    rcases List.mem_cons.mp hf with rfl | hf
    · obtain ⟨x, x1, x2⟩ := hwt (25, 114, 2) (List.mem_of_getElem? (i := 25) rfl)
      exact ⟨114, .int x, ⟨gh 0, rfl, by rw [g0]; rfl⟩, x1, x, rfl, w 25, rfl, by simp only at x2; omega⟩
    rcases List.mem_cons.mp hf with rfl | hf
    · obtain ⟨x, x1, x2⟩ := hwt (26, 30, 3) (List.mem_of_getElem? (i := 26) rfl)
      exact ⟨30, .int x, ⟨gh 0, rfl, by rw [g0]; rfl⟩, x1, x, rfl, w 26, rfl, by simp only at x2; omega⟩
    rcases List.mem_cons.mp hf with rfl | hf
    · obtain ⟨x, x1, x2⟩ := hwt (27, 114, 3) (List.mem_of_getElem? (i := 27) rfl)
      exact ⟨114, .int x, ⟨gh 0, rfl, by rw [g0]; rfl⟩, x1, x, rfl, w 27, rfl, by simp only at x2; omega⟩
    rcases List.mem_cons.mp hf with rfl | hf
    · obtain ⟨x, x1, x2⟩ := hwt (28, 30, 4) (List.mem_of_getElem? (i := 28) rfl)
      exact ⟨30, .int x, ⟨gh 0, rfl, by rw [g0]; rfl⟩, x1, x, rfl, w 28, rfl, by simp only at x2; omega⟩
    rcases List.mem_cons.mp hf with rfl | hf
    · obtain ⟨x, x1, x2⟩ := hwt (29, 114, 4) (List.mem_of_getElem? (i := 29) rfl)
      exact ⟨114, .int x, ⟨gh 0, rfl, by rw [g0]; rfl⟩, x1, x, rfl, w 29, rfl, by simp only at x2; omega⟩
    rcases List.mem_cons.mp hf with rfl | hf
    · obtain ⟨x, x1, x2⟩ := hwt (30, 30, 5) (List.mem_of_getElem? (i := 30) rfl)
      exact ⟨30, .int x, ⟨gh 0, rfl, by rw [g0]; rfl⟩, x1, x, rfl, w 30, rfl, by simp only at x2; omega⟩
    rcases List.mem_cons.mp hf with rfl | hf
    · obtain ⟨x, x1, x2⟩ := hwt (31, 114, 5) (List.mem_of_getElem? (i := 31) rfl)
      exact ⟨114, .int x, ⟨gh 0, rfl, by rw [g0]; rfl⟩, x1, x, rfl, w 31, rfl, by simp only at x2; omega⟩
    rcases List.mem_cons.mp hf with rfl | hf
    · obtain ⟨x, x1, x2⟩ := hwt (32, 30, 6) (List.mem_of_getElem? (i := 32) rfl)
      exact ⟨30, .int x, ⟨gh 0, rfl, by rw [g0]; rfl⟩, x1, x, rfl, w 32, rfl, by simp only at x2; omega⟩
    rcases List.mem_cons.mp hf with rfl | hf
    · obtain ⟨x, x1, x2⟩ := hwt (33, 114, 6) (List.mem_of_getElem? (i := 33) rfl)
      exact ⟨114, .int x, ⟨gh 0, rfl, by rw [g0]; rfl⟩, x1, x, rfl, w 33, rfl, by simp only at x2; omega⟩
    rcases List.mem_cons.mp hf with rfl | hf
    · obtain ⟨x, x1, x2⟩ := hwt (34, 30, 7) (List.mem_of_getElem? (i := 34) rfl)
      exact ⟨30, .int x, ⟨gh 0, rfl, by rw [g0]; rfl⟩, x1, x, rfl, w 34, rfl, by simp only at x2; omega⟩
    rcases List.mem_cons.mp hf with rfl | hf
    · obtain ⟨x, x1, x2⟩ := hwt (35, 114, 7) (List.mem_of_getElem? (i := 35) rfl)
      exact ⟨114, .int x, ⟨gh 0, rfl, by rw [g0]; rfl⟩, x1, x, rfl, w 35, rfl, by simp only at x2; omega⟩
    rcases List.mem_cons.mp hf with rfl | hf
    · obtain ⟨x, x1, x2⟩ := hwt (36, 30, 8) (List.mem_of_getElem? (i := 36) rfl)
      exact ⟨30, .int x, ⟨gh 0, rfl, by rw [g0]; rfl⟩, x1, x, rfl, w 36, rfl, by simp only at x2; omega⟩
    rcases List.mem_cons.mp hf with rfl | hf
    · obtain ⟨x, x1, x2⟩ := hwt (37, 114, 8) (List.mem_of_getElem? (i := 37) rfl)
      exact ⟨114, .int x, ⟨gh 0, rfl, by rw [g0]; rfl⟩, x1, x, rfl, w 37, rfl, by simp only at x2; omega⟩
    rcases List.mem_cons.mp hf with rfl | hf
    · obtain ⟨x, x1, x2⟩ := hwt (38, 30, 9) (List.mem_of_getElem? (i := 38) rfl)
      exact ⟨30, .int x, ⟨gh 0, rfl, by rw [g0]; rfl⟩, x1, x, rfl, w 38, rfl, by simp only at x2; omega⟩
    rcases List.mem_cons.mp hf with rfl | hf
    · obtain ⟨x, x1, x2⟩ := hwt (39, 114, 9) (List.mem_of_getElem? (i := 39) rfl)
      exact ⟨114, .int x, ⟨gh 0, rfl, by rw [g0]; rfl⟩, x1, x, rfl, w 39, rfl, by simp only at x2; omega⟩
    rcases List.mem_cons.mp hf with rfl | hf
    · obtain ⟨x, x1, x2⟩ := hwt (40, 30, 10) (List.mem_of_getElem? (i := 40) rfl)
      exact ⟨30, .int x, ⟨gh 0, rfl, by rw [g0]; rfl⟩, x1, x, rfl, w 40, rfl, by simp only at x2; omega⟩
    rcases List.mem_cons.mp hf with rfl | hf
    · obtain ⟨x, x1, x2⟩ := hwt (41, 114, 10) (List.mem_of_getElem? (i := 41) rfl)
      exact ⟨114, .int x, ⟨gh 0, rfl, by rw [g0]; rfl⟩, x1, x, rfl, w 41, rfl, by simp only at x2; omega⟩
    rcases List.mem_cons.mp hf with rfl | hf
    · obtain ⟨x, x1, x2⟩ := hwt (42, 30, 11) (List.mem_of_getElem? (i := 42) rfl)
      exact ⟨30, .int x, ⟨gh 0, rfl, by rw [g0]; rfl⟩, x1, x, rfl, w 42, rfl, by simp only at x2; omega⟩
    rcases List.mem_cons.mp hf with rfl | hf
    · obtain ⟨x, x1, x2⟩ := hwt (43, 114, 11) (List.mem_of_getElem? (i := 43) rfl)
      exact ⟨114, .int x, ⟨gh 0, rfl, by rw [g0]; rfl⟩, x1, x, rfl, w 43, rfl, by simp only at x2; omega⟩
    rcases List.mem_cons.mp hf with rfl | hf
    · obtain ⟨x, x1, x2⟩ := hwt (44, 30, 12) (List.mem_of_getElem? (i := 44) rfl)
      exact ⟨30, .int x, ⟨gh 0, rfl, by rw [g0]; rfl⟩, x1, x, rfl, w 44, rfl, by simp only at x2; omega⟩
    rcases List.mem_cons.mp hf with rfl | hf
    · obtain ⟨x, x1, x2⟩ := hwt (45, 114, 12) (List.mem_of_getElem? (i := 45) rfl)
      exact ⟨114, .int x, ⟨gh 0, rfl, by rw [g0]; rfl⟩, x1, x, rfl, w 45, rfl, by simp only at x2; omega⟩
    rcases List.mem_cons.mp hf with rfl | hf
    · obtain ⟨x, x1, x2⟩ := hwt (46, 30, 13) (List.mem_of_getElem? (i := 46) rfl)
      exact ⟨30, .int x, ⟨gh 0, rfl, by rw [g0]; rfl⟩, x1, x, rfl, w 46, rfl, by simp only at x2; omega⟩
    rcases List.mem_cons.mp hf with rfl | hf
    · obtain ⟨x, x1, x2⟩ := hwt (47, 114, 13) (List.mem_of_getElem? (i := 47) rfl)
      exact ⟨114, .int x, ⟨gh 0, rfl, by rw [g0]; rfl⟩, x1, x, rfl, w 47, rfl, by simp only at x2; omega⟩
    rcases List.mem_cons.mp hf with rfl | hf
    · obtain ⟨x, x1, x2⟩ := hwt (48, 30, 14) (List.mem_of_getElem? (i := 48) rfl)
      exact ⟨30, .int x, ⟨gh 0, rfl, by rw [g0]; rfl⟩, x1, x, rfl, w 48, rfl, by simp only at x2; omega⟩
    rcases List.mem_cons.mp hf with rfl | hf
    · obtain ⟨x, x1, x2⟩ := hwt (49, 114, 14) (List.mem_of_getElem? (i := 49) rfl)
      exact ⟨114, .int x, ⟨gh 0, rfl, by rw [g0]; rfl⟩, x1, x, rfl, w 49, rfl, by simp only at x2; omega⟩
    rcases List.mem_cons.mp hf with rfl | hf
    · obtain ⟨x, x1, x2⟩ := hwt (50, 30, 15) (List.mem_of_getElem? (i := 50) rfl)
      exact ⟨30, .int x, ⟨gh 0, rfl, by rw [g0]; rfl⟩, x1, x, rfl, w 50, rfl, by simp only at x2; omega⟩
    rcases List.mem_cons.mp hf with rfl | hf
    · obtain ⟨x, x1, x2⟩ := hwt (51, 114, 15) (List.mem_of_getElem? (i := 51) rfl)
      exact ⟨114, .int x, ⟨gh 0, rfl, by rw [g0]; rfl⟩, x1, x, rfl, w 51, rfl, by simp only at x2; omega⟩
    rcases List.mem_cons.mp hf with rfl | hf
    · obtain ⟨x, x1, x2⟩ := hwt (52, 30, 16) (List.mem_of_getElem? (i := 52) rfl)
      exact ⟨30, .int x, ⟨gh 0, rfl, by rw [g0]; rfl⟩, x1, x, rfl, w 52, rfl, by simp only at x2; omega⟩
    rcases List.mem_cons.mp hf with rfl | hf
    · obtain ⟨x, x1, x2⟩ := hwt (53, 114, 16) (List.mem_of_getElem? (i := 53) rfl)
      exact ⟨114, .int x, ⟨gh 0, rfl, by rw [g0]; rfl⟩, x1, x, rfl, w 53, rfl, by simp only at x2; omega⟩
    rcases List.mem_cons.mp hf with rfl | hf
    · obtain ⟨x, x1, x2⟩ := hwt (54, 30, 17) (List.mem_of_getElem? (i := 54) rfl)
      exact ⟨30, .int x, ⟨gh 0, rfl, by rw [g0]; rfl⟩, x1, x, rfl, w 54, rfl, by simp only at x2; omega⟩
    rcases List.mem_cons.mp hf with rfl | hf
    · obtain ⟨x, x1, x2⟩ := hwt (55, 114, 17) (List.mem_of_getElem? (i := 55) rfl)
      exact ⟨114, .int x, ⟨gh 0, rfl, by rw [g0]; rfl⟩, x1, x, rfl, w 55, rfl, by simp only at x2; omega⟩
    rcases List.mem_cons.mp hf with rfl | hf
    · obtain ⟨x, x1, x2⟩ := hwt (56, 30, 18) (List.mem_of_getElem? (i := 56) rfl)
      exact ⟨30, .int x, ⟨gh 0, rfl, by rw [g0]; rfl⟩, x1, x, rfl, w 56, rfl, by simp only at x2; omega⟩
    rcases List.mem_cons.mp hf with rfl | hf
    · obtain ⟨x, x1, x2⟩ := hwt (57, 114, 18) (List.mem_of_getElem? (i := 57) rfl)
      exact ⟨114, .int x, ⟨gh 0, rfl, by rw [g0]; rfl⟩, x1, x, rfl, w 57, rfl, by simp only at x2; omega⟩
    rcases List.mem_cons.mp hf with rfl | hf
    · obtain ⟨x, x1, x2⟩ := hwt (58, 30, 19) (List.mem_of_getElem? (i := 58) rfl)
      exact ⟨30, .int x, ⟨gh 0, rfl, by rw [g0]; rfl⟩, x1, x, rfl, w 58, rfl, by simp only at x2; omega⟩
    rcases List.mem_cons.mp hf with rfl | hf
    · obtain ⟨x, x1, x2⟩ := hwt (59, 114, 19) (List.mem_of_getElem? (i := 59) rfl)
      exact ⟨114, .int x, ⟨gh 0, rfl, by rw [g0]; rfl⟩, x1, x, rfl, w 59, rfl, by simp only at x2; omega⟩
    cases hf
/-- and back -/
theorem zstop_of {T : zS} (hT : zTokB T = true) {gh : Nat → Int} (hg : zgok gh) (had : ad 3000 = b) {i : Nat} (hi4 : i < 400) {ws0 ws : va_W} {w : Nat → Int} {u : List Int} {ls : Array Slot} {st : List Value} {H : Heap} {locs : List Loc} (hG : zG zpZ D zpcl tys A ad gh zpLW s.heap ws0 (znuL gh L i xs ++ zwv w ++ u) 4 T (znuL gh L i xs ++ zwv w ++ u) ls st ws H locs) : st = [] ∧ lv_has ls 4 [(3, .int (Int32.ofNat i)), (2, .ref (ad 90)), (1, .ref (ad 0)), (0, .ref b)] ∧ va_P D zpcl ws H ∧ va_D A ws ∧ va_S A s.heap H locs ∧ zW zpZ ad gh tys ws ∧ zDK0 ws ∧ zWt (zw2 (znuL gh L i xs ++ zwv w ++ u) T.2.2.2.2.1) ws := by
  obtain ⟨hH, hN, hL, hS, hF, hM⟩ := hG
  simp only [zTokB, Bool.and_eq_true, decide_eq_true_eq] at hT
  obtain ⟨t1, t2, t3, t4, t5, t6, t7, t8⟩ := hT
  rw [t3] at hS
  rw [t2] at hL
  have hst : st = [] := List.length_eq_zero_iff.mp hS.len.symm
  have z0' : ∀ (z : Int), (znuL gh L i xs ++ zwv w ++ u)[0]? = some z → z = 0 := fun z hz => by
    have hz : some (gh 0) = some z := hz
    rw [hg.1] at hz
    exact (Option.some.inj hz).symm
  have rf : ∀ (j : Nat) (k : Int), zpLS.2.2.1[j]? = some (3, 0, k, 0, 0) → 0 ≤ k → ls[j]? = some (.val (.ref (ad k.toNat))) := fun j k hj hk => by
    obtain ⟨v, v1, q, rfl, z, z1, z2⟩ := hL.2.2.2 j _ hj (by simp)
    have := z0' z z1
    rw [v1]
    congr 4
    omega
  obtain ⟨v3, v31, x3, rfl, z, z1, z2⟩ := hL.2.2.2 3 (1, 5, 0, 0, 0) rfl (by simp)
  have z1 : some (i : Int) = some z := z1
  cases z1
  have ex : x3 = Int32.ofNat i := Int32.toInt_inj.mp (by rw [Int32.toInt_ofNat_of_lt (by omega)]; omega)
  subst ex
  refine ⟨hst, ⟨hL.1, hL.2.2.1, fun q hq => ?_⟩, hH.1, hH.2.1, hH.2.2.1, hH.2.2.2.1, ?_, ?_⟩
  · simp only [List.mem_cons, List.not_mem_nil, or_false] at hq
    rcases hq with rfl | rfl | rfl | rfl
    · exact v31
    · exact rf 2 90 rfl (by decide)
    · exact rf 1 0 rfl (by decide)
    · have := rf 0 3000 rfl (by decide)
      rw [← had]
      exact this
  · obtain ⟨q1, v1, a1, a2, dn, rfl, a3⟩ := hF (0, 90, 5, (1, 72, 0, 0, 0)) (List.mem_of_getElem? (i := 0) (zf1B_ok t4))
    obtain ⟨q2, v2, b1, b2, kp, rfl, b3⟩ := hF (0, 90, 4, (1, 73, 0, 0, 0)) (List.mem_of_getElem? (i := 1) (zf1B_ok t5))
    have e1 : q1 = 90 := by
      obtain ⟨z, y1, y2⟩ := a1
      have := z0' z y1
      simp only at y2
      omega
    have e2 : q2 = 90 := by
      obtain ⟨z, y1, y2⟩ := b1
      have := z0' z y1
      simp only at y2
      omega
    subst e1
    subst e2
    have c1 := a3.bd hN.1
    have c2 := b3.bd hN.1
    simp only [t6] at c1
    simp only [t7] at c2
    obtain ⟨x, y, y1, y2, y3⟩ := hN.2.1 (72, 73, 0) t1
    obtain ⟨za, za1, za2⟩ := a3
    obtain ⟨zb, zb1, zb2⟩ := b3
    have u1 : za = x := Option.some.inj (za1.symm.trans y1)
    have u2 : zb = y := Option.some.inj (zb1.symm.trans y2)
    have y3 : x ≤ y + 0 := y3
    exact ⟨dn, kp, a2, b2, by omega, by omega, by omega⟩
  · intro q hq
    have hq8 := List.all_eq_true.mp t8 q hq
    cases hf : T.2.2.2.2.1[q.1 + 2]? with
    | none =>
      rw [hf] at hq8
      cases hq8
    | some f =>
      rw [hf] at hq8
      obtain ⟨f1, f2, f3, tg, n, k, n2, k2⟩ := f
      simp only [Bool.and_eq_true, beq_iff_eq, decide_eq_true_eq] at hq8
      obtain ⟨h1, h2, h3, h4⟩ := hq8
      subst h1
      subst h2
      subst h3
      subst h4
      obtain ⟨qq, v, a1, a2, x, rfl, z, z1, z2⟩ := hF _ (List.mem_of_getElem? hf)
      have e1 : qq = q.2.1 := by
        obtain ⟨z9, y1, y2⟩ := a1
        have := z0' z9 y1
        simp only at y2
        omega
      subst e1
      refine ⟨x, a2, ?_⟩
      unfold zw2
      rw [hf]
      show x.toInt = ((znuL gh L i xs ++ zwv w ++ u)[n]?).getD 0 + k
      rw [z1]
      exact z2

theorem zTR_zpLS {gh : Nat → Int} {w : Nat → Int} {i : Nat} {u : List Int} (hg : zgok gh) (hR : zR w) (hE : zEnv zpLS.1 (znuL gh L i xs ++ zwv w ++ u)) (hC : zCds zpLS.2.1 (znuL gh L i xs ++ zwv w ++ u)) : zR (zw2 (znuL gh L i xs ++ zwv w ++ u) zpLS.2.2.2.2.1) := by
  show zR (zwT gh L i xs w u zpLS)
  have g0 := hg.1
  have hs := zsame (T := zpLS) (ch := []) (by decide +kernel) (gh := gh) (L := L) (i := i) (xs := xs) (w := w) (u := u)
  generalize zwT gh L i xs w u zpLS = w2 at hs ⊢
  refine zR_of [] hs hR ?_
  have hf : zpCl.filter (fun c => c.2.1.any (fun k => ([] : List Nat).contains k)) = [] := by decide +kernel
  rw [hf]
  exact fun _ h => absurd h List.not_mem_nil
theorem zTR_zpTrl0 {gh : Nat → Int} {w : Nat → Int} {i : Nat} {u : List Int} (hg : zgok gh) (hR : zR w) (hE : zEnv zpTrl0.1 (znuL gh L i xs ++ zwv w ++ u)) (hC : zCds zpTrl0.2.1 (znuL gh L i xs ++ zwv w ++ u)) : zR (zw2 (znuL gh L i xs ++ zwv w ++ u) zpTrl0.2.2.2.2.1) := by
  show zR (zwT gh L i xs w u zpTrl0)
  have g0 := hg.1
  obtain ⟨y7, ya7, yb7⟩ := hE.2 7 [(0, 7)] rfl
  have yc7 := zin1' yb7
  have ya7 : some ((xs (i + 1)).toInt) = some y7 := ya7
  cases ya7
  obtain ⟨y12, ya12, yb12⟩ := hE.2 12 [(0, 0)] rfl
  have yc12 := zin1' yb12
  have ya12 : some (w 0) = some y12 := ya12
  cases ya12
  obtain ⟨y13, ya13, yb13⟩ := hE.2 13 [(0, 0)] rfl
  have yc13 := zin1' yb13
  have ya13 : some (w 1) = some y13 := ya13
  cases ya13
  have hs := zsame (T := zpTrl0) (ch := [0, 1, 20, 21]) (by decide +kernel) (gh := gh) (L := L) (i := i) (xs := xs) (w := w) (u := u)
  have e0 : zwT gh L i xs w u zpTrl0 0 = w 0 + 1 := rfl
  have e1 : zwT gh L i xs w u zpTrl0 1 = w 1 + 1 := rfl
  have e2 := hs 2 (by decide) (by decide)
  have e3 := hs 3 (by decide) (by decide)
  have e4 := hs 4 (by decide) (by decide)
  have e5 := hs 5 (by decide) (by decide)
  have e6 := hs 6 (by decide) (by decide)
  have e7 := hs 7 (by decide) (by decide)
  have e8 := hs 8 (by decide) (by decide)
  have e9 := hs 9 (by decide) (by decide)
  have e10 := hs 10 (by decide) (by decide)
  have e11 := hs 11 (by decide) (by decide)
  have e12 := hs 12 (by decide) (by decide)
  have e13 := hs 13 (by decide) (by decide)
  have e14 := hs 14 (by decide) (by decide)
  have e15 := hs 15 (by decide) (by decide)
  have e16 := hs 16 (by decide) (by decide)
  have e17 := hs 17 (by decide) (by decide)
  have e18 := hs 18 (by decide) (by decide)
  have e19 := hs 19 (by decide) (by decide)
  have e20 : zwT gh L i xs w u zpTrl0 20 = (xs (i + 1)).toInt + 0 := rfl
  have e21 : zwT gh L i xs w u zpTrl0 21 = (xs (i + 1)).toInt + 0 := rfl
  have o60 : w 0 = w 1 := hR (1, [0, 1], []) (List.mem_of_getElem? (i := 60) rfl)
  have o61 : zR3 (w 0) (w 2) (w 3) (w 4) := hR (3, [0, 2, 3, 4], []) (List.mem_of_getElem? (i := 61) rfl)
  have o62 : zR3 (w 0) (w 5) (w 6) (w 7) := hR (3, [0, 5, 6, 7], []) (List.mem_of_getElem? (i := 62) rfl)
  have o63 : zR3 (w 0) (w 8) (w 9) (w 10) := hR (3, [0, 8, 9, 10], []) (List.mem_of_getElem? (i := 63) rfl)
  have o64 : zR3 (w 0) (w 11) (w 12) (w 13) := hR (3, [0, 11, 12, 13], []) (List.mem_of_getElem? (i := 64) rfl)
  have o65 : zR3 (w 0) (w 14) (w 15) (w 16) := hR (3, [0, 14, 15, 16], []) (List.mem_of_getElem? (i := 65) rfl)
  have o66 : zR3 (w 0) (w 17) (w 18) (w 19) := hR (3, [0, 17, 18, 19], []) (List.mem_of_getElem? (i := 66) rfl)
  have o67 : w 20 = w 21 := hR (1, [20, 21], []) (List.mem_of_getElem? (i := 67) rfl)
  generalize zwT gh L i xs w u zpTrl0 = w2 at hs e0 e1 e2 e3 e4 e5 e6 e7 e8 e9 e10 e11 e12 e13 e14 e15 e16 e17 e18 e19 e20 e21 ⊢
  refine zR_of [0, 1, 20, 21] hs hR ?_
  have hf : zpCl.filter (fun c => c.2.1.any (fun k => ([0, 1, 20, 21] : List Nat).contains k)) = [(0, [0], [0, 20]), (0, [1], [0, 20]), (0, [20], [0, 7]), (0, [21], [0, 7]), (1, [0, 1], []), (3, [0, 2, 3, 4], []), (3, [0, 5, 6, 7], []), (3, [0, 8, 9, 10], []), (3, [0, 11, 12, 13], []), (3, [0, 14, 15, 16], []), (3, [0, 17, 18, 19], []), (1, [20, 21], [])] := by decide +kernel
  rw [hf]
  exact List.forall_mem_cons.mpr ⟨(show 0 ≤ w2 0 ∧ w2 0 ≤ 20 from ⟨by omega, by omega⟩), List.forall_mem_cons.mpr ⟨(show 0 ≤ w2 1 ∧ w2 1 ≤ 20 from ⟨by omega, by omega⟩), List.forall_mem_cons.mpr ⟨(show 0 ≤ w2 20 ∧ w2 20 ≤ 7 from ⟨by omega, by omega⟩), List.forall_mem_cons.mpr ⟨(show 0 ≤ w2 21 ∧ w2 21 ≤ 7 from ⟨by omega, by omega⟩), List.forall_mem_cons.mpr ⟨(show w2 0 = w2 1 by omega), List.forall_mem_cons.mpr ⟨(show zR3 (w2 0) (w2 2) (w2 3) (w2 4) by rw [e0, e2, e3, e4]; exact zR3_up o61), List.forall_mem_cons.mpr ⟨(show zR3 (w2 0) (w2 5) (w2 6) (w2 7) by rw [e0, e5, e6, e7]; exact zR3_up o62), List.forall_mem_cons.mpr ⟨(show zR3 (w2 0) (w2 8) (w2 9) (w2 10) by rw [e0, e8, e9, e10]; exact zR3_up o63), List.forall_mem_cons.mpr ⟨(show zR3 (w2 0) (w2 11) (w2 12) (w2 13) by rw [e0, e11, e12, e13]; exact zR3_up o64), List.forall_mem_cons.mpr ⟨(show zR3 (w2 0) (w2 14) (w2 15) (w2 16) by rw [e0, e14, e15, e16]; exact zR3_up o65), List.forall_mem_cons.mpr ⟨(show zR3 (w2 0) (w2 17) (w2 18) (w2 19) by rw [e0, e17, e18, e19]; exact zR3_up o66), List.forall_mem_cons.mpr ⟨(show w2 20 = w2 21 by omega), fun _ h => absurd h List.not_mem_nil⟩⟩⟩⟩⟩⟩⟩⟩⟩⟩⟩⟩
theorem zTR_zpTrl1 {gh : Nat → Int} {w : Nat → Int} {i : Nat} {u : List Int} (hg : zgok gh) (hR : zR w) (hE : zEnv zpTrl1.1 (znuL gh L i xs ++ zwv w ++ u)) (hC : zCds zpTrl1.2.1 (znuL gh L i xs ++ zwv w ++ u)) : zR (zw2 (znuL gh L i xs ++ zwv w ++ u) zpTrl1.2.2.2.2.1) := by
  show zR (zwT gh L i xs w u zpTrl1)
  have g0 := hg.1
  obtain ⟨y7, ya7, yb7⟩ := hE.2 7 [(0, 7)] rfl
  have yc7 := zin1' yb7
  have ya7 : some ((xs (i + 1)).toInt) = some y7 := ya7
  cases ya7
  obtain ⟨y12, ya12, yb12⟩ := hE.2 12 [(1, 1)] rfl
  have yc12 := zin1' yb12
  have ya12 : some (w 0) = some y12 := ya12
  cases ya12
  obtain ⟨y13, ya13, yb13⟩ := hE.2 13 [(1, 1)] rfl
  have yc13 := zin1' yb13
  have ya13 : some (w 1) = some y13 := ya13
  cases ya13
  have hs := zsame (T := zpTrl1) (ch := [0, 1, 22, 23]) (by decide +kernel) (gh := gh) (L := L) (i := i) (xs := xs) (w := w) (u := u)
  have e0 : zwT gh L i xs w u zpTrl1 0 = w 0 + 1 := rfl
  have e1 : zwT gh L i xs w u zpTrl1 1 = w 1 + 1 := rfl
  have e2 := hs 2 (by decide) (by decide)
  have e3 := hs 3 (by decide) (by decide)
  have e4 := hs 4 (by decide) (by decide)
  have e5 := hs 5 (by decide) (by decide)
  have e6 := hs 6 (by decide) (by decide)
  have e7 := hs 7 (by decide) (by decide)
  have e8 := hs 8 (by decide) (by decide)
  have e9 := hs 9 (by decide) (by decide)
  have e10 := hs 10 (by decide) (by decide)
  have e11 := hs 11 (by decide) (by decide)
  have e12 := hs 12 (by decide) (by decide)
  have e13 := hs 13 (by decide) (by decide)
  have e14 := hs 14 (by decide) (by decide)
  have e15 := hs 15 (by decide) (by decide)
  have e16 := hs 16 (by decide) (by decide)
  have e17 := hs 17 (by decide) (by decide)
  have e18 := hs 18 (by decide) (by decide)
  have e19 := hs 19 (by decide) (by decide)
  have e22 : zwT gh L i xs w u zpTrl1 22 = (xs (i + 1)).toInt + 0 := rfl
  have e23 : zwT gh L i xs w u zpTrl1 23 = (xs (i + 1)).toInt + 0 := rfl
  have o60 : w 0 = w 1 := hR (1, [0, 1], []) (List.mem_of_getElem? (i := 60) rfl)
  have o61 : zR3 (w 0) (w 2) (w 3) (w 4) := hR (3, [0, 2, 3, 4], []) (List.mem_of_getElem? (i := 61) rfl)
  have o62 : zR3 (w 0) (w 5) (w 6) (w 7) := hR (3, [0, 5, 6, 7], []) (List.mem_of_getElem? (i := 62) rfl)
  have o63 : zR3 (w 0) (w 8) (w 9) (w 10) := hR (3, [0, 8, 9, 10], []) (List.mem_of_getElem? (i := 63) rfl)
  have o64 : zR3 (w 0) (w 11) (w 12) (w 13) := hR (3, [0, 11, 12, 13], []) (List.mem_of_getElem? (i := 64) rfl)
  have o65 : zR3 (w 0) (w 14) (w 15) (w 16) := hR (3, [0, 14, 15, 16], []) (List.mem_of_getElem? (i := 65) rfl)
  have o66 : zR3 (w 0) (w 17) (w 18) (w 19) := hR (3, [0, 17, 18, 19], []) (List.mem_of_getElem? (i := 66) rfl)
  have o68 : w 22 = w 23 := hR (1, [22, 23], []) (List.mem_of_getElem? (i := 68) rfl)
  generalize zwT gh L i xs w u zpTrl1 = w2 at hs e0 e1 e2 e3 e4 e5 e6 e7 e8 e9 e10 e11 e12 e13 e14 e15 e16 e17 e18 e19 e22 e23 ⊢
  refine zR_of [0, 1, 22, 23] hs hR ?_
  have hf : zpCl.filter (fun c => c.2.1.any (fun k => ([0, 1, 22, 23] : List Nat).contains k)) = [(0, [0], [0, 20]), (0, [1], [0, 20]), (0, [22], [0, 7]), (0, [23], [0, 7]), (1, [0, 1], []), (3, [0, 2, 3, 4], []), (3, [0, 5, 6, 7], []), (3, [0, 8, 9, 10], []), (3, [0, 11, 12, 13], []), (3, [0, 14, 15, 16], []), (3, [0, 17, 18, 19], []), (1, [22, 23], [])] := by decide +kernel
  rw [hf]
  exact List.forall_mem_cons.mpr ⟨(show 0 ≤ w2 0 ∧ w2 0 ≤ 20 from ⟨by omega, by omega⟩), List.forall_mem_cons.mpr ⟨(show 0 ≤ w2 1 ∧ w2 1 ≤ 20 from ⟨by omega, by omega⟩), List.forall_mem_cons.mpr ⟨(show 0 ≤ w2 22 ∧ w2 22 ≤ 7 from ⟨by omega, by omega⟩), List.forall_mem_cons.mpr ⟨(show 0 ≤ w2 23 ∧ w2 23 ≤ 7 from ⟨by omega, by omega⟩), List.forall_mem_cons.mpr ⟨(show w2 0 = w2 1 by omega), List.forall_mem_cons.mpr ⟨(show zR3 (w2 0) (w2 2) (w2 3) (w2 4) by rw [e0, e2, e3, e4]; exact zR3_up o61), List.forall_mem_cons.mpr ⟨(show zR3 (w2 0) (w2 5) (w2 6) (w2 7) by rw [e0, e5, e6, e7]; exact zR3_up o62), List.forall_mem_cons.mpr ⟨(show zR3 (w2 0) (w2 8) (w2 9) (w2 10) by rw [e0, e8, e9, e10]; exact zR3_up o63), List.forall_mem_cons.mpr ⟨(show zR3 (w2 0) (w2 11) (w2 12) (w2 13) by rw [e0, e11, e12, e13]; exact zR3_up o64), List.forall_mem_cons.mpr ⟨(show zR3 (w2 0) (w2 14) (w2 15) (w2 16) by rw [e0, e14, e15, e16]; exact zR3_up o65), List.forall_mem_cons.mpr ⟨(show zR3 (w2 0) (w2 17) (w2 18) (w2 19) by rw [e0, e17, e18, e19]; exact zR3_up o66), List.forall_mem_cons.mpr ⟨(show w2 22 = w2 23 by omega), fun _ h => absurd h List.not_mem_nil⟩⟩⟩⟩⟩⟩⟩⟩⟩⟩⟩⟩
theorem zTR_zpTrl2 {gh : Nat → Int} {w : Nat → Int} {i : Nat} {u : List Int} (hg : zgok gh) (hR : zR w) (hE : zEnv zpTrl2.1 (znuL gh L i xs ++ zwv w ++ u)) (hC : zCds zpTrl2.2.1 (znuL gh L i xs ++ zwv w ++ u)) : zR (zw2 (znuL gh L i xs ++ zwv w ++ u) zpTrl2.2.2.2.2.1) := by
  show zR (zwT gh L i xs w u zpTrl2)
  have g0 := hg.1
  obtain ⟨y7, ya7, yb7⟩ := hE.2 7 [(0, 7)] rfl
  have yc7 := zin1' yb7
  have ya7 : some ((xs (i + 1)).toInt) = some y7 := ya7
  cases ya7
  obtain ⟨y12, ya12, yb12⟩ := hE.2 12 [(2, 2)] rfl
  have yc12 := zin1' yb12
  have ya12 : some (w 0) = some y12 := ya12
  cases ya12
  obtain ⟨y13, ya13, yb13⟩ := hE.2 13 [(2, 2)] rfl
  have yc13 := zin1' yb13
  have ya13 : some (w 1) = some y13 := ya13
  cases ya13
  have hs := zsame (T := zpTrl2) (ch := [0, 1, 24, 25]) (by decide +kernel) (gh := gh) (L := L) (i := i) (xs := xs) (w := w) (u := u)
  have e0 : zwT gh L i xs w u zpTrl2 0 = w 0 + 1 := rfl
  have e1 : zwT gh L i xs w u zpTrl2 1 = w 1 + 1 := rfl
  have e2 := hs 2 (by decide) (by decide)
  have e3 := hs 3 (by decide) (by decide)
  have e4 := hs 4 (by decide) (by decide)
  have e5 := hs 5 (by decide) (by decide)
  have e6 := hs 6 (by decide) (by decide)
  have e7 := hs 7 (by decide) (by decide)
  have e8 := hs 8 (by decide) (by decide)
  have e9 := hs 9 (by decide) (by decide)
  have e10 := hs 10 (by decide) (by decide)
  have e11 := hs 11 (by decide) (by decide)
  have e12 := hs 12 (by decide) (by decide)
  have e13 := hs 13 (by decide) (by decide)
  have e14 := hs 14 (by decide) (by decide)
  have e15 := hs 15 (by decide) (by decide)
  have e16 := hs 16 (by decide) (by decide)
  have e17 := hs 17 (by decide) (by decide)
  have e18 := hs 18 (by decide) (by decide)
  have e19 := hs 19 (by decide) (by decide)
  have e24 : zwT gh L i xs w u zpTrl2 24 = (xs (i + 1)).toInt + 0 := rfl
  have e25 : zwT gh L i xs w u zpTrl2 25 = (xs (i + 1)).toInt + 0 := rfl
  have o60 : w 0 = w 1 := hR (1, [0, 1], []) (List.mem_of_getElem? (i := 60) rfl)
  have o61 : zR3 (w 0) (w 2) (w 3) (w 4) := hR (3, [0, 2, 3, 4], []) (List.mem_of_getElem? (i := 61) rfl)
  have o62 : zR3 (w 0) (w 5) (w 6) (w 7) := hR (3, [0, 5, 6, 7], []) (List.mem_of_getElem? (i := 62) rfl)
  have o63 : zR3 (w 0) (w 8) (w 9) (w 10) := hR (3, [0, 8, 9, 10], []) (List.mem_of_getElem? (i := 63) rfl)
  have o64 : zR3 (w 0) (w 11) (w 12) (w 13) := hR (3, [0, 11, 12, 13], []) (List.mem_of_getElem? (i := 64) rfl)
  have o65 : zR3 (w 0) (w 14) (w 15) (w 16) := hR (3, [0, 14, 15, 16], []) (List.mem_of_getElem? (i := 65) rfl)
  have o66 : zR3 (w 0) (w 17) (w 18) (w 19) := hR (3, [0, 17, 18, 19], []) (List.mem_of_getElem? (i := 66) rfl)
  have o69 : w 24 = w 25 := hR (1, [24, 25], []) (List.mem_of_getElem? (i := 69) rfl)
  generalize zwT gh L i xs w u zpTrl2 = w2 at hs e0 e1 e2 e3 e4 e5 e6 e7 e8 e9 e10 e11 e12 e13 e14 e15 e16 e17 e18 e19 e24 e25 ⊢
  refine zR_of [0, 1, 24, 25] hs hR ?_
  have hf : zpCl.filter (fun c => c.2.1.any (fun k => ([0, 1, 24, 25] : List Nat).contains k)) = [(0, [0], [0, 20]), (0, [1], [0, 20]), (0, [24], [0, 7]), (0, [25], [0, 7]), (1, [0, 1], []), (3, [0, 2, 3, 4], []), (3, [0, 5, 6, 7], []), (3, [0, 8, 9, 10], []), (3, [0, 11, 12, 13], []), (3, [0, 14, 15, 16], []), (3, [0, 17, 18, 19], []), (1, [24, 25], [])] := by decide +kernel
  rw [hf]
  exact List.forall_mem_cons.mpr ⟨(show 0 ≤ w2 0 ∧ w2 0 ≤ 20 from ⟨by omega, by omega⟩), List.forall_mem_cons.mpr ⟨(show 0 ≤ w2 1 ∧ w2 1 ≤ 20 from ⟨by omega, by omega⟩), List.forall_mem_cons.mpr ⟨(show 0 ≤ w2 24 ∧ w2 24 ≤ 7 from ⟨by omega, by omega⟩), List.forall_mem_cons.mpr ⟨(show 0 ≤ w2 25 ∧ w2 25 ≤ 7 from ⟨by omega, by omega⟩), List.forall_mem_cons.mpr ⟨(show w2 0 = w2 1 by omega), List.forall_mem_cons.mpr ⟨(show zR3 (w2 0) (w2 2) (w2 3) (w2 4) by rw [e0, e2, e3, e4]; exact zR3_up o61), List.forall_mem_cons.mpr ⟨(show zR3 (w2 0) (w2 5) (w2 6) (w2 7) by rw [e0, e5, e6, e7]; exact zR3_up o62), List.forall_mem_cons.mpr ⟨(show zR3 (w2 0) (w2 8) (w2 9) (w2 10) by rw [e0, e8, e9, e10]; exact zR3_up o63), List.forall_mem_cons.mpr ⟨(show zR3 (w2 0) (w2 11) (w2 12) (w2 13) by rw [e0, e11, e12, e13]; exact zR3_up o64), List.forall_mem_cons.mpr ⟨(show zR3 (w2 0) (w2 14) (w2 15) (w2 16) by rw [e0, e14, e15, e16]; exact zR3_up o65), List.forall_mem_cons.mpr ⟨(show zR3 (w2 0) (w2 17) (w2 18) (w2 19) by rw [e0, e17, e18, e19]; exact zR3_up o66), List.forall_mem_cons.mpr ⟨(show w2 24 = w2 25 by omega), fun _ h => absurd h List.not_mem_nil⟩⟩⟩⟩⟩⟩⟩⟩⟩⟩⟩⟩
theorem zTR_zpTrl3 {gh : Nat → Int} {w : Nat → Int} {i : Nat} {u : List Int} (hg : zgok gh) (hR : zR w) (hE : zEnv zpTrl3.1 (znuL gh L i xs ++ zwv w ++ u)) (hC : zCds zpTrl3.2.1 (znuL gh L i xs ++ zwv w ++ u)) : zR (zw2 (znuL gh L i xs ++ zwv w ++ u) zpTrl3.2.2.2.2.1) := by
  show zR (zwT gh L i xs w u zpTrl3)
  have g0 := hg.1
  obtain ⟨y7, ya7, yb7⟩ := hE.2 7 [(0, 7)] rfl
  have yc7 := zin1' yb7
  have ya7 : some ((xs (i + 1)).toInt) = some y7 := ya7
  cases ya7
  obtain ⟨y12, ya12, yb12⟩ := hE.2 12 [(3, 3)] rfl
  have yc12 := zin1' yb12
  have ya12 : some (w 0) = some y12 := ya12
  cases ya12
  obtain ⟨y13, ya13, yb13⟩ := hE.2 13 [(3, 3)] rfl
  have yc13 := zin1' yb13
  have ya13 : some (w 1) = some y13 := ya13
  cases ya13
  have hs := zsame (T := zpTrl3) (ch := [0, 1, 26, 27]) (by decide +kernel) (gh := gh) (L := L) (i := i) (xs := xs) (w := w) (u := u)
  have e0 : zwT gh L i xs w u zpTrl3 0 = w 0 + 1 := rfl
  have e1 : zwT gh L i xs w u zpTrl3 1 = w 1 + 1 := rfl
  have e2 := hs 2 (by decide) (by decide)
  have e3 := hs 3 (by decide) (by decide)
  have e4 := hs 4 (by decide) (by decide)
  have e5 := hs 5 (by decide) (by decide)
  have e6 := hs 6 (by decide) (by decide)
  have e7 := hs 7 (by decide) (by decide)
  have e8 := hs 8 (by decide) (by decide)
  have e9 := hs 9 (by decide) (by decide)
  have e10 := hs 10 (by decide) (by decide)
  have e11 := hs 11 (by decide) (by decide)
  have e12 := hs 12 (by decide) (by decide)
  have e13 := hs 13 (by decide) (by decide)
  have e14 := hs 14 (by decide) (by decide)
  have e15 := hs 15 (by decide) (by decide)
  have e16 := hs 16 (by decide) (by decide)
  have e17 := hs 17 (by decide) (by decide)
  have e18 := hs 18 (by decide) (by decide)
  have e19 := hs 19 (by decide) (by decide)
  have e26 : zwT gh L i xs w u zpTrl3 26 = (xs (i + 1)).toInt + 0 := rfl
  have e27 : zwT gh L i xs w u zpTrl3 27 = (xs (i + 1)).toInt + 0 := rfl
  have o60 : w 0 = w 1 := hR (1, [0, 1], []) (List.mem_of_getElem? (i := 60) rfl)
  have o61 : zR3 (w 0) (w 2) (w 3) (w 4) := hR (3, [0, 2, 3, 4], []) (List.mem_of_getElem? (i := 61) rfl)
  have o62 : zR3 (w 0) (w 5) (w 6) (w 7) := hR (3, [0, 5, 6, 7], []) (List.mem_of_getElem? (i := 62) rfl)
  have o63 : zR3 (w 0) (w 8) (w 9) (w 10) := hR (3, [0, 8, 9, 10], []) (List.mem_of_getElem? (i := 63) rfl)
  have o64 : zR3 (w 0) (w 11) (w 12) (w 13) := hR (3, [0, 11, 12, 13], []) (List.mem_of_getElem? (i := 64) rfl)
  have o65 : zR3 (w 0) (w 14) (w 15) (w 16) := hR (3, [0, 14, 15, 16], []) (List.mem_of_getElem? (i := 65) rfl)
  have o66 : zR3 (w 0) (w 17) (w 18) (w 19) := hR (3, [0, 17, 18, 19], []) (List.mem_of_getElem? (i := 66) rfl)
  have o70 : w 26 = w 27 := hR (1, [26, 27], []) (List.mem_of_getElem? (i := 70) rfl)
  generalize zwT gh L i xs w u zpTrl3 = w2 at hs e0 e1 e2 e3 e4 e5 e6 e7 e8 e9 e10 e11 e12 e13 e14 e15 e16 e17 e18 e19 e26 e27 ⊢
  refine zR_of [0, 1, 26, 27] hs hR ?_
  have hf : zpCl.filter (fun c => c.2.1.any (fun k => ([0, 1, 26, 27] : List Nat).contains k)) = [(0, [0], [0, 20]), (0, [1], [0, 20]), (0, [26], [0, 7]), (0, [27], [0, 7]), (1, [0, 1], []), (3, [0, 2, 3, 4], []), (3, [0, 5, 6, 7], []), (3, [0, 8, 9, 10], []), (3, [0, 11, 12, 13], []), (3, [0, 14, 15, 16], []), (3, [0, 17, 18, 19], []), (1, [26, 27], [])] := by decide +kernel
  rw [hf]
  exact List.forall_mem_cons.mpr ⟨(show 0 ≤ w2 0 ∧ w2 0 ≤ 20 from ⟨by omega, by omega⟩), List.forall_mem_cons.mpr ⟨(show 0 ≤ w2 1 ∧ w2 1 ≤ 20 from ⟨by omega, by omega⟩), List.forall_mem_cons.mpr ⟨(show 0 ≤ w2 26 ∧ w2 26 ≤ 7 from ⟨by omega, by omega⟩), List.forall_mem_cons.mpr ⟨(show 0 ≤ w2 27 ∧ w2 27 ≤ 7 from ⟨by omega, by omega⟩), List.forall_mem_cons.mpr ⟨(show w2 0 = w2 1 by omega), List.forall_mem_cons.mpr ⟨(show zR3 (w2 0) (w2 2) (w2 3) (w2 4) by rw [e0, e2, e3, e4]; exact zR3_up o61), List.forall_mem_cons.mpr ⟨(show zR3 (w2 0) (w2 5) (w2 6) (w2 7) by rw [e0, e5, e6, e7]; exact zR3_up o62), List.forall_mem_cons.mpr ⟨(show zR3 (w2 0) (w2 8) (w2 9) (w2 10) by rw [e0, e8, e9, e10]; exact zR3_up o63), List.forall_mem_cons.mpr ⟨(show zR3 (w2 0) (w2 11) (w2 12) (w2 13) by rw [e0, e11, e12, e13]; exact zR3_up o64), List.forall_mem_cons.mpr ⟨(show zR3 (w2 0) (w2 14) (w2 15) (w2 16) by rw [e0, e14, e15, e16]; exact zR3_up o65), List.forall_mem_cons.mpr ⟨(show zR3 (w2 0) (w2 17) (w2 18) (w2 19) by rw [e0, e17, e18, e19]; exact zR3_up o66), List.forall_mem_cons.mpr ⟨(show w2 26 = w2 27 by omega), fun _ h => absurd h List.not_mem_nil⟩⟩⟩⟩⟩⟩⟩⟩⟩⟩⟩⟩
theorem zTR_zpTrl4 {gh : Nat → Int} {w : Nat → Int} {i : Nat} {u : List Int} (hg : zgok gh) (hR : zR w) (hE : zEnv zpTrl4.1 (znuL gh L i xs ++ zwv w ++ u)) (hC : zCds zpTrl4.2.1 (znuL gh L i xs ++ zwv w ++ u)) : zR (zw2 (znuL gh L i xs ++ zwv w ++ u) zpTrl4.2.2.2.2.1) := by
  show zR (zwT gh L i xs w u zpTrl4)
  have g0 := hg.1
  obtain ⟨y7, ya7, yb7⟩ := hE.2 7 [(0, 7)] rfl
  have yc7 := zin1' yb7
  have ya7 : some ((xs (i + 1)).toInt) = some y7 := ya7
  cases ya7
  obtain ⟨y12, ya12, yb12⟩ := hE.2 12 [(4, 4)] rfl
  have yc12 := zin1' yb12
  have ya12 : some (w 0) = some y12 := ya12
  cases ya12
  obtain ⟨y13, ya13, yb13⟩ := hE.2 13 [(4, 4)] rfl
  have yc13 := zin1' yb13
  have ya13 : some (w 1) = some y13 := ya13
  cases ya13
  have hs := zsame (T := zpTrl4) (ch := [0, 1, 28, 29]) (by decide +kernel) (gh := gh) (L := L) (i := i) (xs := xs) (w := w) (u := u)
  have e0 : zwT gh L i xs w u zpTrl4 0 = w 0 + 1 := rfl
  have e1 : zwT gh L i xs w u zpTrl4 1 = w 1 + 1 := rfl
  have e2 := hs 2 (by decide) (by decide)
  have e3 := hs 3 (by decide) (by decide)
  have e4 := hs 4 (by decide) (by decide)
  have e5 := hs 5 (by decide) (by decide)
  have e6 := hs 6 (by decide) (by decide)
  have e7 := hs 7 (by decide) (by decide)
  have e8 := hs 8 (by decide) (by decide)
  have e9 := hs 9 (by decide) (by decide)
  have e10 := hs 10 (by decide) (by decide)
  have e11 := hs 11 (by decide) (by decide)
  have e12 := hs 12 (by decide) (by decide)
  have e13 := hs 13 (by decide) (by decide)
  have e14 := hs 14 (by decide) (by decide)
  have e15 := hs 15 (by decide) (by decide)
  have e16 := hs 16 (by decide) (by decide)
  have e17 := hs 17 (by decide) (by decide)
  have e18 := hs 18 (by decide) (by decide)
  have e19 := hs 19 (by decide) (by decide)
  have e28 : zwT gh L i xs w u zpTrl4 28 = (xs (i + 1)).toInt + 0 := rfl
  have e29 : zwT gh L i xs w u zpTrl4 29 = (xs (i + 1)).toInt + 0 := rfl
  have o60 : w 0 = w 1 := hR (1, [0, 1], []) (List.mem_of_getElem? (i := 60) rfl)
  have o61 : zR3 (w 0) (w 2) (w 3) (w 4) := hR (3, [0, 2, 3, 4], []) (List.mem_of_getElem? (i := 61) rfl)
  have o62 : zR3 (w 0) (w 5) (w 6) (w 7) := hR (3, [0, 5, 6, 7], []) (List.mem_of_getElem? (i := 62) rfl)
  have o63 : zR3 (w 0) (w 8) (w 9) (w 10) := hR (3, [0, 8, 9, 10], []) (List.mem_of_getElem? (i := 63) rfl)
  have o64 : zR3 (w 0) (w 11) (w 12) (w 13) := hR (3, [0, 11, 12, 13], []) (List.mem_of_getElem? (i := 64) rfl)
  have o65 : zR3 (w 0) (w 14) (w 15) (w 16) := hR (3, [0, 14, 15, 16], []) (List.mem_of_getElem? (i := 65) rfl)
  have o66 : zR3 (w 0) (w 17) (w 18) (w 19) := hR (3, [0, 17, 18, 19], []) (List.mem_of_getElem? (i := 66) rfl)
  have o71 : w 28 = w 29 := hR (1, [28, 29], []) (List.mem_of_getElem? (i := 71) rfl)
  generalize zwT gh L i xs w u zpTrl4 = w2 at hs e0 e1 e2 e3 e4 e5 e6 e7 e8 e9 e10 e11 e12 e13 e14 e15 e16 e17 e18 e19 e28 e29 ⊢
  refine zR_of [0, 1, 28, 29] hs hR ?_
  have hf : zpCl.filter (fun c => c.2.1.any (fun k => ([0, 1, 28, 29] : List Nat).contains k)) = [(0, [0], [0, 20]), (0, [1], [0, 20]), (0, [28], [0, 7]), (0, [29], [0, 7]), (1, [0, 1], []), (3, [0, 2, 3, 4], []), (3, [0, 5, 6, 7], []), (3, [0, 8, 9, 10], []), (3, [0, 11, 12, 13], []), (3, [0, 14, 15, 16], []), (3, [0, 17, 18, 19], []), (1, [28, 29], [])] := by decide +kernel
  rw [hf]
  exact List.forall_mem_cons.mpr ⟨(show 0 ≤ w2 0 ∧ w2 0 ≤ 20 from ⟨by omega, by omega⟩), List.forall_mem_cons.mpr ⟨(show 0 ≤ w2 1 ∧ w2 1 ≤ 20 from ⟨by omega, by omega⟩), List.forall_mem_cons.mpr ⟨(show 0 ≤ w2 28 ∧ w2 28 ≤ 7 from ⟨by omega, by omega⟩), List.forall_mem_cons.mpr ⟨(show 0 ≤ w2 29 ∧ w2 29 ≤ 7 from ⟨by omega, by omega⟩), List.forall_mem_cons.mpr ⟨(show w2 0 = w2 1 by omega), List.forall_mem_cons.mpr ⟨(show zR3 (w2 0) (w2 2) (w2 3) (w2 4) by rw [e0, e2, e3, e4]; exact zR3_up o61), List.forall_mem_cons.mpr ⟨(show zR3 (w2 0) (w2 5) (w2 6) (w2 7) by rw [e0, e5, e6, e7]; exact zR3_up o62), List.forall_mem_cons.mpr ⟨(show zR3 (w2 0) (w2 8) (w2 9) (w2 10) by rw [e0, e8, e9, e10]; exact zR3_up o63), List.forall_mem_cons.mpr ⟨(show zR3 (w2 0) (w2 11) (w2 12) (w2 13) by rw [e0, e11, e12, e13]; exact zR3_up o64), List.forall_mem_cons.mpr ⟨(show zR3 (w2 0) (w2 14) (w2 15) (w2 16) by rw [e0, e14, e15, e16]; exact zR3_up o65), List.forall_mem_cons.mpr ⟨(show zR3 (w2 0) (w2 17) (w2 18) (w2 19) by rw [e0, e17, e18, e19]; exact zR3_up o66), List.forall_mem_cons.mpr ⟨(show w2 28 = w2 29 by omega), fun _ h => absurd h List.not_mem_nil⟩⟩⟩⟩⟩⟩⟩⟩⟩⟩⟩⟩
theorem zTR_zpTrl5 {gh : Nat → Int} {w : Nat → Int} {i : Nat} {u : List Int} (hg : zgok gh) (hR : zR w) (hE : zEnv zpTrl5.1 (znuL gh L i xs ++ zwv w ++ u)) (hC : zCds zpTrl5.2.1 (znuL gh L i xs ++ zwv w ++ u)) : zR (zw2 (znuL gh L i xs ++ zwv w ++ u) zpTrl5.2.2.2.2.1) := by
  show zR (zwT gh L i xs w u zpTrl5)
  have g0 := hg.1
  obtain ⟨y7, ya7, yb7⟩ := hE.2 7 [(0, 7)] rfl
  have yc7 := zin1' yb7
  have ya7 : some ((xs (i + 1)).toInt) = some y7 := ya7
  cases ya7
  obtain ⟨y12, ya12, yb12⟩ := hE.2 12 [(5, 5)] rfl
  have yc12 := zin1' yb12
  have ya12 : some (w 0) = some y12 := ya12
  cases ya12
  obtain ⟨y13, ya13, yb13⟩ := hE.2 13 [(5, 5)] rfl
  have yc13 := zin1' yb13
  have ya13 : some (w 1) = some y13 := ya13
  cases ya13
  have hs := zsame (T := zpTrl5) (ch := [0, 1, 30, 31]) (by decide +kernel) (gh := gh) (L := L) (i := i) (xs := xs) (w := w) (u := u)
  have e0 : zwT gh L i xs w u zpTrl5 0 = w 0 + 1 := rfl
  have e1 : zwT gh L i xs w u zpTrl5 1 = w 1 + 1 := rfl
  have e2 := hs 2 (by decide) (by decide)
  have e3 := hs 3 (by decide) (by decide)
  have e4 := hs 4 (by decide) (by decide)
  have e5 := hs 5 (by decide) (by decide)
  have e6 := hs 6 (by decide) (by decide)
  have e7 := hs 7 (by decide) (by decide)
  have e8 := hs 8 (by decide) (by decide)
  have e9 := hs 9 (by decide) (by decide)
  have e10 := hs 10 (by decide) (by decide)
  have e11 := hs 11 (by decide) (by decide)
  have e12 := hs 12 (by decide) (by decide)
  have e13 := hs 13 (by decide) (by decide)
  have e14 := hs 14 (by decide) (by decide)
  have e15 := hs 15 (by decide) (by decide)
  have e16 := hs 16 (by decide) (by decide)
  have e17 := hs 17 (by decide) (by decide)
  have e18 := hs 18 (by decide) (by decide)
  have e19 := hs 19 (by decide) (by decide)
  have e30 : zwT gh L i xs w u zpTrl5 30 = (xs (i + 1)).toInt + 0 := rfl
  have e31 : zwT gh L i xs w u zpTrl5 31 = (xs (i + 1)).toInt + 0 := rfl
  have o60 : w 0 = w 1 := hR (1, [0, 1], []) (List.mem_of_getElem? (i := 60) rfl)
  have o61 : zR3 (w 0) (w 2) (w 3) (w 4) := hR (3, [0, 2, 3, 4], []) (List.mem_of_getElem? (i := 61) rfl)
  have o62 : zR3 (w 0) (w 5) (w 6) (w 7) := hR (3, [0, 5, 6, 7], []) (List.mem_of_getElem? (i := 62) rfl)
  have o63 : zR3 (w 0) (w 8) (w 9) (w 10) := hR (3, [0, 8, 9, 10], []) (List.mem_of_getElem? (i := 63) rfl)
  have o64 : zR3 (w 0) (w 11) (w 12) (w 13) := hR (3, [0, 11, 12, 13], []) (List.mem_of_getElem? (i := 64) rfl)
  have o65 : zR3 (w 0) (w 14) (w 15) (w 16) := hR (3, [0, 14, 15, 16], []) (List.mem_of_getElem? (i := 65) rfl)
  have o66 : zR3 (w 0) (w 17) (w 18) (w 19) := hR (3, [0, 17, 18, 19], []) (List.mem_of_getElem? (i := 66) rfl)
  have o72 : w 30 = w 31 := hR (1, [30, 31], []) (List.mem_of_getElem? (i := 72) rfl)
  generalize zwT gh L i xs w u zpTrl5 = w2 at hs e0 e1 e2 e3 e4 e5 e6 e7 e8 e9 e10 e11 e12 e13 e14 e15 e16 e17 e18 e19 e30 e31 ⊢
  refine zR_of [0, 1, 30, 31] hs hR ?_
  have hf : zpCl.filter (fun c => c.2.1.any (fun k => ([0, 1, 30, 31] : List Nat).contains k)) = [(0, [0], [0, 20]), (0, [1], [0, 20]), (0, [30], [0, 7]), (0, [31], [0, 7]), (1, [0, 1], []), (3, [0, 2, 3, 4], []), (3, [0, 5, 6, 7], []), (3, [0, 8, 9, 10], []), (3, [0, 11, 12, 13], []), (3, [0, 14, 15, 16], []), (3, [0, 17, 18, 19], []), (1, [30, 31], [])] := by decide +kernel
  rw [hf]
  exact List.forall_mem_cons.mpr ⟨(show 0 ≤ w2 0 ∧ w2 0 ≤ 20 from ⟨by omega, by omega⟩), List.forall_mem_cons.mpr ⟨(show 0 ≤ w2 1 ∧ w2 1 ≤ 20 from ⟨by omega, by omega⟩), List.forall_mem_cons.mpr ⟨(show 0 ≤ w2 30 ∧ w2 30 ≤ 7 from ⟨by omega, by omega⟩), List.forall_mem_cons.mpr ⟨(show 0 ≤ w2 31 ∧ w2 31 ≤ 7 from ⟨by omega, by omega⟩), List.forall_mem_cons.mpr ⟨(show w2 0 = w2 1 by omega), List.forall_mem_cons.mpr ⟨(show zR3 (w2 0) (w2 2) (w2 3) (w2 4) by rw [e0, e2, e3, e4]; exact zR3_up o61), List.forall_mem_cons.mpr ⟨(show zR3 (w2 0) (w2 5) (w2 6) (w2 7) by rw [e0, e5, e6, e7]; exact zR3_up o62), List.forall_mem_cons.mpr ⟨(show zR3 (w2 0) (w2 8) (w2 9) (w2 10) by rw [e0, e8, e9, e10]; exact zR3_up o63), List.forall_mem_cons.mpr ⟨(show zR3 (w2 0) (w2 11) (w2 12) (w2 13) by rw [e0, e11, e12, e13]; exact zR3_up o64), List.forall_mem_cons.mpr ⟨(show zR3 (w2 0) (w2 14) (w2 15) (w2 16) by rw [e0, e14, e15, e16]; exact zR3_up o65), List.forall_mem_cons.mpr ⟨(show zR3 (w2 0) (w2 17) (w2 18) (w2 19) by rw [e0, e17, e18, e19]; exact zR3_up o66), List.forall_mem_cons.mpr ⟨(show w2 30 = w2 31 by omega), fun _ h => absurd h List.not_mem_nil⟩⟩⟩⟩⟩⟩⟩⟩⟩⟩⟩⟩
theorem zTR_zpTrl6 {gh : Nat → Int} {w : Nat → Int} {i : Nat} {u : List Int} (hg : zgok gh) (hR : zR w) (hE : zEnv zpTrl6.1 (znuL gh L i xs ++ zwv w ++ u)) (hC : zCds zpTrl6.2.1 (znuL gh L i xs ++ zwv w ++ u)) : zR (zw2 (znuL gh L i xs ++ zwv w ++ u) zpTrl6.2.2.2.2.1) := by
  show zR (zwT gh L i xs w u zpTrl6)
  have g0 := hg.1
  obtain ⟨y7, ya7, yb7⟩ := hE.2 7 [(0, 7)] rfl
  have yc7 := zin1' yb7
  have ya7 : some ((xs (i + 1)).toInt) = some y7 := ya7
  cases ya7
  obtain ⟨y12, ya12, yb12⟩ := hE.2 12 [(6, 6)] rfl
  have yc12 := zin1' yb12
  have ya12 : some (w 0) = some y12 := ya12
  cases ya12
  obtain ⟨y13, ya13, yb13⟩ := hE.2 13 [(6, 6)] rfl
  have yc13 := zin1' yb13
  have ya13 : some (w 1) = some y13 := ya13
  cases ya13
  have hs := zsame (T := zpTrl6) (ch := [0, 1, 32, 33]) (by decide +kernel) (gh := gh) (L := L) (i := i) (xs := xs) (w := w) (u := u)
  have e0 : zwT gh L i xs w u zpTrl6 0 = w 0 + 1 := rfl
  have e1 : zwT gh L i xs w u zpTrl6 1 = w 1 + 1 := rfl
  have e2 := hs 2 (by decide) (by decide)
  have e3 := hs 3 (by decide) (by decide)
  have e4 := hs 4 (by decide) (by decide)
  have e5 := hs 5 (by decide) (by decide)
  have e6 := hs 6 (by decide) (by decide)
  have e7 := hs 7 (by decide) (by decide)
  have e8 := hs 8 (by decide) (by decide)
  have e9 := hs 9 (by decide) (by decide)
  have e10 := hs 10 (by decide) (by decide)
  have e11 := hs 11 (by decide) (by decide)
  have e12 := hs 12 (by decide) (by decide)
  have e13 := hs 13 (by decide) (by decide)
  have e14 := hs 14 (by decide) (by decide)
  have e15 := hs 15 (by decide) (by decide)
  have e16 := hs 16 (by decide) (by decide)
  have e17 := hs 17 (by decide) (by decide)
  have e18 := hs 18 (by decide) (by decide)
  have e19 := hs 19 (by decide) (by decide)
  have e32 : zwT gh L i xs w u zpTrl6 32 = (xs (i + 1)).toInt + 0 := rfl
  have e33 : zwT gh L i xs w u zpTrl6 33 = (xs (i + 1)).toInt + 0 := rfl
  have o60 : w 0 = w 1 := hR (1, [0, 1], []) (List.mem_of_getElem? (i := 60) rfl)
  have o61 : zR3 (w 0) (w 2) (w 3) (w 4) := hR (3, [0, 2, 3, 4], []) (List.mem_of_getElem? (i := 61) rfl)
  have o62 : zR3 (w 0) (w 5) (w 6) (w 7) := hR (3, [0, 5, 6, 7], []) (List.mem_of_getElem? (i := 62) rfl)
  have o63 : zR3 (w 0) (w 8) (w 9) (w 10) := hR (3, [0, 8, 9, 10], []) (List.mem_of_getElem? (i := 63) rfl)
  have o64 : zR3 (w 0) (w 11) (w 12) (w 13) := hR (3, [0, 11, 12, 13], []) (List.mem_of_getElem? (i := 64) rfl)
  have o65 : zR3 (w 0) (w 14) (w 15) (w 16) := hR (3, [0, 14, 15, 16], []) (List.mem_of_getElem? (i := 65) rfl)
  have o66 : zR3 (w 0) (w 17) (w 18) (w 19) := hR (3, [0, 17, 18, 19], []) (List.mem_of_getElem? (i := 66) rfl)
  have o73 : w 32 = w 33 := hR (1, [32, 33], []) (List.mem_of_getElem? (i := 73) rfl)
  generalize zwT gh L i xs w u zpTrl6 = w2 at hs e0 e1 e2 e3 e4 e5 e6 e7 e8 e9 e10 e11 e12 e13 e14 e15 e16 e17 e18 e19 e32 e33 ⊢
  refine zR_of [0, 1, 32, 33] hs hR ?_
  have hf : zpCl.filter (fun c => c.2.1.any (fun k => ([0, 1, 32, 33] : List Nat).contains k)) = [(0, [0], [0, 20]), (0, [1], [0, 20]), (0, [32], [0, 7]), (0, [33], [0, 7]), (1, [0, 1], []), (3, [0, 2, 3, 4], []), (3, [0, 5, 6, 7], []), (3, [0, 8, 9, 10], []), (3, [0, 11, 12, 13], []), (3, [0, 14, 15, 16], []), (3, [0, 17, 18, 19], []), (1, [32, 33], [])] := by decide +kernel
  rw [hf]
  exact List.forall_mem_cons.mpr ⟨(show 0 ≤ w2 0 ∧ w2 0 ≤ 20 from ⟨by omega, by omega⟩), List.forall_mem_cons.mpr ⟨(show 0 ≤ w2 1 ∧ w2 1 ≤ 20 from ⟨by omega, by omega⟩), List.forall_mem_cons.mpr ⟨(show 0 ≤ w2 32 ∧ w2 32 ≤ 7 from ⟨by omega, by omega⟩), List.forall_mem_cons.mpr ⟨(show 0 ≤ w2 33 ∧ w2 33 ≤ 7 from ⟨by omega, by omega⟩), List.forall_mem_cons.mpr ⟨(show w2 0 = w2 1 by omega), List.forall_mem_cons.mpr ⟨(show zR3 (w2 0) (w2 2) (w2 3) (w2 4) by rw [e0, e2, e3, e4]; exact zR3_up o61), List.forall_mem_cons.mpr ⟨(show zR3 (w2 0) (w2 5) (w2 6) (w2 7) by rw [e0, e5, e6, e7]; exact zR3_up o62), List.forall_mem_cons.mpr ⟨(show zR3 (w2 0) (w2 8) (w2 9) (w2 10) by rw [e0, e8, e9, e10]; exact zR3_up o63), List.forall_mem_cons.mpr ⟨(show zR3 (w2 0) (w2 11) (w2 12) (w2 13) by rw [e0, e11, e12, e13]; exact zR3_up o64), List.forall_mem_cons.mpr ⟨(show zR3 (w2 0) (w2 14) (w2 15) (w2 16) by rw [e0, e14, e15, e16]; exact zR3_up o65), List.forall_mem_cons.mpr ⟨(show zR3 (w2 0) (w2 17) (w2 18) (w2 19) by rw [e0, e17, e18, e19]; exact zR3_up o66), List.forall_mem_cons.mpr ⟨(show w2 32 = w2 33 by omega), fun _ h => absurd h List.not_mem_nil⟩⟩⟩⟩⟩⟩⟩⟩⟩⟩⟩⟩
theorem zTR_zpTrl7 {gh : Nat → Int} {w : Nat → Int} {i : Nat} {u : List Int} (hg : zgok gh) (hR : zR w) (hE : zEnv zpTrl7.1 (znuL gh L i xs ++ zwv w ++ u)) (hC : zCds zpTrl7.2.1 (znuL gh L i xs ++ zwv w ++ u)) : zR (zw2 (znuL gh L i xs ++ zwv w ++ u) zpTrl7.2.2.2.2.1) := by
  show zR (zwT gh L i xs w u zpTrl7)
  have g0 := hg.1
  obtain ⟨y7, ya7, yb7⟩ := hE.2 7 [(0, 7)] rfl
  have yc7 := zin1' yb7
  have ya7 : some ((xs (i + 1)).toInt) = some y7 := ya7
  cases ya7
  obtain ⟨y12, ya12, yb12⟩ := hE.2 12 [(7, 7)] rfl
  have yc12 := zin1' yb12
  have ya12 : some (w 0) = some y12 := ya12
  cases ya12
  obtain ⟨y13, ya13, yb13⟩ := hE.2 13 [(7, 7)] rfl
  have yc13 := zin1' yb13
  have ya13 : some (w 1) = some y13 := ya13
  cases ya13
  have hs := zsame (T := zpTrl7) (ch := [0, 1, 34, 35]) (by decide +kernel) (gh := gh) (L := L) (i := i) (xs := xs) (w := w) (u := u)
  have e0 : zwT gh L i xs w u zpTrl7 0 = w 0 + 1 := rfl
  have e1 : zwT gh L i xs w u zpTrl7 1 = w 1 + 1 := rfl
  have e2 := hs 2 (by decide) (by decide)
  have e3 := hs 3 (by decide) (by decide)
  have e4 := hs 4 (by decide) (by decide)
  have e5 := hs 5 (by decide) (by decide)
  have e6 := hs 6 (by decide) (by decide)
  have e7 := hs 7 (by decide) (by decide)
  have e8 := hs 8 (by decide) (by decide)
  have e9 := hs 9 (by decide) (by decide)
  have e10 := hs 10 (by decide) (by decide)
  have e11 := hs 11 (by decide) (by decide)
  have e12 := hs 12 (by decide) (by decide)
  have e13 := hs 13 (by decide) (by decide)
  have e14 := hs 14 (by decide) (by decide)
  have e15 := hs 15 (by decide) (by decide)
  have e16 := hs 16 (by decide) (by decide)
  have e17 := hs 17 (by decide) (by decide)
  have e18 := hs 18 (by decide) (by decide)
  have e19 := hs 19 (by decide) (by decide)
  have e34 : zwT gh L i xs w u zpTrl7 34 = (xs (i + 1)).toInt + 0 := rfl
  have e35 : zwT gh L i xs w u zpTrl7 35 = (xs (i + 1)).toInt + 0 := rfl
  have o60 : w 0 = w 1 := hR (1, [0, 1], []) (List.mem_of_getElem? (i := 60) rfl)
  have o61 : zR3 (w 0) (w 2) (w 3) (w 4) := hR (3, [0, 2, 3, 4], []) (List.mem_of_getElem? (i := 61) rfl)
  have o62 : zR3 (w 0) (w 5) (w 6) (w 7) := hR (3, [0, 5, 6, 7], []) (List.mem_of_getElem? (i := 62) rfl)
  have o63 : zR3 (w 0) (w 8) (w 9) (w 10) := hR (3, [0, 8, 9, 10], []) (List.mem_of_getElem? (i := 63) rfl)
  have o64 : zR3 (w 0) (w 11) (w 12) (w 13) := hR (3, [0, 11, 12, 13], []) (List.mem_of_getElem? (i := 64) rfl)
  have o65 : zR3 (w 0) (w 14) (w 15) (w 16) := hR (3, [0, 14, 15, 16], []) (List.mem_of_getElem? (i := 65) rfl)
  have o66 : zR3 (w 0) (w 17) (w 18) (w 19) := hR (3, [0, 17, 18, 19], []) (List.mem_of_getElem? (i := 66) rfl)
  have o74 : w 34 = w 35 := hR (1, [34, 35], []) (List.mem_of_getElem? (i := 74) rfl)
  generalize zwT gh L i xs w u zpTrl7 = w2 at hs e0 e1 e2 e3 e4 e5 e6 e7 e8 e9 e10 e11 e12 e13 e14 e15 e16 e17 e18 e19 e34 e35 ⊢
  refine zR_of [0, 1, 34, 35] hs hR ?_
  have hf : zpCl.filter (fun c => c.2.1.any (fun k => ([0, 1, 34, 35] : List Nat).contains k)) = [(0, [0], [0, 20]), (0, [1], [0, 20]), (0, [34], [0, 7]), (0, [35], [0, 7]), (1, [0, 1], []), (3, [0, 2, 3, 4], []), (3, [0, 5, 6, 7], []), (3, [0, 8, 9, 10], []), (3, [0, 11, 12, 13], []), (3, [0, 14, 15, 16], []), (3, [0, 17, 18, 19], []), (1, [34, 35], [])] := by decide +kernel
  rw [hf]
  exact List.forall_mem_cons.mpr ⟨(show 0 ≤ w2 0 ∧ w2 0 ≤ 20 from ⟨by omega, by omega⟩), List.forall_mem_cons.mpr ⟨(show 0 ≤ w2 1 ∧ w2 1 ≤ 20 from ⟨by omega, by omega⟩), List.forall_mem_cons.mpr ⟨(show 0 ≤ w2 34 ∧ w2 34 ≤ 7 from ⟨by omega, by omega⟩), List.forall_mem_cons.mpr ⟨(show 0 ≤ w2 35 ∧ w2 35 ≤ 7 from ⟨by omega, by omega⟩), List.forall_mem_cons.mpr ⟨(show w2 0 = w2 1 by omega), List.forall_mem_cons.mpr ⟨(show zR3 (w2 0) (w2 2) (w2 3) (w2 4) by rw [e0, e2, e3, e4]; exact zR3_up o61), List.forall_mem_cons.mpr ⟨(show zR3 (w2 0) (w2 5) (w2 6) (w2 7) by rw [e0, e5, e6, e7]; exact zR3_up o62), List.forall_mem_cons.mpr ⟨(show zR3 (w2 0) (w2 8) (w2 9) (w2 10) by rw [e0, e8, e9, e10]; exact zR3_up o63), List.forall_mem_cons.mpr ⟨(show zR3 (w2 0) (w2 11) (w2 12) (w2 13) by rw [e0, e11, e12, e13]; exact zR3_up o64), List.forall_mem_cons.mpr ⟨(show zR3 (w2 0) (w2 14) (w2 15) (w2 16) by rw [e0, e14, e15, e16]; exact zR3_up o65), List.forall_mem_cons.mpr ⟨(show zR3 (w2 0) (w2 17) (w2 18) (w2 19) by rw [e0, e17, e18, e19]; exact zR3_up o66), List.forall_mem_cons.mpr ⟨(show w2 34 = w2 35 by omega), fun _ h => absurd h List.not_mem_nil⟩⟩⟩⟩⟩⟩⟩⟩⟩⟩⟩⟩
theorem zTR_zpTrl8 {gh : Nat → Int} {w : Nat → Int} {i : Nat} {u : List Int} (hg : zgok gh) (hR : zR w) (hE : zEnv zpTrl8.1 (znuL gh L i xs ++ zwv w ++ u)) (hC : zCds zpTrl8.2.1 (znuL gh L i xs ++ zwv w ++ u)) : zR (zw2 (znuL gh L i xs ++ zwv w ++ u) zpTrl8.2.2.2.2.1) := by
  show zR (zwT gh L i xs w u zpTrl8)
  have g0 := hg.1
  obtain ⟨y7, ya7, yb7⟩ := hE.2 7 [(0, 7)] rfl
  have yc7 := zin1' yb7
  have ya7 : some ((xs (i + 1)).toInt) = some y7 := ya7
  cases ya7
  obtain ⟨y12, ya12, yb12⟩ := hE.2 12 [(8, 8)] rfl
  have yc12 := zin1' yb12
  have ya12 : some (w 0) = some y12 := ya12
  cases ya12
  obtain ⟨y13, ya13, yb13⟩ := hE.2 13 [(8, 8)] rfl
  have yc13 := zin1' yb13
  have ya13 : some (w 1) = some y13 := ya13
  cases ya13
  have hs := zsame (T := zpTrl8) (ch := [0, 1, 36, 37]) (by decide +kernel) (gh := gh) (L := L) (i := i) (xs := xs) (w := w) (u := u)
  have e0 : zwT gh L i xs w u zpTrl8 0 = w 0 + 1 := rfl
  have e1 : zwT gh L i xs w u zpTrl8 1 = w 1 + 1 := rfl
  have e2 := hs 2 (by decide) (by decide)
  have e3 := hs 3 (by decide) (by decide)
  have e4 := hs 4 (by decide) (by decide)
  have e5 := hs 5 (by decide) (by decide)
  have e6 := hs 6 (by decide) (by decide)
  have e7 := hs 7 (by decide) (by decide)
  have e8 := hs 8 (by decide) (by decide)
  have e9 := hs 9 (by decide) (by decide)
  have e10 := hs 10 (by decide) (by decide)
  have e11 := hs 11 (by decide) (by decide)
  have e12 := hs 12 (by decide) (by decide)
  have e13 := hs 13 (by decide) (by decide)
  have e14 := hs 14 (by decide) (by decide)
  have e15 := hs 15 (by decide) (by decide)
  have e16 := hs 16 (by decide) (by decide)
  have e17 := hs 17 (by decide) (by decide)
  have e18 := hs 18 (by decide) (by decide)
  have e19 := hs 19 (by decide) (by decide)
  have e36 : zwT gh L i xs w u zpTrl8 36 = (xs (i + 1)).toInt + 0 := rfl
  have e37 : zwT gh L i xs w u zpTrl8 37 = (xs (i + 1)).toInt + 0 := rfl
  have o60 : w 0 = w 1 := hR (1, [0, 1], []) (List.mem_of_getElem? (i := 60) rfl)
  have o61 : zR3 (w 0) (w 2) (w 3) (w 4) := hR (3, [0, 2, 3, 4], []) (List.mem_of_getElem? (i := 61) rfl)
  have o62 : zR3 (w 0) (w 5) (w 6) (w 7) := hR (3, [0, 5, 6, 7], []) (List.mem_of_getElem? (i := 62) rfl)
  have o63 : zR3 (w 0) (w 8) (w 9) (w 10) := hR (3, [0, 8, 9, 10], []) (List.mem_of_getElem? (i := 63) rfl)
  have o64 : zR3 (w 0) (w 11) (w 12) (w 13) := hR (3, [0, 11, 12, 13], []) (List.mem_of_getElem? (i := 64) rfl)
  have o65 : zR3 (w 0) (w 14) (w 15) (w 16) := hR (3, [0, 14, 15, 16], []) (List.mem_of_getElem? (i := 65) rfl)
  have o66 : zR3 (w 0) (w 17) (w 18) (w 19) := hR (3, [0, 17, 18, 19], []) (List.mem_of_getElem? (i := 66) rfl)
  have o75 : w 36 = w 37 := hR (1, [36, 37], []) (List.mem_of_getElem? (i := 75) rfl)
  generalize zwT gh L i xs w u zpTrl8 = w2 at hs e0 e1 e2 e3 e4 e5 e6 e7 e8 e9 e10 e11 e12 e13 e14 e15 e16 e17 e18 e19 e36 e37 ⊢
  refine zR_of [0, 1, 36, 37] hs hR ?_
  have hf : zpCl.filter (fun c => c.2.1.any (fun k => ([0, 1, 36, 37] : List Nat).contains k)) = [(0, [0], [0, 20]), (0, [1], [0, 20]), (0, [36], [0, 7]), (0, [37], [0, 7]), (1, [0, 1], []), (3, [0, 2, 3, 4], []), (3, [0, 5, 6, 7], []), (3, [0, 8, 9, 10], []), (3, [0, 11, 12, 13], []), (3, [0, 14, 15, 16], []), (3, [0, 17, 18, 19], []), (1, [36, 37], [])] := by decide +kernel
  rw [hf]
  exact List.forall_mem_cons.mpr ⟨(show 0 ≤ w2 0 ∧ w2 0 ≤ 20 from ⟨by omega, by omega⟩), List.forall_mem_cons.mpr ⟨(show 0 ≤ w2 1 ∧ w2 1 ≤ 20 from ⟨by omega, by omega⟩), List.forall_mem_cons.mpr ⟨(show 0 ≤ w2 36 ∧ w2 36 ≤ 7 from ⟨by omega, by omega⟩), List.forall_mem_cons.mpr ⟨(show 0 ≤ w2 37 ∧ w2 37 ≤ 7 from ⟨by omega, by omega⟩), List.forall_mem_cons.mpr ⟨(show w2 0 = w2 1 by omega), List.forall_mem_cons.mpr ⟨(show zR3 (w2 0) (w2 2) (w2 3) (w2 4) by rw [e0, e2, e3, e4]; exact zR3_up o61), List.forall_mem_cons.mpr ⟨(show zR3 (w2 0) (w2 5) (w2 6) (w2 7) by rw [e0, e5, e6, e7]; exact zR3_up o62), List.forall_mem_cons.mpr ⟨(show zR3 (w2 0) (w2 8) (w2 9) (w2 10) by rw [e0, e8, e9, e10]; exact zR3_up o63), List.forall_mem_cons.mpr ⟨(show zR3 (w2 0) (w2 11) (w2 12) (w2 13) by rw [e0, e11, e12, e13]; exact zR3_up o64), List.forall_mem_cons.mpr ⟨(show zR3 (w2 0) (w2 14) (w2 15) (w2 16) by rw [e0, e14, e15, e16]; exact zR3_up o65), List.forall_mem_cons.mpr ⟨(show zR3 (w2 0) (w2 17) (w2 18) (w2 19) by rw [e0, e17, e18, e19]; exact zR3_up o66), List.forall_mem_cons.mpr ⟨(show w2 36 = w2 37 by omega), fun _ h => absurd h List.not_mem_nil⟩⟩⟩⟩⟩⟩⟩⟩⟩⟩⟩⟩
theorem zTR_zpTrl9 {gh : Nat → Int} {w : Nat → Int} {i : Nat} {u : List Int} (hg : zgok gh) (hR : zR w) (hE : zEnv zpTrl9.1 (znuL gh L i xs ++ zwv w ++ u)) (hC : zCds zpTrl9.2.1 (znuL gh L i xs ++ zwv w ++ u)) : zR (zw2 (znuL gh L i xs ++ zwv w ++ u) zpTrl9.2.2.2.2.1) := by
  show zR (zwT gh L i xs w u zpTrl9)
  have g0 := hg.1
  obtain ⟨y7, ya7, yb7⟩ := hE.2 7 [(0, 7)] rfl
  have yc7 := zin1' yb7
  have ya7 : some ((xs (i + 1)).toInt) = some y7 := ya7
  cases ya7
  obtain ⟨y12, ya12, yb12⟩ := hE.2 12 [(9, 9)] rfl
  have yc12 := zin1' yb12
  have ya12 : some (w 0) = some y12 := ya12
  cases ya12
  obtain ⟨y13, ya13, yb13⟩ := hE.2 13 [(9, 9)] rfl
  have yc13 := zin1' yb13
  have ya13 : some (w 1) = some y13 := ya13
  cases ya13
  have hs := zsame (T := zpTrl9) (ch := [0, 1, 38, 39]) (by decide +kernel) (gh := gh) (L := L) (i := i) (xs := xs) (w := w) (u := u)
  have e0 : zwT gh L i xs w u zpTrl9 0 = w 0 + 1 := rfl
  have e1 : zwT gh L i xs w u zpTrl9 1 = w 1 + 1 := rfl
  have e2 := hs 2 (by decide) (by decide)
  have e3 := hs 3 (by decide) (by decide)
  have e4 := hs 4 (by decide) (by decide)
  have e5 := hs 5 (by decide) (by decide)
  have e6 := hs 6 (by decide) (by decide)
  have e7 := hs 7 (by decide) (by decide)
  have e8 := hs 8 (by decide) (by decide)
  have e9 := hs 9 (by decide) (by decide)
  have e10 := hs 10 (by decide) (by decide)
  have e11 := hs 11 (by decide) (by decide)
  have e12 := hs 12 (by decide) (by decide)
  have e13 := hs 13 (by decide) (by decide)
  have e14 := hs 14 (by decide) (by decide)
  have e15 := hs 15 (by decide) (by decide)
  have e16 := hs 16 (by decide) (by decide)
  have e17 := hs 17 (by decide) (by decide)
  have e18 := hs 18 (by decide) (by decide)
  have e19 := hs 19 (by decide) (by decide)
  have e38 : zwT gh L i xs w u zpTrl9 38 = (xs (i + 1)).toInt + 0 := rfl
  have e39 : zwT gh L i xs w u zpTrl9 39 = (xs (i + 1)).toInt + 0 := rfl
  have o60 : w 0 = w 1 := hR (1, [0, 1], []) (List.mem_of_getElem? (i := 60) rfl)
  have o61 : zR3 (w 0) (w 2) (w 3) (w 4) := hR (3, [0, 2, 3, 4], []) (List.mem_of_getElem? (i := 61) rfl)
  have o62 : zR3 (w 0) (w 5) (w 6) (w 7) := hR (3, [0, 5, 6, 7], []) (List.mem_of_getElem? (i := 62) rfl)
  have o63 : zR3 (w 0) (w 8) (w 9) (w 10) := hR (3, [0, 8, 9, 10], []) (List.mem_of_getElem? (i := 63) rfl)
  have o64 : zR3 (w 0) (w 11) (w 12) (w 13) := hR (3, [0, 11, 12, 13], []) (List.mem_of_getElem? (i := 64) rfl)
  have o65 : zR3 (w 0) (w 14) (w 15) (w 16) := hR (3, [0, 14, 15, 16], []) (List.mem_of_getElem? (i := 65) rfl)
  have o66 : zR3 (w 0) (w 17) (w 18) (w 19) := hR (3, [0, 17, 18, 19], []) (List.mem_of_getElem? (i := 66) rfl)
  have o76 : w 38 = w 39 := hR (1, [38, 39], []) (List.mem_of_getElem? (i := 76) rfl)
  generalize zwT gh L i xs w u zpTrl9 = w2 at hs e0 e1 e2 e3 e4 e5 e6 e7 e8 e9 e10 e11 e12 e13 e14 e15 e16 e17 e18 e19 e38 e39 ⊢
  refine zR_of [0, 1, 38, 39] hs hR ?_
  have hf : zpCl.filter (fun c => c.2.1.any (fun k => ([0, 1, 38, 39] : List Nat).contains k)) = [(0, [0], [0, 20]), (0, [1], [0, 20]), (0, [38], [0, 7]), (0, [39], [0, 7]), (1, [0, 1], []), (3, [0, 2, 3, 4], []), (3, [0, 5, 6, 7], []), (3, [0, 8, 9, 10], []), (3, [0, 11, 12, 13], []), (3, [0, 14, 15, 16], []), (3, [0, 17, 18, 19], []), (1, [38, 39], [])] := by decide +kernel
  rw [hf]
  exact List.forall_mem_cons.mpr ⟨(show 0 ≤ w2 0 ∧ w2 0 ≤ 20 from ⟨by omega, by omega⟩), List.forall_mem_cons.mpr ⟨(show 0 ≤ w2 1 ∧ w2 1 ≤ 20 from ⟨by omega, by omega⟩), List.forall_mem_cons.mpr ⟨(show 0 ≤ w2 38 ∧ w2 38 ≤ 7 from ⟨by omega, by omega⟩), List.forall_mem_cons.mpr ⟨(show 0 ≤ w2 39 ∧ w2 39 ≤ 7 from ⟨by omega, by omega⟩), List.forall_mem_cons.mpr ⟨(show w2 0 = w2 1 by omega), List.forall_mem_cons.mpr ⟨(show zR3 (w2 0) (w2 2) (w2 3) (w2 4) by rw [e0, e2, e3, e4]; exact zR3_up o61), List.forall_mem_cons.mpr ⟨(show zR3 (w2 0) (w2 5) (w2 6) (w2 7) by rw [e0, e5, e6, e7]; exact zR3_up o62), List.forall_mem_cons.mpr ⟨(show zR3 (w2 0) (w2 8) (w2 9) (w2 10) by rw [e0, e8, e9, e10]; exact zR3_up o63), List.forall_mem_cons.mpr ⟨(show zR3 (w2 0) (w2 11) (w2 12) (w2 13) by rw [e0, e11, e12, e13]; exact zR3_up o64), List.forall_mem_cons.mpr ⟨(show zR3 (w2 0) (w2 14) (w2 15) (w2 16) by rw [e0, e14, e15, e16]; exact zR3_up o65), List.forall_mem_cons.mpr ⟨(show zR3 (w2 0) (w2 17) (w2 18) (w2 19) by rw [e0, e17, e18, e19]; exact zR3_up o66), List.forall_mem_cons.mpr ⟨(show w2 38 = w2 39 by omega), fun _ h => absurd h List.not_mem_nil⟩⟩⟩⟩⟩⟩⟩⟩⟩⟩⟩⟩
theorem zTR_zpTrl10 {gh : Nat → Int} {w : Nat → Int} {i : Nat} {u : List Int} (hg : zgok gh) (hR : zR w) (hE : zEnv zpTrl10.1 (znuL gh L i xs ++ zwv w ++ u)) (hC : zCds zpTrl10.2.1 (znuL gh L i xs ++ zwv w ++ u)) : zR (zw2 (znuL gh L i xs ++ zwv w ++ u) zpTrl10.2.2.2.2.1) := by
  show zR (zwT gh L i xs w u zpTrl10)
  have g0 := hg.1
  obtain ⟨y7, ya7, yb7⟩ := hE.2 7 [(0, 7)] rfl
  have yc7 := zin1' yb7
  have ya7 : some ((xs (i + 1)).toInt) = some y7 := ya7
  cases ya7
  obtain ⟨y12, ya12, yb12⟩ := hE.2 12 [(10, 10)] rfl
  have yc12 := zin1' yb12
  have ya12 : some (w 0) = some y12 := ya12
  cases ya12
  obtain ⟨y13, ya13, yb13⟩ := hE.2 13 [(10, 10)] rfl
  have yc13 := zin1' yb13
  have ya13 : some (w 1) = some y13 := ya13
  cases ya13
  have hs := zsame (T := zpTrl10) (ch := [0, 1, 40, 41]) (by decide +kernel) (gh := gh) (L := L) (i := i) (xs := xs) (w := w) (u := u)
  have e0 : zwT gh L i xs w u zpTrl10 0 = w 0 + 1 := rfl
  have e1 : zwT gh L i xs w u zpTrl10 1 = w 1 + 1 := rfl
  have e2 := hs 2 (by decide) (by decide)
  have e3 := hs 3 (by decide) (by decide)
  have e4 := hs 4 (by decide) (by decide)
  have e5 := hs 5 (by decide) (by decide)
  have e6 := hs 6 (by decide) (by decide)
  have e7 := hs 7 (by decide) (by decide)
  have e8 := hs 8 (by decide) (by decide)
  have e9 := hs 9 (by decide) (by decide)
  have e10 := hs 10 (by decide) (by decide)
  have e11 := hs 11 (by decide) (by decide)
  have e12 := hs 12 (by decide) (by decide)
  have e13 := hs 13 (by decide) (by decide)
  have e14 := hs 14 (by decide) (by decide)
  have e15 := hs 15 (by decide) (by decide)
  have e16 := hs 16 (by decide) (by decide)
  have e17 := hs 17 (by decide) (by decide)
  have e18 := hs 18 (by decide) (by decide)
  have e19 := hs 19 (by decide) (by decide)
  have e40 : zwT gh L i xs w u zpTrl10 40 = (xs (i + 1)).toInt + 0 := rfl
  have e41 : zwT gh L i xs w u zpTrl10 41 = (xs (i + 1)).toInt + 0 := rfl
  have o60 : w 0 = w 1 := hR (1, [0, 1], []) (List.mem_of_getElem? (i := 60) rfl)
  have o61 : zR3 (w 0) (w 2) (w 3) (w 4) := hR (3, [0, 2, 3, 4], []) (List.mem_of_getElem? (i := 61) rfl)
  have o62 : zR3 (w 0) (w 5) (w 6) (w 7) := hR (3, [0, 5, 6, 7], []) (List.mem_of_getElem? (i := 62) rfl)
  have o63 : zR3 (w 0) (w 8) (w 9) (w 10) := hR (3, [0, 8, 9, 10], []) (List.mem_of_getElem? (i := 63) rfl)
  have o64 : zR3 (w 0) (w 11) (w 12) (w 13) := hR (3, [0, 11, 12, 13], []) (List.mem_of_getElem? (i := 64) rfl)
  have o65 : zR3 (w 0) (w 14) (w 15) (w 16) := hR (3, [0, 14, 15, 16], []) (List.mem_of_getElem? (i := 65) rfl)
  have o66 : zR3 (w 0) (w 17) (w 18) (w 19) := hR (3, [0, 17, 18, 19], []) (List.mem_of_getElem? (i := 66) rfl)
  have o77 : w 40 = w 41 := hR (1, [40, 41], []) (List.mem_of_getElem? (i := 77) rfl)
  generalize zwT gh L i xs w u zpTrl10 = w2 at hs e0 e1 e2 e3 e4 e5 e6 e7 e8 e9 e10 e11 e12 e13 e14 e15 e16 e17 e18 e19 e40 e41 ⊢
  refine zR_of [0, 1, 40, 41] hs hR ?_
  have hf : zpCl.filter (fun c => c.2.1.any (fun k => ([0, 1, 40, 41] : List Nat).contains k)) = [(0, [0], [0, 20]), (0, [1], [0, 20]), (0, [40], [0, 7]), (0, [41], [0, 7]), (1, [0, 1], []), (3, [0, 2, 3, 4], []), (3, [0, 5, 6, 7], []), (3, [0, 8, 9, 10], []), (3, [0, 11, 12, 13], []), (3, [0, 14, 15, 16], []), (3, [0, 17, 18, 19], []), (1, [40, 41], [])] := by decide +kernel
  rw [hf]
  exact List.forall_mem_cons.mpr ⟨(show 0 ≤ w2 0 ∧ w2 0 ≤ 20 from ⟨by omega, by omega⟩), List.forall_mem_cons.mpr ⟨(show 0 ≤ w2 1 ∧ w2 1 ≤ 20 from ⟨by omega, by omega⟩), List.forall_mem_cons.mpr ⟨(show 0 ≤ w2 40 ∧ w2 40 ≤ 7 from ⟨by omega, by omega⟩), List.forall_mem_cons.mpr ⟨(show 0 ≤ w2 41 ∧ w2 41 ≤ 7 from ⟨by omega, by omega⟩), List.forall_mem_cons.mpr ⟨(show w2 0 = w2 1 by omega), List.forall_mem_cons.mpr ⟨(show zR3 (w2 0) (w2 2) (w2 3) (w2 4) by rw [e0, e2, e3, e4]; exact zR3_up o61), List.forall_mem_cons.mpr ⟨(show zR3 (w2 0) (w2 5) (w2 6) (w2 7) by rw [e0, e5, e6, e7]; exact zR3_up o62), List.forall_mem_cons.mpr ⟨(show zR3 (w2 0) (w2 8) (w2 9) (w2 10) by rw [e0, e8, e9, e10]; exact zR3_up o63), List.forall_mem_cons.mpr ⟨(show zR3 (w2 0) (w2 11) (w2 12) (w2 13) by rw [e0, e11, e12, e13]; exact zR3_up o64), List.forall_mem_cons.mpr ⟨(show zR3 (w2 0) (w2 14) (w2 15) (w2 16) by rw [e0, e14, e15, e16]; exact zR3_up o65), List.forall_mem_cons.mpr ⟨(show zR3 (w2 0) (w2 17) (w2 18) (w2 19) by rw [e0, e17, e18, e19]; exact zR3_up o66), List.forall_mem_cons.mpr ⟨(show w2 40 = w2 41 by omega), fun _ h => absurd h List.not_mem_nil⟩⟩⟩⟩⟩⟩⟩⟩⟩⟩⟩⟩
theorem zTR_zpTrl11 {gh : Nat → Int} {w : Nat → Int} {i : Nat} {u : List Int} (hg : zgok gh) (hR : zR w) (hE : zEnv zpTrl11.1 (znuL gh L i xs ++ zwv w ++ u)) (hC : zCds zpTrl11.2.1 (znuL gh L i xs ++ zwv w ++ u)) : zR (zw2 (znuL gh L i xs ++ zwv w ++ u) zpTrl11.2.2.2.2.1) := by
  show zR (zwT gh L i xs w u zpTrl11)
  have g0 := hg.1
  obtain ⟨y7, ya7, yb7⟩ := hE.2 7 [(0, 7)] rfl
  have yc7 := zin1' yb7
  have ya7 : some ((xs (i + 1)).toInt) = some y7 := ya7
  cases ya7
  obtain ⟨y12, ya12, yb12⟩ := hE.2 12 [(11, 11)] rfl
  have yc12 := zin1' yb12
  have ya12 : some (w 0) = some y12 := ya12
  cases ya12
  obtain ⟨y13, ya13, yb13⟩ := hE.2 13 [(11, 11)] rfl
  have yc13 := zin1' yb13
  have ya13 : some (w 1) = some y13 := ya13
  cases ya13
  have hs := zsame (T := zpTrl11) (ch := [0, 1, 42, 43]) (by decide +kernel) (gh := gh) (L := L) (i := i) (xs := xs) (w := w) (u := u)
  have e0 : zwT gh L i xs w u zpTrl11 0 = w 0 + 1 := rfl
  have e1 : zwT gh L i xs w u zpTrl11 1 = w 1 + 1 := rfl
  have e2 := hs 2 (by decide) (by decide)
  have e3 := hs 3 (by decide) (by decide)
  have e4 := hs 4 (by decide) (by decide)
  have e5 := hs 5 (by decide) (by decide)
  have e6 := hs 6 (by decide) (by decide)
  have e7 := hs 7 (by decide) (by decide)
  have e8 := hs 8 (by decide) (by decide)
  have e9 := hs 9 (by decide) (by decide)
  have e10 := hs 10 (by decide) (by decide)
  have e11 := hs 11 (by decide) (by decide)
  have e12 := hs 12 (by decide) (by decide)
  have e13 := hs 13 (by decide) (by decide)
  have e14 := hs 14 (by decide) (by decide)
  have e15 := hs 15 (by decide) (by decide)
  have e16 := hs 16 (by decide) (by decide)
  have e17 := hs 17 (by decide) (by decide)
  have e18 := hs 18 (by decide) (by decide)
  have e19 := hs 19 (by decide) (by decide)
  have e42 : zwT gh L i xs w u zpTrl11 42 = (xs (i + 1)).toInt + 0 := rfl
  have e43 : zwT gh L i xs w u zpTrl11 43 = (xs (i + 1)).toInt + 0 := rfl
  have o60 : w 0 = w 1 := hR (1, [0, 1], []) (List.mem_of_getElem? (i := 60) rfl)
  have o61 : zR3 (w 0) (w 2) (w 3) (w 4) := hR (3, [0, 2, 3, 4], []) (List.mem_of_getElem? (i := 61) rfl)
  have o62 : zR3 (w 0) (w 5) (w 6) (w 7) := hR (3, [0, 5, 6, 7], []) (List.mem_of_getElem? (i := 62) rfl)
  have o63 : zR3 (w 0) (w 8) (w 9) (w 10) := hR (3, [0, 8, 9, 10], []) (List.mem_of_getElem? (i := 63) rfl)
  have o64 : zR3 (w 0) (w 11) (w 12) (w 13) := hR (3, [0, 11, 12, 13], []) (List.mem_of_getElem? (i := 64) rfl)
  have o65 : zR3 (w 0) (w 14) (w 15) (w 16) := hR (3, [0, 14, 15, 16], []) (List.mem_of_getElem? (i := 65) rfl)
  have o66 : zR3 (w 0) (w 17) (w 18) (w 19) := hR (3, [0, 17, 18, 19], []) (List.mem_of_getElem? (i := 66) rfl)
  have o78 : w 42 = w 43 := hR (1, [42, 43], []) (List.mem_of_getElem? (i := 78) rfl)
  generalize zwT gh L i xs w u zpTrl11 = w2 at hs e0 e1 e2 e3 e4 e5 e6 e7 e8 e9 e10 e11 e12 e13 e14 e15 e16 e17 e18 e19 e42 e43 ⊢
  refine zR_of [0, 1, 42, 43] hs hR ?_
  have hf : zpCl.filter (fun c => c.2.1.any (fun k => ([0, 1, 42, 43] : List Nat).contains k)) = [(0, [0], [0, 20]), (0, [1], [0, 20]), (0, [42], [0, 7]), (0, [43], [0, 7]), (1, [0, 1], []), (3, [0, 2, 3, 4], []), (3, [0, 5, 6, 7], []), (3, [0, 8, 9, 10], []), (3, [0, 11, 12, 13], []), (3, [0, 14, 15, 16], []), (3, [0, 17, 18, 19], []), (1, [42, 43], [])] := by decide +kernel
  rw [hf]
  exact List.forall_mem_cons.mpr ⟨(show 0 ≤ w2 0 ∧ w2 0 ≤ 20 from ⟨by omega, by omega⟩), List.forall_mem_cons.mpr ⟨(show 0 ≤ w2 1 ∧ w2 1 ≤ 20 from ⟨by omega, by omega⟩), List.forall_mem_cons.mpr ⟨(show 0 ≤ w2 42 ∧ w2 42 ≤ 7 from ⟨by omega, by omega⟩), List.forall_mem_cons.mpr ⟨(show 0 ≤ w2 43 ∧ w2 43 ≤ 7 from ⟨by omega, by omega⟩), List.forall_mem_cons.mpr ⟨(show w2 0 = w2 1 by omega), List.forall_mem_cons.mpr ⟨(show zR3 (w2 0) (w2 2) (w2 3) (w2 4) by rw [e0, e2, e3, e4]; exact zR3_up o61), List.forall_mem_cons.mpr ⟨(show zR3 (w2 0) (w2 5) (w2 6) (w2 7) by rw [e0, e5, e6, e7]; exact zR3_up o62), List.forall_mem_cons.mpr ⟨(show zR3 (w2 0) (w2 8) (w2 9) (w2 10) by rw [e0, e8, e9, e10]; exact zR3_up o63), List.forall_mem_cons.mpr ⟨(show zR3 (w2 0) (w2 11) (w2 12) (w2 13) by rw [e0, e11, e12, e13]; exact zR3_up o64), List.forall_mem_cons.mpr ⟨(show zR3 (w2 0) (w2 14) (w2 15) (w2 16) by rw [e0, e14, e15, e16]; exact zR3_up o65), List.forall_mem_cons.mpr ⟨(show zR3 (w2 0) (w2 17) (w2 18) (w2 19) by rw [e0, e17, e18, e19]; exact zR3_up o66), List.forall_mem_cons.mpr ⟨(show w2 42 = w2 43 by omega), fun _ h => absurd h List.not_mem_nil⟩⟩⟩⟩⟩⟩⟩⟩⟩⟩⟩⟩
theorem zTR_zpTrl12 {gh : Nat → Int} {w : Nat → Int} {i : Nat} {u : List Int} (hg : zgok gh) (hR : zR w) (hE : zEnv zpTrl12.1 (znuL gh L i xs ++ zwv w ++ u)) (hC : zCds zpTrl12.2.1 (znuL gh L i xs ++ zwv w ++ u)) : zR (zw2 (znuL gh L i xs ++ zwv w ++ u) zpTrl12.2.2.2.2.1) := by
  show zR (zwT gh L i xs w u zpTrl12)
  have g0 := hg.1
  obtain ⟨y7, ya7, yb7⟩ := hE.2 7 [(0, 7)] rfl
  have yc7 := zin1' yb7
  have ya7 : some ((xs (i + 1)).toInt) = some y7 := ya7
  cases ya7
  obtain ⟨y12, ya12, yb12⟩ := hE.2 12 [(12, 12)] rfl
  have yc12 := zin1' yb12
  have ya12 : some (w 0) = some y12 := ya12
  cases ya12
  obtain ⟨y13, ya13, yb13⟩ := hE.2 13 [(12, 12)] rfl
  have yc13 := zin1' yb13
  have ya13 : some (w 1) = some y13 := ya13
  cases ya13
  have hs := zsame (T := zpTrl12) (ch := [0, 1, 44, 45]) (by decide +kernel) (gh := gh) (L := L) (i := i) (xs := xs) (w := w) (u := u)
  have e0 : zwT gh L i xs w u zpTrl12 0 = w 0 + 1 := rfl
  have e1 : zwT gh L i xs w u zpTrl12 1 = w 1 + 1 := rfl
  have e2 := hs 2 (by decide) (by decide)
  have e3 := hs 3 (by decide) (by decide)
  have e4 := hs 4 (by decide) (by decide)
  have e5 := hs 5 (by decide) (by decide)
  have e6 := hs 6 (by decide) (by decide)
  have e7 := hs 7 (by decide) (by decide)
  have e8 := hs 8 (by decide) (by decide)
  have e9 := hs 9 (by decide) (by decide)
  have e10 := hs 10 (by decide) (by decide)
  have e11 := hs 11 (by decide) (by decide)
  have e12 := hs 12 (by decide) (by decide)
  have e13 := hs 13 (by decide) (by decide)
  have e14 := hs 14 (by decide) (by decide)
  have e15 := hs 15 (by decide) (by decide)
  have e16 := hs 16 (by decide) (by decide)
  have e17 := hs 17 (by decide) (by decide)
  have e18 := hs 18 (by decide) (by decide)
  have e19 := hs 19 (by decide) (by decide)
  have e44 : zwT gh L i xs w u zpTrl12 44 = (xs (i + 1)).toInt + 0 := rfl
  have e45 : zwT gh L i xs w u zpTrl12 45 = (xs (i + 1)).toInt + 0 := rfl
  have o60 : w 0 = w 1 := hR (1, [0, 1], []) (List.mem_of_getElem? (i := 60) rfl)
  have o61 : zR3 (w 0) (w 2) (w 3) (w 4) := hR (3, [0, 2, 3, 4], []) (List.mem_of_getElem? (i := 61) rfl)
  have o62 : zR3 (w 0) (w 5) (w 6) (w 7) := hR (3, [0, 5, 6, 7], []) (List.mem_of_getElem? (i := 62) rfl)
  have o63 : zR3 (w 0) (w 8) (w 9) (w 10) := hR (3, [0, 8, 9, 10], []) (List.mem_of_getElem? (i := 63) rfl)
  have o64 : zR3 (w 0) (w 11) (w 12) (w 13) := hR (3, [0, 11, 12, 13], []) (List.mem_of_getElem? (i := 64) rfl)
  have o65 : zR3 (w 0) (w 14) (w 15) (w 16) := hR (3, [0, 14, 15, 16], []) (List.mem_of_getElem? (i := 65) rfl)
  have o66 : zR3 (w 0) (w 17) (w 18) (w 19) := hR (3, [0, 17, 18, 19], []) (List.mem_of_getElem? (i := 66) rfl)
  have o79 : w 44 = w 45 := hR (1, [44, 45], []) (List.mem_of_getElem? (i := 79) rfl)
  generalize zwT gh L i xs w u zpTrl12 = w2 at hs e0 e1 e2 e3 e4 e5 e6 e7 e8 e9 e10 e11 e12 e13 e14 e15 e16 e17 e18 e19 e44 e45 ⊢
  refine zR_of [0, 1, 44, 45] hs hR ?_
  have hf : zpCl.filter (fun c => c.2.1.any (fun k => ([0, 1, 44, 45] : List Nat).contains k)) = [(0, [0], [0, 20]), (0, [1], [0, 20]), (0, [44], [0, 7]), (0, [45], [0, 7]), (1, [0, 1], []), (3, [0, 2, 3, 4], []), (3, [0, 5, 6, 7], []), (3, [0, 8, 9, 10], []), (3, [0, 11, 12, 13], []), (3, [0, 14, 15, 16], []), (3, [0, 17, 18, 19], []), (1, [44, 45], [])] := by decide +kernel
  rw [hf]
  exact List.forall_mem_cons.mpr ⟨(show 0 ≤ w2 0 ∧ w2 0 ≤ 20 from ⟨by omega, by omega⟩), List.forall_mem_cons.mpr ⟨(show 0 ≤ w2 1 ∧ w2 1 ≤ 20 from ⟨by omega, by omega⟩), List.forall_mem_cons.mpr ⟨(show 0 ≤ w2 44 ∧ w2 44 ≤ 7 from ⟨by omega, by omega⟩), List.forall_mem_cons.mpr ⟨(show 0 ≤ w2 45 ∧ w2 45 ≤ 7 from ⟨by omega, by omega⟩), List.forall_mem_cons.mpr ⟨(show w2 0 = w2 1 by omega), List.forall_mem_cons.mpr ⟨(show zR3 (w2 0) (w2 2) (w2 3) (w2 4) by rw [e0, e2, e3, e4]; exact zR3_up o61), List.forall_mem_cons.mpr ⟨(show zR3 (w2 0) (w2 5) (w2 6) (w2 7) by rw [e0, e5, e6, e7]; exact zR3_up o62), List.forall_mem_cons.mpr ⟨(show zR3 (w2 0) (w2 8) (w2 9) (w2 10) by rw [e0, e8, e9, e10]; exact zR3_up o63), List.forall_mem_cons.mpr ⟨(show zR3 (w2 0) (w2 11) (w2 12) (w2 13) by rw [e0, e11, e12, e13]; exact zR3_up o64), List.forall_mem_cons.mpr ⟨(show zR3 (w2 0) (w2 14) (w2 15) (w2 16) by rw [e0, e14, e15, e16]; exact zR3_up o65), List.forall_mem_cons.mpr ⟨(show zR3 (w2 0) (w2 17) (w2 18) (w2 19) by rw [e0, e17, e18, e19]; exact zR3_up o66), List.forall_mem_cons.mpr ⟨(show w2 44 = w2 45 by omega), fun _ h => absurd h List.not_mem_nil⟩⟩⟩⟩⟩⟩⟩⟩⟩⟩⟩⟩
theorem zTR_zpTrl13 {gh : Nat → Int} {w : Nat → Int} {i : Nat} {u : List Int} (hg : zgok gh) (hR : zR w) (hE : zEnv zpTrl13.1 (znuL gh L i xs ++ zwv w ++ u)) (hC : zCds zpTrl13.2.1 (znuL gh L i xs ++ zwv w ++ u)) : zR (zw2 (znuL gh L i xs ++ zwv w ++ u) zpTrl13.2.2.2.2.1) := by
  show zR (zwT gh L i xs w u zpTrl13)
  have g0 := hg.1
  obtain ⟨y7, ya7, yb7⟩ := hE.2 7 [(0, 7)] rfl
  have yc7 := zin1' yb7
  have ya7 : some ((xs (i + 1)).toInt) = some y7 := ya7
  cases ya7
  obtain ⟨y12, ya12, yb12⟩ := hE.2 12 [(13, 13)] rfl
  have yc12 := zin1' yb12
  have ya12 : some (w 0) = some y12 := ya12
  cases ya12
  obtain ⟨y13, ya13, yb13⟩ := hE.2 13 [(13, 13)] rfl
  have yc13 := zin1' yb13
  have ya13 : some (w 1) = some y13 := ya13
  cases ya13
  have hs := zsame (T := zpTrl13) (ch := [0, 1, 46, 47]) (by decide +kernel) (gh := gh) (L := L) (i := i) (xs := xs) (w := w) (u := u)
  have e0 : zwT gh L i xs w u zpTrl13 0 = w 0 + 1 := rfl
  have e1 : zwT gh L i xs w u zpTrl13 1 = w 1 + 1 := rfl
  have e2 := hs 2 (by decide) (by decide)
  have e3 := hs 3 (by decide) (by decide)
  have e4 := hs 4 (by decide) (by decide)
  have e5 := hs 5 (by decide) (by decide)
  have e6 := hs 6 (by decide) (by decide)
  have e7 := hs 7 (by decide) (by decide)
  have e8 := hs 8 (by decide) (by decide)
  have e9 := hs 9 (by decide) (by decide)
  have e10 := hs 10 (by decide) (by decide)
  have e11 := hs 11 (by decide) (by decide)
  have e12 := hs 12 (by decide) (by decide)
  have e13 := hs 13 (by decide) (by decide)
  have e14 := hs 14 (by decide) (by decide)
  have e15 := hs 15 (by decide) (by decide)
  have e16 := hs 16 (by decide) (by decide)
  have e17 := hs 17 (by decide) (by decide)
  have e18 := hs 18 (by decide) (by decide)
  have e19 := hs 19 (by decide) (by decide)
  have e46 : zwT gh L i xs w u zpTrl13 46 = (xs (i + 1)).toInt + 0 := rfl
  have e47 : zwT gh L i xs w u zpTrl13 47 = (xs (i + 1)).toInt + 0 := rfl
  have o60 : w 0 = w 1 := hR (1, [0, 1], []) (List.mem_of_getElem? (i := 60) rfl)
  have o61 : zR3 (w 0) (w 2) (w 3) (w 4) := hR (3, [0, 2, 3, 4], []) (List.mem_of_getElem? (i := 61) rfl)
  have o62 : zR3 (w 0) (w 5) (w 6) (w 7) := hR (3, [0, 5, 6, 7], []) (List.mem_of_getElem? (i := 62) rfl)
  have o63 : zR3 (w 0) (w 8) (w 9) (w 10) := hR (3, [0, 8, 9, 10], []) (List.mem_of_getElem? (i := 63) rfl)
  have o64 : zR3 (w 0) (w 11) (w 12) (w 13) := hR (3, [0, 11, 12, 13], []) (List.mem_of_getElem? (i := 64) rfl)
  have o65 : zR3 (w 0) (w 14) (w 15) (w 16) := hR (3, [0, 14, 15, 16], []) (List.mem_of_getElem? (i := 65) rfl)
  have o66 : zR3 (w 0) (w 17) (w 18) (w 19) := hR (3, [0, 17, 18, 19], []) (List.mem_of_getElem? (i := 66) rfl)
  have o80 : w 46 = w 47 := hR (1, [46, 47], []) (List.mem_of_getElem? (i := 80) rfl)
  generalize zwT gh L i xs w u zpTrl13 = w2 at hs e0 e1 e2 e3 e4 e5 e6 e7 e8 e9 e10 e11 e12 e13 e14 e15 e16 e17 e18 e19 e46 e47 ⊢
  refine zR_of [0, 1, 46, 47] hs hR ?_
  have hf : zpCl.filter (fun c => c.2.1.any (fun k => ([0, 1, 46, 47] : List Nat).contains k)) = [(0, [0], [0, 20]), (0, [1], [0, 20]), (0, [46], [0, 7]), (0, [47], [0, 7]), (1, [0, 1], []), (3, [0, 2, 3, 4], []), (3, [0, 5, 6, 7], []), (3, [0, 8, 9, 10], []), (3, [0, 11, 12, 13], []), (3, [0, 14, 15, 16], []), (3, [0, 17, 18, 19], []), (1, [46, 47], [])] := by decide +kernel
  rw [hf]
  exact List.forall_mem_cons.mpr ⟨(show 0 ≤ w2 0 ∧ w2 0 ≤ 20 from ⟨by omega, by omega⟩), List.forall_mem_cons.mpr ⟨(show 0 ≤ w2 1 ∧ w2 1 ≤ 20 from ⟨by omega, by omega⟩), List.forall_mem_cons.mpr ⟨(show 0 ≤ w2 46 ∧ w2 46 ≤ 7 from ⟨by omega, by omega⟩), List.forall_mem_cons.mpr ⟨(show 0 ≤ w2 47 ∧ w2 47 ≤ 7 from ⟨by omega, by omega⟩), List.forall_mem_cons.mpr ⟨(show w2 0 = w2 1 by omega), List.forall_mem_cons.mpr ⟨(show zR3 (w2 0) (w2 2) (w2 3) (w2 4) by rw [e0, e2, e3, e4]; exact zR3_up o61), List.forall_mem_cons.mpr ⟨(show zR3 (w2 0) (w2 5) (w2 6) (w2 7) by rw [e0, e5, e6, e7]; exact zR3_up o62), List.forall_mem_cons.mpr ⟨(show zR3 (w2 0) (w2 8) (w2 9) (w2 10) by rw [e0, e8, e9, e10]; exact zR3_up o63), List.forall_mem_cons.mpr ⟨(show zR3 (w2 0) (w2 11) (w2 12) (w2 13) by rw [e0, e11, e12, e13]; exact zR3_up o64), List.forall_mem_cons.mpr ⟨(show zR3 (w2 0) (w2 14) (w2 15) (w2 16) by rw [e0, e14, e15, e16]; exact zR3_up o65), List.forall_mem_cons.mpr ⟨(show zR3 (w2 0) (w2 17) (w2 18) (w2 19) by rw [e0, e17, e18, e19]; exact zR3_up o66), List.forall_mem_cons.mpr ⟨(show w2 46 = w2 47 by omega), fun _ h => absurd h List.not_mem_nil⟩⟩⟩⟩⟩⟩⟩⟩⟩⟩⟩⟩
theorem zTR_zpTrl14 {gh : Nat → Int} {w : Nat → Int} {i : Nat} {u : List Int} (hg : zgok gh) (hR : zR w) (hE : zEnv zpTrl14.1 (znuL gh L i xs ++ zwv w ++ u)) (hC : zCds zpTrl14.2.1 (znuL gh L i xs ++ zwv w ++ u)) : zR (zw2 (znuL gh L i xs ++ zwv w ++ u) zpTrl14.2.2.2.2.1) := by
  show zR (zwT gh L i xs w u zpTrl14)
  have g0 := hg.1
  obtain ⟨y7, ya7, yb7⟩ := hE.2 7 [(0, 7)] rfl
  have yc7 := zin1' yb7
  have ya7 : some ((xs (i + 1)).toInt) = some y7 := ya7
  cases ya7
  obtain ⟨y12, ya12, yb12⟩ := hE.2 12 [(14, 14)] rfl
  have yc12 := zin1' yb12
  have ya12 : some (w 0) = some y12 := ya12
  cases ya12
  obtain ⟨y13, ya13, yb13⟩ := hE.2 13 [(14, 14)] rfl
  have yc13 := zin1' yb13
  have ya13 : some (w 1) = some y13 := ya13
  cases ya13
  have hs := zsame (T := zpTrl14) (ch := [0, 1, 48, 49]) (by decide +kernel) (gh := gh) (L := L) (i := i) (xs := xs) (w := w) (u := u)
  have e0 : zwT gh L i xs w u zpTrl14 0 = w 0 + 1 := rfl
  have e1 : zwT gh L i xs w u zpTrl14 1 = w 1 + 1 := rfl
  have e2 := hs 2 (by decide) (by decide)
  have e3 := hs 3 (by decide) (by decide)
  have e4 := hs 4 (by decide) (by decide)
  have e5 := hs 5 (by decide) (by decide)
  have e6 := hs 6 (by decide) (by decide)
  have e7 := hs 7 (by decide) (by decide)
  have e8 := hs 8 (by decide) (by decide)
  have e9 := hs 9 (by decide) (by decide)
  have e10 := hs 10 (by decide) (by decide)
  have e11 := hs 11 (by decide) (by decide)
  have e12 := hs 12 (by decide) (by decide)
  have e13 := hs 13 (by decide) (by decide)
  have e14 := hs 14 (by decide) (by decide)
  have e15 := hs 15 (by decide) (by decide)
  have e16 := hs 16 (by decide) (by decide)
  have e17 := hs 17 (by decide) (by decide)
  have e18 := hs 18 (by decide) (by decide)
  have e19 := hs 19 (by decide) (by decide)
  have e48 : zwT gh L i xs w u zpTrl14 48 = (xs (i + 1)).toInt + 0 := rfl
  have e49 : zwT gh L i xs w u zpTrl14 49 = (xs (i + 1)).toInt + 0 := rfl
  have o60 : w 0 = w 1 := hR (1, [0, 1], []) (List.mem_of_getElem? (i := 60) rfl)
  have o61 : zR3 (w 0) (w 2) (w 3) (w 4) := hR (3, [0, 2, 3, 4], []) (List.mem_of_getElem? (i := 61) rfl)
  have o62 : zR3 (w 0) (w 5) (w 6) (w 7) := hR (3, [0, 5, 6, 7], []) (List.mem_of_getElem? (i := 62) rfl)
  have o63 : zR3 (w 0) (w 8) (w 9) (w 10) := hR (3, [0, 8, 9, 10], []) (List.mem_of_getElem? (i := 63) rfl)
  have o64 : zR3 (w 0) (w 11) (w 12) (w 13) := hR (3, [0, 11, 12, 13], []) (List.mem_of_getElem? (i := 64) rfl)
  have o65 : zR3 (w 0) (w 14) (w 15) (w 16) := hR (3, [0, 14, 15, 16], []) (List.mem_of_getElem? (i := 65) rfl)
  have o66 : zR3 (w 0) (w 17) (w 18) (w 19) := hR (3, [0, 17, 18, 19], []) (List.mem_of_getElem? (i := 66) rfl)
  have o81 : w 48 = w 49 := hR (1, [48, 49], []) (List.mem_of_getElem? (i := 81) rfl)
  generalize zwT gh L i xs w u zpTrl14 = w2 at hs e0 e1 e2 e3 e4 e5 e6 e7 e8 e9 e10 e11 e12 e13 e14 e15 e16 e17 e18 e19 e48 e49 ⊢
  refine zR_of [0, 1, 48, 49] hs hR ?_
  have hf : zpCl.filter (fun c => c.2.1.any (fun k => ([0, 1, 48, 49] : List Nat).contains k)) = [(0, [0], [0, 20]), (0, [1], [0, 20]), (0, [48], [0, 7]), (0, [49], [0, 7]), (1, [0, 1], []), (3, [0, 2, 3, 4], []), (3, [0, 5, 6, 7], []), (3, [0, 8, 9, 10], []), (3, [0, 11, 12, 13], []), (3, [0, 14, 15, 16], []), (3, [0, 17, 18, 19], []), (1, [48, 49], [])] := by decide +kernel
  rw [hf]
  exact List.forall_mem_cons.mpr ⟨(show 0 ≤ w2 0 ∧ w2 0 ≤ 20 from ⟨by omega, by omega⟩), List.forall_mem_cons.mpr ⟨(show 0 ≤ w2 1 ∧ w2 1 ≤ 20 from ⟨by omega, by omega⟩), List.forall_mem_cons.mpr ⟨(show 0 ≤ w2 48 ∧ w2 48 ≤ 7 from ⟨by omega, by omega⟩), List.forall_mem_cons.mpr ⟨(show 0 ≤ w2 49 ∧ w2 49 ≤ 7 from ⟨by omega, by omega⟩), List.forall_mem_cons.mpr ⟨(show w2 0 = w2 1 by omega), List.forall_mem_cons.mpr ⟨(show zR3 (w2 0) (w2 2) (w2 3) (w2 4) by rw [e0, e2, e3, e4]; exact zR3_up o61), List.forall_mem_cons.mpr ⟨(show zR3 (w2 0) (w2 5) (w2 6) (w2 7) by rw [e0, e5, e6, e7]; exact zR3_up o62), List.forall_mem_cons.mpr ⟨(show zR3 (w2 0) (w2 8) (w2 9) (w2 10) by rw [e0, e8, e9, e10]; exact zR3_up o63), List.forall_mem_cons.mpr ⟨(show zR3 (w2 0) (w2 11) (w2 12) (w2 13) by rw [e0, e11, e12, e13]; exact zR3_up o64), List.forall_mem_cons.mpr ⟨(show zR3 (w2 0) (w2 14) (w2 15) (w2 16) by rw [e0, e14, e15, e16]; exact zR3_up o65), List.forall_mem_cons.mpr ⟨(show zR3 (w2 0) (w2 17) (w2 18) (w2 19) by rw [e0, e17, e18, e19]; exact zR3_up o66), List.forall_mem_cons.mpr ⟨(show w2 48 = w2 49 by omega), fun _ h => absurd h List.not_mem_nil⟩⟩⟩⟩⟩⟩⟩⟩⟩⟩⟩⟩
theorem zTR_zpTrl15 {gh : Nat → Int} {w : Nat → Int} {i : Nat} {u : List Int} (hg : zgok gh) (hR : zR w) (hE : zEnv zpTrl15.1 (znuL gh L i xs ++ zwv w ++ u)) (hC : zCds zpTrl15.2.1 (znuL gh L i xs ++ zwv w ++ u)) : zR (zw2 (znuL gh L i xs ++ zwv w ++ u) zpTrl15.2.2.2.2.1) := by
  show zR (zwT gh L i xs w u zpTrl15)
  have g0 := hg.1
  obtain ⟨y7, ya7, yb7⟩ := hE.2 7 [(0, 7)] rfl
  have yc7 := zin1' yb7
  have ya7 : some ((xs (i + 1)).toInt) = some y7 := ya7
  cases ya7
  obtain ⟨y12, ya12, yb12⟩ := hE.2 12 [(15, 15)] rfl
  have yc12 := zin1' yb12
  have ya12 : some (w 0) = some y12 := ya12
  cases ya12
  obtain ⟨y13, ya13, yb13⟩ := hE.2 13 [(15, 15)] rfl
  have yc13 := zin1' yb13
  have ya13 : some (w 1) = some y13 := ya13
  cases ya13
  have hs := zsame (T := zpTrl15) (ch := [0, 1, 50, 51]) (by decide +kernel) (gh := gh) (L := L) (i := i) (xs := xs) (w := w) (u := u)
  have e0 : zwT gh L i xs w u zpTrl15 0 = w 0 + 1 := rfl
  have e1 : zwT gh L i xs w u zpTrl15 1 = w 1 + 1 := rfl
  have e2 := hs 2 (by decide) (by decide)
  have e3 := hs 3 (by decide) (by decide)
  have e4 := hs 4 (by decide) (by decide)
  have e5 := hs 5 (by decide) (by decide)
  have e6 := hs 6 (by decide) (by decide)
  have e7 := hs 7 (by decide) (by decide)
  have e8 := hs 8 (by decide) (by decide)
  have e9 := hs 9 (by decide) (by decide)
  have e10 := hs 10 (by decide) (by decide)
  have e11 := hs 11 (by decide) (by decide)
  have e12 := hs 12 (by decide) (by decide)
  have e13 := hs 13 (by decide) (by decide)
  have e14 := hs 14 (by decide) (by decide)
  have e15 := hs 15 (by decide) (by decide)
  have e16 := hs 16 (by decide) (by decide)
  have e17 := hs 17 (by decide) (by decide)
  have e18 := hs 18 (by decide) (by decide)
  have e19 := hs 19 (by decide) (by decide)
  have e50 : zwT gh L i xs w u zpTrl15 50 = (xs (i + 1)).toInt + 0 := rfl
  have e51 : zwT gh L i xs w u zpTrl15 51 = (xs (i + 1)).toInt + 0 := rfl
  have o60 : w 0 = w 1 := hR (1, [0, 1], []) (List.mem_of_getElem? (i := 60) rfl)
  have o61 : zR3 (w 0) (w 2) (w 3) (w 4) := hR (3, [0, 2, 3, 4], []) (List.mem_of_getElem? (i := 61) rfl)
  have o62 : zR3 (w 0) (w 5) (w 6) (w 7) := hR (3, [0, 5, 6, 7], []) (List.mem_of_getElem? (i := 62) rfl)
  have o63 : zR3 (w 0) (w 8) (w 9) (w 10) := hR (3, [0, 8, 9, 10], []) (List.mem_of_getElem? (i := 63) rfl)
  have o64 : zR3 (w 0) (w 11) (w 12) (w 13) := hR (3, [0, 11, 12, 13], []) (List.mem_of_getElem? (i := 64) rfl)
  have o65 : zR3 (w 0) (w 14) (w 15) (w 16) := hR (3, [0, 14, 15, 16], []) (List.mem_of_getElem? (i := 65) rfl)
  have o66 : zR3 (w 0) (w 17) (w 18) (w 19) := hR (3, [0, 17, 18, 19], []) (List.mem_of_getElem? (i := 66) rfl)
  have o82 : w 50 = w 51 := hR (1, [50, 51], []) (List.mem_of_getElem? (i := 82) rfl)
  generalize zwT gh L i xs w u zpTrl15 = w2 at hs e0 e1 e2 e3 e4 e5 e6 e7 e8 e9 e10 e11 e12 e13 e14 e15 e16 e17 e18 e19 e50 e51 ⊢
  refine zR_of [0, 1, 50, 51] hs hR ?_
  have hf : zpCl.filter (fun c => c.2.1.any (fun k => ([0, 1, 50, 51] : List Nat).contains k)) = [(0, [0], [0, 20]), (0, [1], [0, 20]), (0, [50], [0, 7]), (0, [51], [0, 7]), (1, [0, 1], []), (3, [0, 2, 3, 4], []), (3, [0, 5, 6, 7], []), (3, [0, 8, 9, 10], []), (3, [0, 11, 12, 13], []), (3, [0, 14, 15, 16], []), (3, [0, 17, 18, 19], []), (1, [50, 51], [])] := by decide +kernel
  rw [hf]
  exact List.forall_mem_cons.mpr ⟨(show 0 ≤ w2 0 ∧ w2 0 ≤ 20 from ⟨by omega, by omega⟩), List.forall_mem_cons.mpr ⟨(show 0 ≤ w2 1 ∧ w2 1 ≤ 20 from ⟨by omega, by omega⟩), List.forall_mem_cons.mpr ⟨(show 0 ≤ w2 50 ∧ w2 50 ≤ 7 from ⟨by omega, by omega⟩), List.forall_mem_cons.mpr ⟨(show 0 ≤ w2 51 ∧ w2 51 ≤ 7 from ⟨by omega, by omega⟩), List.forall_mem_cons.mpr ⟨(show w2 0 = w2 1 by omega), List.forall_mem_cons.mpr ⟨(show zR3 (w2 0) (w2 2) (w2 3) (w2 4) by rw [e0, e2, e3, e4]; exact zR3_up o61), List.forall_mem_cons.mpr ⟨(show zR3 (w2 0) (w2 5) (w2 6) (w2 7) by rw [e0, e5, e6, e7]; exact zR3_up o62), List.forall_mem_cons.mpr ⟨(show zR3 (w2 0) (w2 8) (w2 9) (w2 10) by rw [e0, e8, e9, e10]; exact zR3_up o63), List.forall_mem_cons.mpr ⟨(show zR3 (w2 0) (w2 11) (w2 12) (w2 13) by rw [e0, e11, e12, e13]; exact zR3_up o64), List.forall_mem_cons.mpr ⟨(show zR3 (w2 0) (w2 14) (w2 15) (w2 16) by rw [e0, e14, e15, e16]; exact zR3_up o65), List.forall_mem_cons.mpr ⟨(show zR3 (w2 0) (w2 17) (w2 18) (w2 19) by rw [e0, e17, e18, e19]; exact zR3_up o66), List.forall_mem_cons.mpr ⟨(show w2 50 = w2 51 by omega), fun _ h => absurd h List.not_mem_nil⟩⟩⟩⟩⟩⟩⟩⟩⟩⟩⟩⟩
theorem zTR_zpTrl16 {gh : Nat → Int} {w : Nat → Int} {i : Nat} {u : List Int} (hg : zgok gh) (hR : zR w) (hE : zEnv zpTrl16.1 (znuL gh L i xs ++ zwv w ++ u)) (hC : zCds zpTrl16.2.1 (znuL gh L i xs ++ zwv w ++ u)) : zR (zw2 (znuL gh L i xs ++ zwv w ++ u) zpTrl16.2.2.2.2.1) := by
  show zR (zwT gh L i xs w u zpTrl16)
  have g0 := hg.1
  obtain ⟨y7, ya7, yb7⟩ := hE.2 7 [(0, 7)] rfl
  have yc7 := zin1' yb7
  have ya7 : some ((xs (i + 1)).toInt) = some y7 := ya7
  cases ya7
  obtain ⟨y12, ya12, yb12⟩ := hE.2 12 [(16, 16)] rfl
  have yc12 := zin1' yb12
  have ya12 : some (w 0) = some y12 := ya12
  cases ya12
  obtain ⟨y13, ya13, yb13⟩ := hE.2 13 [(16, 16)] rfl
  have yc13 := zin1' yb13
  have ya13 : some (w 1) = some y13 := ya13
  cases ya13
  have hs := zsame (T := zpTrl16) (ch := [0, 1, 52, 53]) (by decide +kernel) (gh := gh) (L := L) (i := i) (xs := xs) (w := w) (u := u)
  have e0 : zwT gh L i xs w u zpTrl16 0 = w 0 + 1 := rfl
  have e1 : zwT gh L i xs w u zpTrl16 1 = w 1 + 1 := rfl
  have e2 := hs 2 (by decide) (by decide)
  have e3 := hs 3 (by decide) (by decide)
  have e4 := hs 4 (by decide) (by decide)
  have e5 := hs 5 (by decide) (by decide)
  have e6 := hs 6 (by decide) (by decide)
  have e7 := hs 7 (by decide) (by decide)
  have e8 := hs 8 (by decide) (by decide)
  have e9 := hs 9 (by decide) (by decide)
  have e10 := hs 10 (by decide) (by decide)
  have e11 := hs 11 (by decide) (by decide)
  have e12 := hs 12 (by decide) (by decide)
  have e13 := hs 13 (by decide) (by decide)
  have e14 := hs 14 (by decide) (by decide)
  have e15 := hs 15 (by decide) (by decide)
  have e16 := hs 16 (by decide) (by decide)
  have e17 := hs 17 (by decide) (by decide)
  have e18 := hs 18 (by decide) (by decide)
  have e19 := hs 19 (by decide) (by decide)
  have e52 : zwT gh L i xs w u zpTrl16 52 = (xs (i + 1)).toInt + 0 := rfl
  have e53 : zwT gh L i xs w u zpTrl16 53 = (xs (i + 1)).toInt + 0 := rfl
  have o60 : w 0 = w 1 := hR (1, [0, 1], []) (List.mem_of_getElem? (i := 60) rfl)
  have o61 : zR3 (w 0) (w 2) (w 3) (w 4) := hR (3, [0, 2, 3, 4], []) (List.mem_of_getElem? (i := 61) rfl)
  have o62 : zR3 (w 0) (w 5) (w 6) (w 7) := hR (3, [0, 5, 6, 7], []) (List.mem_of_getElem? (i := 62) rfl)
  have o63 : zR3 (w 0) (w 8) (w 9) (w 10) := hR (3, [0, 8, 9, 10], []) (List.mem_of_getElem? (i := 63) rfl)
  have o64 : zR3 (w 0) (w 11) (w 12) (w 13) := hR (3, [0, 11, 12, 13], []) (List.mem_of_getElem? (i := 64) rfl)
  have o65 : zR3 (w 0) (w 14) (w 15) (w 16) := hR (3, [0, 14, 15, 16], []) (List.mem_of_getElem? (i := 65) rfl)
  have o66 : zR3 (w 0) (w 17) (w 18) (w 19) := hR (3, [0, 17, 18, 19], []) (List.mem_of_getElem? (i := 66) rfl)
  have o83 : w 52 = w 53 := hR (1, [52, 53], []) (List.mem_of_getElem? (i := 83) rfl)
  generalize zwT gh L i xs w u zpTrl16 = w2 at hs e0 e1 e2 e3 e4 e5 e6 e7 e8 e9 e10 e11 e12 e13 e14 e15 e16 e17 e18 e19 e52 e53 ⊢
  refine zR_of [0, 1, 52, 53] hs hR ?_
  have hf : zpCl.filter (fun c => c.2.1.any (fun k => ([0, 1, 52, 53] : List Nat).contains k)) = [(0, [0], [0, 20]), (0, [1], [0, 20]), (0, [52], [0, 7]), (0, [53], [0, 7]), (1, [0, 1], []), (3, [0, 2, 3, 4], []), (3, [0, 5, 6, 7], []), (3, [0, 8, 9, 10], []), (3, [0, 11, 12, 13], []), (3, [0, 14, 15, 16], []), (3, [0, 17, 18, 19], []), (1, [52, 53], [])] := by decide +kernel
  rw [hf]
  exact List.forall_mem_cons.mpr ⟨(show 0 ≤ w2 0 ∧ w2 0 ≤ 20 from ⟨by omega, by omega⟩), List.forall_mem_cons.mpr ⟨(show 0 ≤ w2 1 ∧ w2 1 ≤ 20 from ⟨by omega, by omega⟩), List.forall_mem_cons.mpr ⟨(show 0 ≤ w2 52 ∧ w2 52 ≤ 7 from ⟨by omega, by omega⟩), List.forall_mem_cons.mpr ⟨(show 0 ≤ w2 53 ∧ w2 53 ≤ 7 from ⟨by omega, by omega⟩), List.forall_mem_cons.mpr ⟨(show w2 0 = w2 1 by omega), List.forall_mem_cons.mpr ⟨(show zR3 (w2 0) (w2 2) (w2 3) (w2 4) by rw [e0, e2, e3, e4]; exact zR3_up o61), List.forall_mem_cons.mpr ⟨(show zR3 (w2 0) (w2 5) (w2 6) (w2 7) by rw [e0, e5, e6, e7]; exact zR3_up o62), List.forall_mem_cons.mpr ⟨(show zR3 (w2 0) (w2 8) (w2 9) (w2 10) by rw [e0, e8, e9, e10]; exact zR3_up o63), List.forall_mem_cons.mpr ⟨(show zR3 (w2 0) (w2 11) (w2 12) (w2 13) by rw [e0, e11, e12, e13]; exact zR3_up o64), List.forall_mem_cons.mpr ⟨(show zR3 (w2 0) (w2 14) (w2 15) (w2 16) by rw [e0, e14, e15, e16]; exact zR3_up o65), List.forall_mem_cons.mpr ⟨(show zR3 (w2 0) (w2 17) (w2 18) (w2 19) by rw [e0, e17, e18, e19]; exact zR3_up o66), List.forall_mem_cons.mpr ⟨(show w2 52 = w2 53 by omega), fun _ h => absurd h List.not_mem_nil⟩⟩⟩⟩⟩⟩⟩⟩⟩⟩⟩⟩
theorem zTR_zpTrl17 {gh : Nat → Int} {w : Nat → Int} {i : Nat} {u : List Int} (hg : zgok gh) (hR : zR w) (hE : zEnv zpTrl17.1 (znuL gh L i xs ++ zwv w ++ u)) (hC : zCds zpTrl17.2.1 (znuL gh L i xs ++ zwv w ++ u)) : zR (zw2 (znuL gh L i xs ++ zwv w ++ u) zpTrl17.2.2.2.2.1) := by
  show zR (zwT gh L i xs w u zpTrl17)
  have g0 := hg.1
  obtain ⟨y7, ya7, yb7⟩ := hE.2 7 [(0, 7)] rfl
  have yc7 := zin1' yb7
  have ya7 : some ((xs (i + 1)).toInt) = some y7 := ya7
  cases ya7
  obtain ⟨y12, ya12, yb12⟩ := hE.2 12 [(17, 17)] rfl
  have yc12 := zin1' yb12
  have ya12 : some (w 0) = some y12 := ya12
  cases ya12
  obtain ⟨y13, ya13, yb13⟩ := hE.2 13 [(17, 17)] rfl
  have yc13 := zin1' yb13
  have ya13 : some (w 1) = some y13 := ya13
  cases ya13
  have hs := zsame (T := zpTrl17) (ch := [0, 1, 54, 55]) (by decide +kernel) (gh := gh) (L := L) (i := i) (xs := xs) (w := w) (u := u)
  have e0 : zwT gh L i xs w u zpTrl17 0 = w 0 + 1 := rfl
  have e1 : zwT gh L i xs w u zpTrl17 1 = w 1 + 1 := rfl
  have e2 := hs 2 (by decide) (by decide)
  have e3 := hs 3 (by decide) (by decide)
  have e4 := hs 4 (by decide) (by decide)
  have e5 := hs 5 (by decide) (by decide)
  have e6 := hs 6 (by decide) (by decide)
  have e7 := hs 7 (by decide) (by decide)
  have e8 := hs 8 (by decide) (by decide)
  have e9 := hs 9 (by decide) (by decide)
  have e10 := hs 10 (by decide) (by decide)
  have e11 := hs 11 (by decide) (by decide)
  have e12 := hs 12 (by decide) (by decide)
  have e13 := hs 13 (by decide) (by decide)
  have e14 := hs 14 (by decide) (by decide)
  have e15 := hs 15 (by decide) (by decide)
  have e16 := hs 16 (by decide) (by decide)
  have e17 := hs 17 (by decide) (by decide)
  have e18 := hs 18 (by decide) (by decide)
  have e19 := hs 19 (by decide) (by decide)
  have e54 : zwT gh L i xs w u zpTrl17 54 = (xs (i + 1)).toInt + 0 := rfl
  have e55 : zwT gh L i xs w u zpTrl17 55 = (xs (i + 1)).toInt + 0 := rfl
  have o60 : w 0 = w 1 := hR (1, [0, 1], []) (List.mem_of_getElem? (i := 60) rfl)
  have o61 : zR3 (w 0) (w 2) (w 3) (w 4) := hR (3, [0, 2, 3, 4], []) (List.mem_of_getElem? (i := 61) rfl)
  have o62 : zR3 (w 0) (w 5) (w 6) (w 7) := hR (3, [0, 5, 6, 7], []) (List.mem_of_getElem? (i := 62) rfl)
  have o63 : zR3 (w 0) (w 8) (w 9) (w 10) := hR (3, [0, 8, 9, 10], []) (List.mem_of_getElem? (i := 63) rfl)
  have o64 : zR3 (w 0) (w 11) (w 12) (w 13) := hR (3, [0, 11, 12, 13], []) (List.mem_of_getElem? (i := 64) rfl)
  have o65 : zR3 (w 0) (w 14) (w 15) (w 16) := hR (3, [0, 14, 15, 16], []) (List.mem_of_getElem? (i := 65) rfl)
  have o66 : zR3 (w 0) (w 17) (w 18) (w 19) := hR (3, [0, 17, 18, 19], []) (List.mem_of_getElem? (i := 66) rfl)
  have o84 : w 54 = w 55 := hR (1, [54, 55], []) (List.mem_of_getElem? (i := 84) rfl)
  generalize zwT gh L i xs w u zpTrl17 = w2 at hs e0 e1 e2 e3 e4 e5 e6 e7 e8 e9 e10 e11 e12 e13 e14 e15 e16 e17 e18 e19 e54 e55 ⊢
  refine zR_of [0, 1, 54, 55] hs hR ?_
  have hf : zpCl.filter (fun c => c.2.1.any (fun k => ([0, 1, 54, 55] : List Nat).contains k)) = [(0, [0], [0, 20]), (0, [1], [0, 20]), (0, [54], [0, 7]), (0, [55], [0, 7]), (1, [0, 1], []), (3, [0, 2, 3, 4], []), (3, [0, 5, 6, 7], []), (3, [0, 8, 9, 10], []), (3, [0, 11, 12, 13], []), (3, [0, 14, 15, 16], []), (3, [0, 17, 18, 19], []), (1, [54, 55], [])] := by decide +kernel
  rw [hf]
  exact List.forall_mem_cons.mpr ⟨(show 0 ≤ w2 0 ∧ w2 0 ≤ 20 from ⟨by omega, by omega⟩), List.forall_mem_cons.mpr ⟨(show 0 ≤ w2 1 ∧ w2 1 ≤ 20 from ⟨by omega, by omega⟩), List.forall_mem_cons.mpr ⟨(show 0 ≤ w2 54 ∧ w2 54 ≤ 7 from ⟨by omega, by omega⟩), List.forall_mem_cons.mpr ⟨(show 0 ≤ w2 55 ∧ w2 55 ≤ 7 from ⟨by omega, by omega⟩), List.forall_mem_cons.mpr ⟨(show w2 0 = w2 1 by omega), List.forall_mem_cons.mpr ⟨(show zR3 (w2 0) (w2 2) (w2 3) (w2 4) by rw [e0, e2, e3, e4]; exact zR3_up o61), List.forall_mem_cons.mpr ⟨(show zR3 (w2 0) (w2 5) (w2 6) (w2 7) by rw [e0, e5, e6, e7]; exact zR3_up o62), List.forall_mem_cons.mpr ⟨(show zR3 (w2 0) (w2 8) (w2 9) (w2 10) by rw [e0, e8, e9, e10]; exact zR3_up o63), List.forall_mem_cons.mpr ⟨(show zR3 (w2 0) (w2 11) (w2 12) (w2 13) by rw [e0, e11, e12, e13]; exact zR3_up o64), List.forall_mem_cons.mpr ⟨(show zR3 (w2 0) (w2 14) (w2 15) (w2 16) by rw [e0, e14, e15, e16]; exact zR3_up o65), List.forall_mem_cons.mpr ⟨(show zR3 (w2 0) (w2 17) (w2 18) (w2 19) by rw [e0, e17, e18, e19]; exact zR3_up o66), List.forall_mem_cons.mpr ⟨(show w2 54 = w2 55 by omega), fun _ h => absurd h List.not_mem_nil⟩⟩⟩⟩⟩⟩⟩⟩⟩⟩⟩⟩
theorem zTR_zpTrl18 {gh : Nat → Int} {w : Nat → Int} {i : Nat} {u : List Int} (hg : zgok gh) (hR : zR w) (hE : zEnv zpTrl18.1 (znuL gh L i xs ++ zwv w ++ u)) (hC : zCds zpTrl18.2.1 (znuL gh L i xs ++ zwv w ++ u)) : zR (zw2 (znuL gh L i xs ++ zwv w ++ u) zpTrl18.2.2.2.2.1) := by
  show zR (zwT gh L i xs w u zpTrl18)
  have g0 := hg.1
  obtain ⟨y7, ya7, yb7⟩ := hE.2 7 [(0, 7)] rfl
  have yc7 := zin1' yb7
  have ya7 : some ((xs (i + 1)).toInt) = some y7 := ya7
  cases ya7
  obtain ⟨y12, ya12, yb12⟩ := hE.2 12 [(18, 18)] rfl
  have yc12 := zin1' yb12
  have ya12 : some (w 0) = some y12 := ya12
  cases ya12
  obtain ⟨y13, ya13, yb13⟩ := hE.2 13 [(18, 18)] rfl
  have yc13 := zin1' yb13
  have ya13 : some (w 1) = some y13 := ya13
  cases ya13
  have hs := zsame (T := zpTrl18) (ch := [0, 1, 56, 57]) (by decide +kernel) (gh := gh) (L := L) (i := i) (xs := xs) (w := w) (u := u)
  have e0 : zwT gh L i xs w u zpTrl18 0 = w 0 + 1 := rfl
  have e1 : zwT gh L i xs w u zpTrl18 1 = w 1 + 1 := rfl
  have e2 := hs 2 (by decide) (by decide)
  have e3 := hs 3 (by decide) (by decide)
  have e4 := hs 4 (by decide) (by decide)
  have e5 := hs 5 (by decide) (by decide)
  have e6 := hs 6 (by decide) (by decide)
  have e7 := hs 7 (by decide) (by decide)
  have e8 := hs 8 (by decide) (by decide)
  have e9 := hs 9 (by decide) (by decide)
  have e10 := hs 10 (by decide) (by decide)
  have e11 := hs 11 (by decide) (by decide)
  have e12 := hs 12 (by decide) (by decide)
  have e13 := hs 13 (by decide) (by decide)
  have e14 := hs 14 (by decide) (by decide)
  have e15 := hs 15 (by decide) (by decide)
  have e16 := hs 16 (by decide) (by decide)
  have e17 := hs 17 (by decide) (by decide)
  have e18 := hs 18 (by decide) (by decide)
  have e19 := hs 19 (by decide) (by decide)
  have e56 : zwT gh L i xs w u zpTrl18 56 = (xs (i + 1)).toInt + 0 := rfl
  have e57 : zwT gh L i xs w u zpTrl18 57 = (xs (i + 1)).toInt + 0 := rfl
  have o60 : w 0 = w 1 := hR (1, [0, 1], []) (List.mem_of_getElem? (i := 60) rfl)
  have o61 : zR3 (w 0) (w 2) (w 3) (w 4) := hR (3, [0, 2, 3, 4], []) (List.mem_of_getElem? (i := 61) rfl)
  have o62 : zR3 (w 0) (w 5) (w 6) (w 7) := hR (3, [0, 5, 6, 7], []) (List.mem_of_getElem? (i := 62) rfl)
  have o63 : zR3 (w 0) (w 8) (w 9) (w 10) := hR (3, [0, 8, 9, 10], []) (List.mem_of_getElem? (i := 63) rfl)
  have o64 : zR3 (w 0) (w 11) (w 12) (w 13) := hR (3, [0, 11, 12, 13], []) (List.mem_of_getElem? (i := 64) rfl)
  have o65 : zR3 (w 0) (w 14) (w 15) (w 16) := hR (3, [0, 14, 15, 16], []) (List.mem_of_getElem? (i := 65) rfl)
  have o66 : zR3 (w 0) (w 17) (w 18) (w 19) := hR (3, [0, 17, 18, 19], []) (List.mem_of_getElem? (i := 66) rfl)
  have o85 : w 56 = w 57 := hR (1, [56, 57], []) (List.mem_of_getElem? (i := 85) rfl)
  generalize zwT gh L i xs w u zpTrl18 = w2 at hs e0 e1 e2 e3 e4 e5 e6 e7 e8 e9 e10 e11 e12 e13 e14 e15 e16 e17 e18 e19 e56 e57 ⊢
  refine zR_of [0, 1, 56, 57] hs hR ?_
  have hf : zpCl.filter (fun c => c.2.1.any (fun k => ([0, 1, 56, 57] : List Nat).contains k)) = [(0, [0], [0, 20]), (0, [1], [0, 20]), (0, [56], [0, 7]), (0, [57], [0, 7]), (1, [0, 1], []), (3, [0, 2, 3, 4], []), (3, [0, 5, 6, 7], []), (3, [0, 8, 9, 10], []), (3, [0, 11, 12, 13], []), (3, [0, 14, 15, 16], []), (3, [0, 17, 18, 19], []), (1, [56, 57], [])] := by decide +kernel
  rw [hf]
  exact List.forall_mem_cons.mpr ⟨(show 0 ≤ w2 0 ∧ w2 0 ≤ 20 from ⟨by omega, by omega⟩), List.forall_mem_cons.mpr ⟨(show 0 ≤ w2 1 ∧ w2 1 ≤ 20 from ⟨by omega, by omega⟩), List.forall_mem_cons.mpr ⟨(show 0 ≤ w2 56 ∧ w2 56 ≤ 7 from ⟨by omega, by omega⟩), List.forall_mem_cons.mpr ⟨(show 0 ≤ w2 57 ∧ w2 57 ≤ 7 from ⟨by omega, by omega⟩), List.forall_mem_cons.mpr ⟨(show w2 0 = w2 1 by omega), List.forall_mem_cons.mpr ⟨(show zR3 (w2 0) (w2 2) (w2 3) (w2 4) by rw [e0, e2, e3, e4]; exact zR3_up o61), List.forall_mem_cons.mpr ⟨(show zR3 (w2 0) (w2 5) (w2 6) (w2 7) by rw [e0, e5, e6, e7]; exact zR3_up o62), List.forall_mem_cons.mpr ⟨(show zR3 (w2 0) (w2 8) (w2 9) (w2 10) by rw [e0, e8, e9, e10]; exact zR3_up o63), List.forall_mem_cons.mpr ⟨(show zR3 (w2 0) (w2 11) (w2 12) (w2 13) by rw [e0, e11, e12, e13]; exact zR3_up o64), List.forall_mem_cons.mpr ⟨(show zR3 (w2 0) (w2 14) (w2 15) (w2 16) by rw [e0, e14, e15, e16]; exact zR3_up o65), List.forall_mem_cons.mpr ⟨(show zR3 (w2 0) (w2 17) (w2 18) (w2 19) by rw [e0, e17, e18, e19]; exact zR3_up o66), List.forall_mem_cons.mpr ⟨(show w2 56 = w2 57 by omega), fun _ h => absurd h List.not_mem_nil⟩⟩⟩⟩⟩⟩⟩⟩⟩⟩⟩⟩
theorem zTR_zpTrl19 {gh : Nat → Int} {w : Nat → Int} {i : Nat} {u : List Int} (hg : zgok gh) (hR : zR w) (hE : zEnv zpTrl19.1 (znuL gh L i xs ++ zwv w ++ u)) (hC : zCds zpTrl19.2.1 (znuL gh L i xs ++ zwv w ++ u)) : zR (zw2 (znuL gh L i xs ++ zwv w ++ u) zpTrl19.2.2.2.2.1) := by
  show zR (zwT gh L i xs w u zpTrl19)
  have g0 := hg.1
  obtain ⟨y7, ya7, yb7⟩ := hE.2 7 [(0, 7)] rfl
  have yc7 := zin1' yb7
  have ya7 : some ((xs (i + 1)).toInt) = some y7 := ya7
  cases ya7
  obtain ⟨y12, ya12, yb12⟩ := hE.2 12 [(19, 19)] rfl
  have yc12 := zin1' yb12
  have ya12 : some (w 0) = some y12 := ya12
  cases ya12
  obtain ⟨y13, ya13, yb13⟩ := hE.2 13 [(19, 19)] rfl
  have yc13 := zin1' yb13
  have ya13 : some (w 1) = some y13 := ya13
  cases ya13
  have hs := zsame (T := zpTrl19) (ch := [0, 1, 58, 59]) (by decide +kernel) (gh := gh) (L := L) (i := i) (xs := xs) (w := w) (u := u)
  have e0 : zwT gh L i xs w u zpTrl19 0 = w 0 + 1 := rfl
  have e1 : zwT gh L i xs w u zpTrl19 1 = w 1 + 1 := rfl
  have e2 := hs 2 (by decide) (by decide)
  have e3 := hs 3 (by decide) (by decide)
  have e4 := hs 4 (by decide) (by decide)
  have e5 := hs 5 (by decide) (by decide)
  have e6 := hs 6 (by decide) (by decide)
  have e7 := hs 7 (by decide) (by decide)
  have e8 := hs 8 (by decide) (by decide)
  have e9 := hs 9 (by decide) (by decide)
  have e10 := hs 10 (by decide) (by decide)
  have e11 := hs 11 (by decide) (by decide)
  have e12 := hs 12 (by decide) (by decide)
  have e13 := hs 13 (by decide) (by decide)
  have e14 := hs 14 (by decide) (by decide)
  have e15 := hs 15 (by decide) (by decide)
  have e16 := hs 16 (by decide) (by decide)
  have e17 := hs 17 (by decide) (by decide)
  have e18 := hs 18 (by decide) (by decide)
  have e19 := hs 19 (by decide) (by decide)
  have e58 : zwT gh L i xs w u zpTrl19 58 = (xs (i + 1)).toInt + 0 := rfl
  have e59 : zwT gh L i xs w u zpTrl19 59 = (xs (i + 1)).toInt + 0 := rfl
  have o60 : w 0 = w 1 := hR (1, [0, 1], []) (List.mem_of_getElem? (i := 60) rfl)
  have o61 : zR3 (w 0) (w 2) (w 3) (w 4) := hR (3, [0, 2, 3, 4], []) (List.mem_of_getElem? (i := 61) rfl)
  have o62 : zR3 (w 0) (w 5) (w 6) (w 7) := hR (3, [0, 5, 6, 7], []) (List.mem_of_getElem? (i := 62) rfl)
  have o63 : zR3 (w 0) (w 8) (w 9) (w 10) := hR (3, [0, 8, 9, 10], []) (List.mem_of_getElem? (i := 63) rfl)
  have o64 : zR3 (w 0) (w 11) (w 12) (w 13) := hR (3, [0, 11, 12, 13], []) (List.mem_of_getElem? (i := 64) rfl)
  have o65 : zR3 (w 0) (w 14) (w 15) (w 16) := hR (3, [0, 14, 15, 16], []) (List.mem_of_getElem? (i := 65) rfl)
  have o66 : zR3 (w 0) (w 17) (w 18) (w 19) := hR (3, [0, 17, 18, 19], []) (List.mem_of_getElem? (i := 66) rfl)
  have o86 : w 58 = w 59 := hR (1, [58, 59], []) (List.mem_of_getElem? (i := 86) rfl)
  generalize zwT gh L i xs w u zpTrl19 = w2 at hs e0 e1 e2 e3 e4 e5 e6 e7 e8 e9 e10 e11 e12 e13 e14 e15 e16 e17 e18 e19 e58 e59 ⊢
  refine zR_of [0, 1, 58, 59] hs hR ?_
  have hf : zpCl.filter (fun c => c.2.1.any (fun k => ([0, 1, 58, 59] : List Nat).contains k)) = [(0, [0], [0, 20]), (0, [1], [0, 20]), (0, [58], [0, 7]), (0, [59], [0, 7]), (1, [0, 1], []), (3, [0, 2, 3, 4], []), (3, [0, 5, 6, 7], []), (3, [0, 8, 9, 10], []), (3, [0, 11, 12, 13], []), (3, [0, 14, 15, 16], []), (3, [0, 17, 18, 19], []), (1, [58, 59], [])] := by decide +kernel
  rw [hf]
  exact List.forall_mem_cons.mpr ⟨(show 0 ≤ w2 0 ∧ w2 0 ≤ 20 from ⟨by omega, by omega⟩), List.forall_mem_cons.mpr ⟨(show 0 ≤ w2 1 ∧ w2 1 ≤ 20 from ⟨by omega, by omega⟩), List.forall_mem_cons.mpr ⟨(show 0 ≤ w2 58 ∧ w2 58 ≤ 7 from ⟨by omega, by omega⟩), List.forall_mem_cons.mpr ⟨(show 0 ≤ w2 59 ∧ w2 59 ≤ 7 from ⟨by omega, by omega⟩), List.forall_mem_cons.mpr ⟨(show w2 0 = w2 1 by omega), List.forall_mem_cons.mpr ⟨(show zR3 (w2 0) (w2 2) (w2 3) (w2 4) by rw [e0, e2, e3, e4]; exact zR3_up o61), List.forall_mem_cons.mpr ⟨(show zR3 (w2 0) (w2 5) (w2 6) (w2 7) by rw [e0, e5, e6, e7]; exact zR3_up o62), List.forall_mem_cons.mpr ⟨(show zR3 (w2 0) (w2 8) (w2 9) (w2 10) by rw [e0, e8, e9, e10]; exact zR3_up o63), List.forall_mem_cons.mpr ⟨(show zR3 (w2 0) (w2 11) (w2 12) (w2 13) by rw [e0, e11, e12, e13]; exact zR3_up o64), List.forall_mem_cons.mpr ⟨(show zR3 (w2 0) (w2 14) (w2 15) (w2 16) by rw [e0, e14, e15, e16]; exact zR3_up o65), List.forall_mem_cons.mpr ⟨(show zR3 (w2 0) (w2 17) (w2 18) (w2 19) by rw [e0, e17, e18, e19]; exact zR3_up o66), List.forall_mem_cons.mpr ⟨(show w2 58 = w2 59 by omega), fun _ h => absurd h List.not_mem_nil⟩⟩⟩⟩⟩⟩⟩⟩⟩⟩⟩⟩
theorem zTR_zpTno0 {gh : Nat → Int} {w : Nat → Int} {i : Nat} {u : List Int} (hg : zgok gh) (hR : zR w) (hE : zEnv zpTno0.1 (znuL gh L i xs ++ zwv w ++ u)) (hC : zCds zpTno0.2.1 (znuL gh L i xs ++ zwv w ++ u)) : zR (zw2 (znuL gh L i xs ++ zwv w ++ u) zpTno0.2.2.2.2.1) := by
  show zR (zwT gh L i xs w u zpTno0)
  have g0 := hg.1
  have hs := zsame (T := zpTno0) (ch := [2, 4]) (by decide +kernel) (gh := gh) (L := L) (i := i) (xs := xs) (w := w) (u := u)
  have e0 := hs 0 (by decide) (by decide)
  have e2 : zwT gh L i xs w u zpTno0 2 = gh 0 + (-1) := rfl
  have e3 := hs 3 (by decide) (by decide)
  have e4 : zwT gh L i xs w u zpTno0 4 = gh 0 + (-1) := rfl
  generalize zwT gh L i xs w u zpTno0 = w2 at hs e0 e2 e3 e4 ⊢
  refine zR_of [2, 4] hs hR ?_
  have hf : zpCl.filter (fun c => c.2.1.any (fun k => ([2, 4] : List Nat).contains k)) = [(0, [2], [(-2), 4]), (0, [4], [(-1), 24]), (3, [0, 2, 3, 4], [])] := by decide +kernel
  rw [hf]
  exact List.forall_mem_cons.mpr ⟨(show (-2) ≤ w2 2 ∧ w2 2 ≤ 4 from ⟨by omega, by omega⟩), List.forall_mem_cons.mpr ⟨(show (-1) ≤ w2 4 ∧ w2 4 ≤ 24 from ⟨by omega, by omega⟩), List.forall_mem_cons.mpr ⟨(show zR3 (w2 0) (w2 2) (w2 3) (w2 4) from Or.inl ⟨by omega, by omega⟩), fun _ h => absurd h List.not_mem_nil⟩⟩⟩
theorem zTR_zpTru0 {gh : Nat → Int} {w : Nat → Int} {i : Nat} {u : List Int} (hg : zgok gh) (hR : zR w) (hE : zEnv zpTru0.1 (znuL gh L i xs ++ zwv w ++ u)) (hC : zCds zpTru0.2.1 (znuL gh L i xs ++ zwv w ++ u)) : zR (zw2 (znuL gh L i xs ++ zwv w ++ u) zpTru0.2.2.2.2.1) := by
  show zR (zwT gh L i xs w u zpTru0)
  have g0 := hg.1
  obtain ⟨y8, ya8, yb8⟩ := hE.2 8 [(0, 19)] rfl
  have yc8 := zin1' yb8
  have ya8 : some ((xs (i + 2)).toInt) = some y8 := ya8
  cases ya8
  obtain ⟨xa0, xb0, xc0, xd0, xe0⟩ := hC (8, 12, (-1)) (List.mem_of_getElem? (i := 0) rfl)
  have xc0 : some ((xs (i + 2)).toInt) = some xa0 := xc0
  have xd0 : some (w 0) = some xb0 := xd0
  cases xc0
  cases xd0
  have xe0 : (xs (i + 2)).toInt ≤ w 0 + (-1) := xe0
  have hs := zsame (T := zpTru0) (ch := [2, 3, 4]) (by decide +kernel) (gh := gh) (L := L) (i := i) (xs := xs) (w := w) (u := u)
  have e0 := hs 0 (by decide) (by decide)
  have e2 : zwT gh L i xs w u zpTru0 2 = gh 0 + (-2) := rfl
  have e3 : zwT gh L i xs w u zpTru0 3 = (xs (i + 2)).toInt + 0 := rfl
  have e4 : zwT gh L i xs w u zpTru0 4 = (xs (i + 2)).toInt + 0 := rfl
  generalize zwT gh L i xs w u zpTru0 = w2 at hs e0 e2 e3 e4 ⊢
  refine zR_of [2, 3, 4] hs hR ?_
  have hf : zpCl.filter (fun c => c.2.1.any (fun k => ([2, 3, 4] : List Nat).contains k)) = [(0, [2], [(-2), 4]), (0, [3], [0, 19]), (0, [4], [(-1), 24]), (3, [0, 2, 3, 4], [])] := by decide +kernel
  rw [hf]
  exact List.forall_mem_cons.mpr ⟨(show (-2) ≤ w2 2 ∧ w2 2 ≤ 4 from ⟨by omega, by omega⟩), List.forall_mem_cons.mpr ⟨(show 0 ≤ w2 3 ∧ w2 3 ≤ 19 from ⟨by omega, by omega⟩), List.forall_mem_cons.mpr ⟨(show (-1) ≤ w2 4 ∧ w2 4 ≤ 24 from ⟨by omega, by omega⟩), List.forall_mem_cons.mpr ⟨(show zR3 (w2 0) (w2 2) (w2 3) (w2 4) from Or.inr (Or.inl ⟨by omega, by omega, by omega, by omega⟩)), fun _ h => absurd h List.not_mem_nil⟩⟩⟩⟩
theorem zTR_zpTrw0 {gh : Nat → Int} {w : Nat → Int} {i : Nat} {u : List Int} (hg : zgok gh) (hR : zR w) (hE : zEnv zpTrw0.1 (znuL gh L i xs ++ zwv w ++ u)) (hC : zCds zpTrw0.2.1 (znuL gh L i xs ++ zwv w ++ u)) : zR (zw2 (znuL gh L i xs ++ zwv w ++ u) zpTrw0.2.2.2.2.1) := by
  show zR (zwT gh L i xs w u zpTrw0)
  have g0 := hg.1
  obtain ⟨y8, ya8, yb8⟩ := hE.2 8 [(0, 4)] rfl
  have yc8 := zin1' yb8
  have ya8 : some ((xs (i + 2)).toInt) = some y8 := ya8
  cases ya8
  have hs := zsame (T := zpTrw0) (ch := [2, 4]) (by decide +kernel) (gh := gh) (L := L) (i := i) (xs := xs) (w := w) (u := u)
  have e0 := hs 0 (by decide) (by decide)
  have e2 : zwT gh L i xs w u zpTrw0 2 = (xs (i + 2)).toInt + 0 := rfl
  have e3 := hs 3 (by decide) (by decide)
  have e4 : zwT gh L i xs w u zpTrw0 4 = (xs (i + 2)).toInt + 20 := rfl
  generalize zwT gh L i xs w u zpTrw0 = w2 at hs e0 e2 e3 e4 ⊢
  refine zR_of [2, 4] hs hR ?_
  have hf : zpCl.filter (fun c => c.2.1.any (fun k => ([2, 4] : List Nat).contains k)) = [(0, [2], [(-2), 4]), (0, [4], [(-1), 24]), (3, [0, 2, 3, 4], [])] := by decide +kernel
  rw [hf]
  exact List.forall_mem_cons.mpr ⟨(show (-2) ≤ w2 2 ∧ w2 2 ≤ 4 from ⟨by omega, by omega⟩), List.forall_mem_cons.mpr ⟨(show (-1) ≤ w2 4 ∧ w2 4 ≤ 24 from ⟨by omega, by omega⟩), List.forall_mem_cons.mpr ⟨(show zR3 (w2 0) (w2 2) (w2 3) (w2 4) from Or.inr (Or.inr ⟨by omega, by omega, by omega, by omega⟩)), fun _ h => absurd h List.not_mem_nil⟩⟩⟩
theorem zTR_zpTno1 {gh : Nat → Int} {w : Nat → Int} {i : Nat} {u : List Int} (hg : zgok gh) (hR : zR w) (hE : zEnv zpTno1.1 (znuL gh L i xs ++ zwv w ++ u)) (hC : zCds zpTno1.2.1 (znuL gh L i xs ++ zwv w ++ u)) : zR (zw2 (znuL gh L i xs ++ zwv w ++ u) zpTno1.2.2.2.2.1) := by
  show zR (zwT gh L i xs w u zpTno1)
  have g0 := hg.1
  have hs := zsame (T := zpTno1) (ch := [5, 7]) (by decide +kernel) (gh := gh) (L := L) (i := i) (xs := xs) (w := w) (u := u)
  have e0 := hs 0 (by decide) (by decide)
  have e5 : zwT gh L i xs w u zpTno1 5 = gh 0 + (-1) := rfl
  have e6 := hs 6 (by decide) (by decide)
  have e7 : zwT gh L i xs w u zpTno1 7 = gh 0 + (-1) := rfl
  generalize zwT gh L i xs w u zpTno1 = w2 at hs e0 e5 e6 e7 ⊢
  refine zR_of [5, 7] hs hR ?_
  have hf : zpCl.filter (fun c => c.2.1.any (fun k => ([5, 7] : List Nat).contains k)) = [(0, [5], [(-2), 4]), (0, [7], [(-1), 24]), (3, [0, 5, 6, 7], [])] := by decide +kernel
  rw [hf]
  exact List.forall_mem_cons.mpr ⟨(show (-2) ≤ w2 5 ∧ w2 5 ≤ 4 from ⟨by omega, by omega⟩), List.forall_mem_cons.mpr ⟨(show (-1) ≤ w2 7 ∧ w2 7 ≤ 24 from ⟨by omega, by omega⟩), List.forall_mem_cons.mpr ⟨(show zR3 (w2 0) (w2 5) (w2 6) (w2 7) from Or.inl ⟨by omega, by omega⟩), fun _ h => absurd h List.not_mem_nil⟩⟩⟩
theorem zTR_zpTru1 {gh : Nat → Int} {w : Nat → Int} {i : Nat} {u : List Int} (hg : zgok gh) (hR : zR w) (hE : zEnv zpTru1.1 (znuL gh L i xs ++ zwv w ++ u)) (hC : zCds zpTru1.2.1 (znuL gh L i xs ++ zwv w ++ u)) : zR (zw2 (znuL gh L i xs ++ zwv w ++ u) zpTru1.2.2.2.2.1) := by
  show zR (zwT gh L i xs w u zpTru1)
  have g0 := hg.1
  obtain ⟨y8, ya8, yb8⟩ := hE.2 8 [(0, 19)] rfl
  have yc8 := zin1' yb8
  have ya8 : some ((xs (i + 2)).toInt) = some y8 := ya8
  cases ya8
  obtain ⟨xa0, xb0, xc0, xd0, xe0⟩ := hC (8, 12, (-1)) (List.mem_of_getElem? (i := 0) rfl)
  have xc0 : some ((xs (i + 2)).toInt) = some xa0 := xc0
  have xd0 : some (w 0) = some xb0 := xd0
  cases xc0
  cases xd0
  have xe0 : (xs (i + 2)).toInt ≤ w 0 + (-1) := xe0
  have hs := zsame (T := zpTru1) (ch := [5, 6, 7]) (by decide +kernel) (gh := gh) (L := L) (i := i) (xs := xs) (w := w) (u := u)
  have e0 := hs 0 (by decide) (by decide)
  have e5 : zwT gh L i xs w u zpTru1 5 = gh 0 + (-2) := rfl
  have e6 : zwT gh L i xs w u zpTru1 6 = (xs (i + 2)).toInt + 0 := rfl
  have e7 : zwT gh L i xs w u zpTru1 7 = (xs (i + 2)).toInt + 0 := rfl
  generalize zwT gh L i xs w u zpTru1 = w2 at hs e0 e5 e6 e7 ⊢
  refine zR_of [5, 6, 7] hs hR ?_
  have hf : zpCl.filter (fun c => c.2.1.any (fun k => ([5, 6, 7] : List Nat).contains k)) = [(0, [5], [(-2), 4]), (0, [6], [0, 19]), (0, [7], [(-1), 24]), (3, [0, 5, 6, 7], [])] := by decide +kernel
  rw [hf]
  exact List.forall_mem_cons.mpr ⟨(show (-2) ≤ w2 5 ∧ w2 5 ≤ 4 from ⟨by omega, by omega⟩), List.forall_mem_cons.mpr ⟨(show 0 ≤ w2 6 ∧ w2 6 ≤ 19 from ⟨by omega, by omega⟩), List.forall_mem_cons.mpr ⟨(show (-1) ≤ w2 7 ∧ w2 7 ≤ 24 from ⟨by omega, by omega⟩), List.forall_mem_cons.mpr ⟨(show zR3 (w2 0) (w2 5) (w2 6) (w2 7) from Or.inr (Or.inl ⟨by omega, by omega, by omega, by omega⟩)), fun _ h => absurd h List.not_mem_nil⟩⟩⟩⟩
theorem zTR_zpTrw1 {gh : Nat → Int} {w : Nat → Int} {i : Nat} {u : List Int} (hg : zgok gh) (hR : zR w) (hE : zEnv zpTrw1.1 (znuL gh L i xs ++ zwv w ++ u)) (hC : zCds zpTrw1.2.1 (znuL gh L i xs ++ zwv w ++ u)) : zR (zw2 (znuL gh L i xs ++ zwv w ++ u) zpTrw1.2.2.2.2.1) := by
  show zR (zwT gh L i xs w u zpTrw1)
  have g0 := hg.1
  obtain ⟨y8, ya8, yb8⟩ := hE.2 8 [(0, 4)] rfl
  have yc8 := zin1' yb8
  have ya8 : some ((xs (i + 2)).toInt) = some y8 := ya8
  cases ya8
  have hs := zsame (T := zpTrw1) (ch := [5, 7]) (by decide +kernel) (gh := gh) (L := L) (i := i) (xs := xs) (w := w) (u := u)
  have e0 := hs 0 (by decide) (by decide)
  have e5 : zwT gh L i xs w u zpTrw1 5 = (xs (i + 2)).toInt + 0 := rfl
  have e6 := hs 6 (by decide) (by decide)
  have e7 : zwT gh L i xs w u zpTrw1 7 = (xs (i + 2)).toInt + 20 := rfl
  generalize zwT gh L i xs w u zpTrw1 = w2 at hs e0 e5 e6 e7 ⊢
  refine zR_of [5, 7] hs hR ?_
  have hf : zpCl.filter (fun c => c.2.1.any (fun k => ([5, 7] : List Nat).contains k)) = [(0, [5], [(-2), 4]), (0, [7], [(-1), 24]), (3, [0, 5, 6, 7], [])] := by decide +kernel
  rw [hf]
  exact List.forall_mem_cons.mpr ⟨(show (-2) ≤ w2 5 ∧ w2 5 ≤ 4 from ⟨by omega, by omega⟩), List.forall_mem_cons.mpr ⟨(show (-1) ≤ w2 7 ∧ w2 7 ≤ 24 from ⟨by omega, by omega⟩), List.forall_mem_cons.mpr ⟨(show zR3 (w2 0) (w2 5) (w2 6) (w2 7) from Or.inr (Or.inr ⟨by omega, by omega, by omega, by omega⟩)), fun _ h => absurd h List.not_mem_nil⟩⟩⟩
theorem zTR_zpTno2 {gh : Nat → Int} {w : Nat → Int} {i : Nat} {u : List Int} (hg : zgok gh) (hR : zR w) (hE : zEnv zpTno2.1 (znuL gh L i xs ++ zwv w ++ u)) (hC : zCds zpTno2.2.1 (znuL gh L i xs ++ zwv w ++ u)) : zR (zw2 (znuL gh L i xs ++ zwv w ++ u) zpTno2.2.2.2.2.1) := by
  show zR (zwT gh L i xs w u zpTno2)
  have g0 := hg.1
  have hs := zsame (T := zpTno2) (ch := [8, 10]) (by decide +kernel) (gh := gh) (L := L) (i := i) (xs := xs) (w := w) (u := u)
  have e0 := hs 0 (by decide) (by decide)
  have e8 : zwT gh L i xs w u zpTno2 8 = gh 0 + (-1) := rfl
  have e9 := hs 9 (by decide) (by decide)
  have e10 : zwT gh L i xs w u zpTno2 10 = gh 0 + (-1) := rfl
  generalize zwT gh L i xs w u zpTno2 = w2 at hs e0 e8 e9 e10 ⊢
  refine zR_of [8, 10] hs hR ?_
  have hf : zpCl.filter (fun c => c.2.1.any (fun k => ([8, 10] : List Nat).contains k)) = [(0, [8], [(-2), 4]), (0, [10], [(-1), 24]), (3, [0, 8, 9, 10], [])] := by decide +kernel
  rw [hf]
  exact List.forall_mem_cons.mpr ⟨(show (-2) ≤ w2 8 ∧ w2 8 ≤ 4 from ⟨by omega, by omega⟩), List.forall_mem_cons.mpr ⟨(show (-1) ≤ w2 10 ∧ w2 10 ≤ 24 from ⟨by omega, by omega⟩), List.forall_mem_cons.mpr ⟨(show zR3 (w2 0) (w2 8) (w2 9) (w2 10) from Or.inl ⟨by omega, by omega⟩), fun _ h => absurd h List.not_mem_nil⟩⟩⟩
theorem zTR_zpTru2 {gh : Nat → Int} {w : Nat → Int} {i : Nat} {u : List Int} (hg : zgok gh) (hR : zR w) (hE : zEnv zpTru2.1 (znuL gh L i xs ++ zwv w ++ u)) (hC : zCds zpTru2.2.1 (znuL gh L i xs ++ zwv w ++ u)) : zR (zw2 (znuL gh L i xs ++ zwv w ++ u) zpTru2.2.2.2.2.1) := by
  show zR (zwT gh L i xs w u zpTru2)
  have g0 := hg.1
  obtain ⟨y8, ya8, yb8⟩ := hE.2 8 [(0, 19)] rfl
  have yc8 := zin1' yb8
  have ya8 : some ((xs (i + 2)).toInt) = some y8 := ya8
  cases ya8
  obtain ⟨xa0, xb0, xc0, xd0, xe0⟩ := hC (8, 12, (-1)) (List.mem_of_getElem? (i := 0) rfl)
  have xc0 : some ((xs (i + 2)).toInt) = some xa0 := xc0
  have xd0 : some (w 0) = some xb0 := xd0
  cases xc0
  cases xd0
  have xe0 : (xs (i + 2)).toInt ≤ w 0 + (-1) := xe0
  have hs := zsame (T := zpTru2) (ch := [8, 9, 10]) (by decide +kernel) (gh := gh) (L := L) (i := i) (xs := xs) (w := w) (u := u)
  have e0 := hs 0 (by decide) (by decide)
  have e8 : zwT gh L i xs w u zpTru2 8 = gh 0 + (-2) := rfl
  have e9 : zwT gh L i xs w u zpTru2 9 = (xs (i + 2)).toInt + 0 := rfl
  have e10 : zwT gh L i xs w u zpTru2 10 = (xs (i + 2)).toInt + 0 := rfl
  generalize zwT gh L i xs w u zpTru2 = w2 at hs e0 e8 e9 e10 ⊢
  refine zR_of [8, 9, 10] hs hR ?_
  have hf : zpCl.filter (fun c => c.2.1.any (fun k => ([8, 9, 10] : List Nat).contains k)) = [(0, [8], [(-2), 4]), (0, [9], [0, 19]), (0, [10], [(-1), 24]), (3, [0, 8, 9, 10], [])] := by decide +kernel
  rw [hf]
  exact List.forall_mem_cons.mpr ⟨(show (-2) ≤ w2 8 ∧ w2 8 ≤ 4 from ⟨by omega, by omega⟩), List.forall_mem_cons.mpr ⟨(show 0 ≤ w2 9 ∧ w2 9 ≤ 19 from ⟨by omega, by omega⟩), List.forall_mem_cons.mpr ⟨(show (-1) ≤ w2 10 ∧ w2 10 ≤ 24 from ⟨by omega, by omega⟩), List.forall_mem_cons.mpr ⟨(show zR3 (w2 0) (w2 8) (w2 9) (w2 10) from Or.inr (Or.inl ⟨by omega, by omega, by omega, by omega⟩)), fun _ h => absurd h List.not_mem_nil⟩⟩⟩⟩
theorem zTR_zpTrw2 {gh : Nat → Int} {w : Nat → Int} {i : Nat} {u : List Int} (hg : zgok gh) (hR : zR w) (hE : zEnv zpTrw2.1 (znuL gh L i xs ++ zwv w ++ u)) (hC : zCds zpTrw2.2.1 (znuL gh L i xs ++ zwv w ++ u)) : zR (zw2 (znuL gh L i xs ++ zwv w ++ u) zpTrw2.2.2.2.2.1) := by
  show zR (zwT gh L i xs w u zpTrw2)
  have g0 := hg.1
  obtain ⟨y8, ya8, yb8⟩ := hE.2 8 [(0, 4)] rfl
  have yc8 := zin1' yb8
  have ya8 : some ((xs (i + 2)).toInt) = some y8 := ya8
  cases ya8
  have hs := zsame (T := zpTrw2) (ch := [8, 10]) (by decide +kernel) (gh := gh) (L := L) (i := i) (xs := xs) (w := w) (u := u)
  have e0 := hs 0 (by decide) (by decide)
  have e8 : zwT gh L i xs w u zpTrw2 8 = (xs (i + 2)).toInt + 0 := rfl
  have e9 := hs 9 (by decide) (by decide)
  have e10 : zwT gh L i xs w u zpTrw2 10 = (xs (i + 2)).toInt + 20 := rfl
  generalize zwT gh L i xs w u zpTrw2 = w2 at hs e0 e8 e9 e10 ⊢
  refine zR_of [8, 10] hs hR ?_
  have hf : zpCl.filter (fun c => c.2.1.any (fun k => ([8, 10] : List Nat).contains k)) = [(0, [8], [(-2), 4]), (0, [10], [(-1), 24]), (3, [0, 8, 9, 10], [])] := by decide +kernel
  rw [hf]
  exact List.forall_mem_cons.mpr ⟨(show (-2) ≤ w2 8 ∧ w2 8 ≤ 4 from ⟨by omega, by omega⟩), List.forall_mem_cons.mpr ⟨(show (-1) ≤ w2 10 ∧ w2 10 ≤ 24 from ⟨by omega, by omega⟩), List.forall_mem_cons.mpr ⟨(show zR3 (w2 0) (w2 8) (w2 9) (w2 10) from Or.inr (Or.inr ⟨by omega, by omega, by omega, by omega⟩)), fun _ h => absurd h List.not_mem_nil⟩⟩⟩
theorem zTR_zpTno3 {gh : Nat → Int} {w : Nat → Int} {i : Nat} {u : List Int} (hg : zgok gh) (hR : zR w) (hE : zEnv zpTno3.1 (znuL gh L i xs ++ zwv w ++ u)) (hC : zCds zpTno3.2.1 (znuL gh L i xs ++ zwv w ++ u)) : zR (zw2 (znuL gh L i xs ++ zwv w ++ u) zpTno3.2.2.2.2.1) := by
  show zR (zwT gh L i xs w u zpTno3)
  have g0 := hg.1
  have hs := zsame (T := zpTno3) (ch := [11, 13]) (by decide +kernel) (gh := gh) (L := L) (i := i) (xs := xs) (w := w) (u := u)
  have e0 := hs 0 (by decide) (by decide)
  have e11 : zwT gh L i xs w u zpTno3 11 = gh 0 + (-1) := rfl
  have e12 := hs 12 (by decide) (by decide)
  have e13 : zwT gh L i xs w u zpTno3 13 = gh 0 + (-1) := rfl
  generalize zwT gh L i xs w u zpTno3 = w2 at hs e0 e11 e12 e13 ⊢
  refine zR_of [11, 13] hs hR ?_
  have hf : zpCl.filter (fun c => c.2.1.any (fun k => ([11, 13] : List Nat).contains k)) = [(0, [11], [(-2), 4]), (0, [13], [(-1), 24]), (3, [0, 11, 12, 13], [])] := by decide +kernel
  rw [hf]
  exact List.forall_mem_cons.mpr ⟨(show (-2) ≤ w2 11 ∧ w2 11 ≤ 4 from ⟨by omega, by omega⟩), List.forall_mem_cons.mpr ⟨(show (-1) ≤ w2 13 ∧ w2 13 ≤ 24 from ⟨by omega, by omega⟩), List.forall_mem_cons.mpr ⟨(show zR3 (w2 0) (w2 11) (w2 12) (w2 13) from Or.inl ⟨by omega, by omega⟩), fun _ h => absurd h List.not_mem_nil⟩⟩⟩
theorem zTR_zpTru3 {gh : Nat → Int} {w : Nat → Int} {i : Nat} {u : List Int} (hg : zgok gh) (hR : zR w) (hE : zEnv zpTru3.1 (znuL gh L i xs ++ zwv w ++ u)) (hC : zCds zpTru3.2.1 (znuL gh L i xs ++ zwv w ++ u)) : zR (zw2 (znuL gh L i xs ++ zwv w ++ u) zpTru3.2.2.2.2.1) := by
  show zR (zwT gh L i xs w u zpTru3)
  have g0 := hg.1
  obtain ⟨y8, ya8, yb8⟩ := hE.2 8 [(0, 19)] rfl
  have yc8 := zin1' yb8
  have ya8 : some ((xs (i + 2)).toInt) = some y8 := ya8
  cases ya8
  obtain ⟨xa0, xb0, xc0, xd0, xe0⟩ := hC (8, 12, (-1)) (List.mem_of_getElem? (i := 0) rfl)
  have xc0 : some ((xs (i + 2)).toInt) = some xa0 := xc0
  have xd0 : some (w 0) = some xb0 := xd0
  cases xc0
  cases xd0
  have xe0 : (xs (i + 2)).toInt ≤ w 0 + (-1) := xe0
  have hs := zsame (T := zpTru3) (ch := [11, 12, 13]) (by decide +kernel) (gh := gh) (L := L) (i := i) (xs := xs) (w := w) (u := u)
  have e0 := hs 0 (by decide) (by decide)
  have e11 : zwT gh L i xs w u zpTru3 11 = gh 0 + (-2) := rfl
  have e12 : zwT gh L i xs w u zpTru3 12 = (xs (i + 2)).toInt + 0 := rfl
  have e13 : zwT gh L i xs w u zpTru3 13 = (xs (i + 2)).toInt + 0 := rfl
  generalize zwT gh L i xs w u zpTru3 = w2 at hs e0 e11 e12 e13 ⊢
  refine zR_of [11, 12, 13] hs hR ?_
  have hf : zpCl.filter (fun c => c.2.1.any (fun k => ([11, 12, 13] : List Nat).contains k)) = [(0, [11], [(-2), 4]), (0, [12], [0, 19]), (0, [13], [(-1), 24]), (3, [0, 11, 12, 13], [])] := by decide +kernel
  rw [hf]
  exact List.forall_mem_cons.mpr ⟨(show (-2) ≤ w2 11 ∧ w2 11 ≤ 4 from ⟨by omega, by omega⟩), List.forall_mem_cons.mpr ⟨(show 0 ≤ w2 12 ∧ w2 12 ≤ 19 from ⟨by omega, by omega⟩), List.forall_mem_cons.mpr ⟨(show (-1) ≤ w2 13 ∧ w2 13 ≤ 24 from ⟨by omega, by omega⟩), List.forall_mem_cons.mpr ⟨(show zR3 (w2 0) (w2 11) (w2 12) (w2 13) from Or.inr (Or.inl ⟨by omega, by omega, by omega, by omega⟩)), fun _ h => absurd h List.not_mem_nil⟩⟩⟩⟩
theorem zTR_zpTrw3 {gh : Nat → Int} {w : Nat → Int} {i : Nat} {u : List Int} (hg : zgok gh) (hR : zR w) (hE : zEnv zpTrw3.1 (znuL gh L i xs ++ zwv w ++ u)) (hC : zCds zpTrw3.2.1 (znuL gh L i xs ++ zwv w ++ u)) : zR (zw2 (znuL gh L i xs ++ zwv w ++ u) zpTrw3.2.2.2.2.1) := by
  show zR (zwT gh L i xs w u zpTrw3)
  have g0 := hg.1
  obtain ⟨y8, ya8, yb8⟩ := hE.2 8 [(0, 4)] rfl
  have yc8 := zin1' yb8
  have ya8 : some ((xs (i + 2)).toInt) = some y8 := ya8
  cases ya8
  have hs := zsame (T := zpTrw3) (ch := [11, 13]) (by decide +kernel) (gh := gh) (L := L) (i := i) (xs := xs) (w := w) (u := u)
  have e0 := hs 0 (by decide) (by decide)
  have e11 : zwT gh L i xs w u zpTrw3 11 = (xs (i + 2)).toInt + 0 := rfl
  have e12 := hs 12 (by decide) (by decide)
  have e13 : zwT gh L i xs w u zpTrw3 13 = (xs (i + 2)).toInt + 20 := rfl
  generalize zwT gh L i xs w u zpTrw3 = w2 at hs e0 e11 e12 e13 ⊢
  refine zR_of [11, 13] hs hR ?_
  have hf : zpCl.filter (fun c => c.2.1.any (fun k => ([11, 13] : List Nat).contains k)) = [(0, [11], [(-2), 4]), (0, [13], [(-1), 24]), (3, [0, 11, 12, 13], [])] := by decide +kernel
  rw [hf]
  exact List.forall_mem_cons.mpr ⟨(show (-2) ≤ w2 11 ∧ w2 11 ≤ 4 from ⟨by omega, by omega⟩), List.forall_mem_cons.mpr ⟨(show (-1) ≤ w2 13 ∧ w2 13 ≤ 24 from ⟨by omega, by omega⟩), List.forall_mem_cons.mpr ⟨(show zR3 (w2 0) (w2 11) (w2 12) (w2 13) from Or.inr (Or.inr ⟨by omega, by omega, by omega, by omega⟩)), fun _ h => absurd h List.not_mem_nil⟩⟩⟩
theorem zTR_zpTno4 {gh : Nat → Int} {w : Nat → Int} {i : Nat} {u : List Int} (hg : zgok gh) (hR : zR w) (hE : zEnv zpTno4.1 (znuL gh L i xs ++ zwv w ++ u)) (hC : zCds zpTno4.2.1 (znuL gh L i xs ++ zwv w ++ u)) : zR (zw2 (znuL gh L i xs ++ zwv w ++ u) zpTno4.2.2.2.2.1) := by
  show zR (zwT gh L i xs w u zpTno4)
  have g0 := hg.1
  have hs := zsame (T := zpTno4) (ch := [14, 16]) (by decide +kernel) (gh := gh) (L := L) (i := i) (xs := xs) (w := w) (u := u)
  have e0 := hs 0 (by decide) (by decide)
  have e14 : zwT gh L i xs w u zpTno4 14 = gh 0 + (-1) := rfl
  have e15 := hs 15 (by decide) (by decide)
  have e16 : zwT gh L i xs w u zpTno4 16 = gh 0 + (-1) := rfl
  generalize zwT gh L i xs w u zpTno4 = w2 at hs e0 e14 e15 e16 ⊢
  refine zR_of [14, 16] hs hR ?_
  have hf : zpCl.filter (fun c => c.2.1.any (fun k => ([14, 16] : List Nat).contains k)) = [(0, [14], [(-2), 4]), (0, [16], [(-1), 24]), (3, [0, 14, 15, 16], [])] := by decide +kernel
  rw [hf]
  exact List.forall_mem_cons.mpr ⟨(show (-2) ≤ w2 14 ∧ w2 14 ≤ 4 from ⟨by omega, by omega⟩), List.forall_mem_cons.mpr ⟨(show (-1) ≤ w2 16 ∧ w2 16 ≤ 24 from ⟨by omega, by omega⟩), List.forall_mem_cons.mpr ⟨(show zR3 (w2 0) (w2 14) (w2 15) (w2 16) from Or.inl ⟨by omega, by omega⟩), fun _ h => absurd h List.not_mem_nil⟩⟩⟩
theorem zTR_zpTru4 {gh : Nat → Int} {w : Nat → Int} {i : Nat} {u : List Int} (hg : zgok gh) (hR : zR w) (hE : zEnv zpTru4.1 (znuL gh L i xs ++ zwv w ++ u)) (hC : zCds zpTru4.2.1 (znuL gh L i xs ++ zwv w ++ u)) : zR (zw2 (znuL gh L i xs ++ zwv w ++ u) zpTru4.2.2.2.2.1) := by
  show zR (zwT gh L i xs w u zpTru4)
  have g0 := hg.1
  obtain ⟨y8, ya8, yb8⟩ := hE.2 8 [(0, 19)] rfl
  have yc8 := zin1' yb8
  have ya8 : some ((xs (i + 2)).toInt) = some y8 := ya8
  cases ya8
  obtain ⟨xa0, xb0, xc0, xd0, xe0⟩ := hC (8, 12, (-1)) (List.mem_of_getElem? (i := 0) rfl)
  have xc0 : some ((xs (i + 2)).toInt) = some xa0 := xc0
  have xd0 : some (w 0) = some xb0 := xd0
  cases xc0
  cases xd0
  have xe0 : (xs (i + 2)).toInt ≤ w 0 + (-1) := xe0
  have hs := zsame (T := zpTru4) (ch := [14, 15, 16]) (by decide +kernel) (gh := gh) (L := L) (i := i) (xs := xs) (w := w) (u := u)
  have e0 := hs 0 (by decide) (by decide)
  have e14 : zwT gh L i xs w u zpTru4 14 = gh 0 + (-2) := rfl
  have e15 : zwT gh L i xs w u zpTru4 15 = (xs (i + 2)).toInt + 0 := rfl
  have e16 : zwT gh L i xs w u zpTru4 16 = (xs (i + 2)).toInt + 0 := rfl
  generalize zwT gh L i xs w u zpTru4 = w2 at hs e0 e14 e15 e16 ⊢
  refine zR_of [14, 15, 16] hs hR ?_
  have hf : zpCl.filter (fun c => c.2.1.any (fun k => ([14, 15, 16] : List Nat).contains k)) = [(0, [14], [(-2), 4]), (0, [15], [0, 19]), (0, [16], [(-1), 24]), (3, [0, 14, 15, 16], [])] := by decide +kernel
  rw [hf]
  exact List.forall_mem_cons.mpr ⟨(show (-2) ≤ w2 14 ∧ w2 14 ≤ 4 from ⟨by omega, by omega⟩), List.forall_mem_cons.mpr ⟨(show 0 ≤ w2 15 ∧ w2 15 ≤ 19 from ⟨by omega, by omega⟩), List.forall_mem_cons.mpr ⟨(show (-1) ≤ w2 16 ∧ w2 16 ≤ 24 from ⟨by omega, by omega⟩), List.forall_mem_cons.mpr ⟨(show zR3 (w2 0) (w2 14) (w2 15) (w2 16) from Or.inr (Or.inl ⟨by omega, by omega, by omega, by omega⟩)), fun _ h => absurd h List.not_mem_nil⟩⟩⟩⟩
theorem zTR_zpTrw4 {gh : Nat → Int} {w : Nat → Int} {i : Nat} {u : List Int} (hg : zgok gh) (hR : zR w) (hE : zEnv zpTrw4.1 (znuL gh L i xs ++ zwv w ++ u)) (hC : zCds zpTrw4.2.1 (znuL gh L i xs ++ zwv w ++ u)) : zR (zw2 (znuL gh L i xs ++ zwv w ++ u) zpTrw4.2.2.2.2.1) := by
  show zR (zwT gh L i xs w u zpTrw4)
  have g0 := hg.1
  obtain ⟨y8, ya8, yb8⟩ := hE.2 8 [(0, 4)] rfl
  have yc8 := zin1' yb8
  have ya8 : some ((xs (i + 2)).toInt) = some y8 := ya8
  cases ya8
  have hs := zsame (T := zpTrw4) (ch := [14, 16]) (by decide +kernel) (gh := gh) (L := L) (i := i) (xs := xs) (w := w) (u := u)
  have e0 := hs 0 (by decide) (by decide)
  have e14 : zwT gh L i xs w u zpTrw4 14 = (xs (i + 2)).toInt + 0 := rfl
  have e15 := hs 15 (by decide) (by decide)
  have e16 : zwT gh L i xs w u zpTrw4 16 = (xs (i + 2)).toInt + 20 := rfl
  generalize zwT gh L i xs w u zpTrw4 = w2 at hs e0 e14 e15 e16 ⊢
  refine zR_of [14, 16] hs hR ?_
  have hf : zpCl.filter (fun c => c.2.1.any (fun k => ([14, 16] : List Nat).contains k)) = [(0, [14], [(-2), 4]), (0, [16], [(-1), 24]), (3, [0, 14, 15, 16], [])] := by decide +kernel
  rw [hf]
  exact List.forall_mem_cons.mpr ⟨(show (-2) ≤ w2 14 ∧ w2 14 ≤ 4 from ⟨by omega, by omega⟩), List.forall_mem_cons.mpr ⟨(show (-1) ≤ w2 16 ∧ w2 16 ≤ 24 from ⟨by omega, by omega⟩), List.forall_mem_cons.mpr ⟨(show zR3 (w2 0) (w2 14) (w2 15) (w2 16) from Or.inr (Or.inr ⟨by omega, by omega, by omega, by omega⟩)), fun _ h => absurd h List.not_mem_nil⟩⟩⟩
theorem zTR_zpTno5 {gh : Nat → Int} {w : Nat → Int} {i : Nat} {u : List Int} (hg : zgok gh) (hR : zR w) (hE : zEnv zpTno5.1 (znuL gh L i xs ++ zwv w ++ u)) (hC : zCds zpTno5.2.1 (znuL gh L i xs ++ zwv w ++ u)) : zR (zw2 (znuL gh L i xs ++ zwv w ++ u) zpTno5.2.2.2.2.1) := by
  show zR (zwT gh L i xs w u zpTno5)
  have g0 := hg.1
  have hs := zsame (T := zpTno5) (ch := [17, 19]) (by decide +kernel) (gh := gh) (L := L) (i := i) (xs := xs) (w := w) (u := u)
  have e0 := hs 0 (by decide) (by decide)
  have e17 : zwT gh L i xs w u zpTno5 17 = gh 0 + (-1) := rfl
  have e18 := hs 18 (by decide) (by decide)
  have e19 : zwT gh L i xs w u zpTno5 19 = gh 0 + (-1) := rfl
  generalize zwT gh L i xs w u zpTno5 = w2 at hs e0 e17 e18 e19 ⊢
  refine zR_of [17, 19] hs hR ?_
  have hf : zpCl.filter (fun c => c.2.1.any (fun k => ([17, 19] : List Nat).contains k)) = [(0, [17], [(-2), 4]), (0, [19], [(-1), 24]), (3, [0, 17, 18, 19], [])] := by decide +kernel
  rw [hf]
  exact List.forall_mem_cons.mpr ⟨(show (-2) ≤ w2 17 ∧ w2 17 ≤ 4 from ⟨by omega, by omega⟩), List.forall_mem_cons.mpr ⟨(show (-1) ≤ w2 19 ∧ w2 19 ≤ 24 from ⟨by omega, by omega⟩), List.forall_mem_cons.mpr ⟨(show zR3 (w2 0) (w2 17) (w2 18) (w2 19) from Or.inl ⟨by omega, by omega⟩), fun _ h => absurd h List.not_mem_nil⟩⟩⟩
theorem zTR_zpTru5 {gh : Nat → Int} {w : Nat → Int} {i : Nat} {u : List Int} (hg : zgok gh) (hR : zR w) (hE : zEnv zpTru5.1 (znuL gh L i xs ++ zwv w ++ u)) (hC : zCds zpTru5.2.1 (znuL gh L i xs ++ zwv w ++ u)) : zR (zw2 (znuL gh L i xs ++ zwv w ++ u) zpTru5.2.2.2.2.1) := by
  show zR (zwT gh L i xs w u zpTru5)
  have g0 := hg.1
  obtain ⟨y8, ya8, yb8⟩ := hE.2 8 [(0, 19)] rfl
  have yc8 := zin1' yb8
  have ya8 : some ((xs (i + 2)).toInt) = some y8 := ya8
  cases ya8
  obtain ⟨xa0, xb0, xc0, xd0, xe0⟩ := hC (8, 12, (-1)) (List.mem_of_getElem? (i := 0) rfl)
  have xc0 : some ((xs (i + 2)).toInt) = some xa0 := xc0
  have xd0 : some (w 0) = some xb0 := xd0
  cases xc0
  cases xd0
  have xe0 : (xs (i + 2)).toInt ≤ w 0 + (-1) := xe0
  have hs := zsame (T := zpTru5) (ch := [17, 18, 19]) (by decide +kernel) (gh := gh) (L := L) (i := i) (xs := xs) (w := w) (u := u)
  have e0 := hs 0 (by decide) (by decide)
  have e17 : zwT gh L i xs w u zpTru5 17 = gh 0 + (-2) := rfl
  have e18 : zwT gh L i xs w u zpTru5 18 = (xs (i + 2)).toInt + 0 := rfl
  have e19 : zwT gh L i xs w u zpTru5 19 = (xs (i + 2)).toInt + 0 := rfl
  generalize zwT gh L i xs w u zpTru5 = w2 at hs e0 e17 e18 e19 ⊢
  refine zR_of [17, 18, 19] hs hR ?_
  have hf : zpCl.filter (fun c => c.2.1.any (fun k => ([17, 18, 19] : List Nat).contains k)) = [(0, [17], [(-2), 4]), (0, [18], [0, 19]), (0, [19], [(-1), 24]), (3, [0, 17, 18, 19], [])] := by decide +kernel
  rw [hf]
  exact List.forall_mem_cons.mpr ⟨(show (-2) ≤ w2 17 ∧ w2 17 ≤ 4 from ⟨by omega, by omega⟩), List.forall_mem_cons.mpr ⟨(show 0 ≤ w2 18 ∧ w2 18 ≤ 19 from ⟨by omega, by omega⟩), List.forall_mem_cons.mpr ⟨(show (-1) ≤ w2 19 ∧ w2 19 ≤ 24 from ⟨by omega, by omega⟩), List.forall_mem_cons.mpr ⟨(show zR3 (w2 0) (w2 17) (w2 18) (w2 19) from Or.inr (Or.inl ⟨by omega, by omega, by omega, by omega⟩)), fun _ h => absurd h List.not_mem_nil⟩⟩⟩⟩
theorem zTR_zpTrw5 {gh : Nat → Int} {w : Nat → Int} {i : Nat} {u : List Int} (hg : zgok gh) (hR : zR w) (hE : zEnv zpTrw5.1 (znuL gh L i xs ++ zwv w ++ u)) (hC : zCds zpTrw5.2.1 (znuL gh L i xs ++ zwv w ++ u)) : zR (zw2 (znuL gh L i xs ++ zwv w ++ u) zpTrw5.2.2.2.2.1) := by
  show zR (zwT gh L i xs w u zpTrw5)
  have g0 := hg.1
  obtain ⟨y8, ya8, yb8⟩ := hE.2 8 [(0, 4)] rfl
  have yc8 := zin1' yb8
  have ya8 : some ((xs (i + 2)).toInt) = some y8 := ya8
  cases ya8
  have hs := zsame (T := zpTrw5) (ch := [17, 19]) (by decide +kernel) (gh := gh) (L := L) (i := i) (xs := xs) (w := w) (u := u)
  have e0 := hs 0 (by decide) (by decide)
  have e17 : zwT gh L i xs w u zpTrw5 17 = (xs (i + 2)).toInt + 0 := rfl
  have e18 := hs 18 (by decide) (by decide)
  have e19 : zwT gh L i xs w u zpTrw5 19 = (xs (i + 2)).toInt + 20 := rfl
  generalize zwT gh L i xs w u zpTrw5 = w2 at hs e0 e17 e18 e19 ⊢
  refine zR_of [17, 19] hs hR ?_
  have hf : zpCl.filter (fun c => c.2.1.any (fun k => ([17, 19] : List Nat).contains k)) = [(0, [17], [(-2), 4]), (0, [19], [(-1), 24]), (3, [0, 17, 18, 19], [])] := by decide +kernel
  rw [hf]
  exact List.forall_mem_cons.mpr ⟨(show (-2) ≤ w2 17 ∧ w2 17 ≤ 4 from ⟨by omega, by omega⟩), List.forall_mem_cons.mpr ⟨(show (-1) ≤ w2 19 ∧ w2 19 ≤ 24 from ⟨by omega, by omega⟩), List.forall_mem_cons.mpr ⟨(show zR3 (w2 0) (w2 17) (w2 18) (w2 19) from Or.inr (Or.inr ⟨by omega, by omega, by omega, by omega⟩)), fun _ h => absurd h List.not_mem_nil⟩⟩⟩
theorem zTR {gh : Nat → Int} {w : Nat → Int} {i : Nat} {u : List Int} : ∀ T ∈ zpLTs, zgok gh → zR w → zEnv T.1 (znuL gh L i xs ++ zwv w ++ u) → zCds T.2.1 (znuL gh L i xs ++ zwv w ++ u) → zR (zw2 (znuL gh L i xs ++ zwv w ++ u) T.2.2.2.2.1) := List.forall_mem_cons.mpr ⟨fun hg hR hE hC => zTR_zpLS hg hR hE hC, List.forall_mem_cons.mpr ⟨fun hg hR hE hC => zTR_zpTrl0 hg hR hE hC, List.forall_mem_cons.mpr ⟨fun hg hR hE hC => zTR_zpTrl1 hg hR hE hC, List.forall_mem_cons.mpr ⟨fun hg hR hE hC => zTR_zpTrl2 hg hR hE hC, List.forall_mem_cons.mpr ⟨fun hg hR hE hC => zTR_zpTrl3 hg hR hE hC, List.forall_mem_cons.mpr ⟨fun hg hR hE hC => zTR_zpTrl4 hg hR hE hC, List.forall_mem_cons.mpr ⟨fun hg hR hE hC => zTR_zpTrl5 hg hR hE hC, List.forall_mem_cons.mpr ⟨fun hg hR hE hC => zTR_zpTrl6 hg hR hE hC, List.forall_mem_cons.mpr ⟨fun hg hR hE hC => zTR_zpTrl7 hg hR hE hC, List.forall_mem_cons.mpr ⟨fun hg hR hE hC => zTR_zpTrl8 hg hR hE hC, List.forall_mem_cons.mpr ⟨fun hg hR hE hC => zTR_zpTrl9 hg hR hE hC, List.forall_mem_cons.mpr ⟨fun hg hR hE hC => zTR_zpTrl10 hg hR hE hC, List.forall_mem_cons.mpr ⟨fun hg hR hE hC => zTR_zpTrl11 hg hR hE hC, List.forall_mem_cons.mpr ⟨fun hg hR hE hC => zTR_zpTrl12 hg hR hE hC, List.forall_mem_cons.mpr ⟨fun hg hR hE hC => zTR_zpTrl13 hg hR hE hC, List.forall_mem_cons.mpr ⟨fun hg hR hE hC => zTR_zpTrl14 hg hR hE hC, List.forall_mem_cons.mpr ⟨fun hg hR hE hC => zTR_zpTrl15 hg hR hE hC, List.forall_mem_cons.mpr ⟨fun hg hR hE hC => zTR_zpTrl16 hg hR hE hC, List.forall_mem_cons.mpr ⟨fun hg hR hE hC => zTR_zpTrl17 hg hR hE hC, List.forall_mem_cons.mpr ⟨fun hg hR hE hC => zTR_zpTrl18 hg hR hE hC, List.forall_mem_cons.mpr ⟨fun hg hR hE hC => zTR_zpTrl19 hg hR hE hC, List.forall_mem_cons.mpr ⟨fun hg hR hE hC => zTR_zpTno0 hg hR hE hC, List.forall_mem_cons.mpr ⟨fun hg hR hE hC => zTR_zpTru0 hg hR hE hC, List.forall_mem_cons.mpr ⟨fun hg hR hE hC => zTR_zpTrw0 hg hR hE hC, List.forall_mem_cons.mpr ⟨fun hg hR hE hC => zTR_zpTno1 hg hR hE hC, List.forall_mem_cons.mpr ⟨fun hg hR hE hC => zTR_zpTru1 hg hR hE hC, List.forall_mem_cons.mpr ⟨fun hg hR hE hC => zTR_zpTrw1 hg hR hE hC, List.forall_mem_cons.mpr ⟨fun hg hR hE hC => zTR_zpTno2 hg hR hE hC, List.forall_mem_cons.mpr ⟨fun hg hR hE hC => zTR_zpTru2 hg hR hE hC, List.forall_mem_cons.mpr ⟨fun hg hR hE hC => zTR_zpTrw2 hg hR hE hC, List.forall_mem_cons.mpr ⟨fun hg hR hE hC => zTR_zpTno3 hg hR hE hC, List.forall_mem_cons.mpr ⟨fun hg hR hE hC => zTR_zpTru3 hg hR hE hC, List.forall_mem_cons.mpr ⟨fun hg hR hE hC => zTR_zpTrw3 hg hR hE hC, List.forall_mem_cons.mpr ⟨fun hg hR hE hC => zTR_zpTno4 hg hR hE hC, List.forall_mem_cons.mpr ⟨fun hg hR hE hC => zTR_zpTru4 hg hR hE hC, List.forall_mem_cons.mpr ⟨fun hg hR hE hC => zTR_zpTrw4 hg hR hE hC, List.forall_mem_cons.mpr ⟨fun hg hR hE hC => zTR_zpTno5 hg hR hE hC, List.forall_mem_cons.mpr ⟨fun hg hR hE hC => zTR_zpTru5 hg hR hE hC, List.forall_mem_cons.mpr ⟨fun hg hR hE hC => zTR_zpTrw5 hg hR hE hC, fun _ h => absurd h List.not_mem_nil⟩⟩⟩⟩⟩⟩⟩⟩⟩⟩⟩⟩⟩⟩⟩⟩⟩⟩⟩⟩⟩⟩⟩⟩⟩⟩⟩⟩⟩⟩⟩⟩⟩⟩⟩⟩⟩⟩⟩
theorem zTok : ∀ T ∈ zpLTs, zTokB T = true := by decide +kernel
theorem zstop_comer (C0 : lw_At p s m meth c b L xs) (hK : va_K D zpcl tys s) (hro : zpRO ad A s s.heap) (had : ad 3000 = b) (hbA : ¬ A b) (hL : L ≤ 384) {i : Nat} (hi : i + 5 < L) (hcs : ce ≤ room_1.cells ∧ sl ≤ room_1.slots) (hn : zStop p l e s m below meth c b L xs D tys A ad Q ce sl i 347 zpLS) : zStop p l e s m below meth c b L xs D tys A ad Q ce sl i 342 zpLS := by
  intro gh hg w hR ws0 u ls st ws H locs hG
  obtain ⟨rfl, hl, hP, hD, hS, hW, hD0, hwt⟩ := zstop_of (zTok zpLS List.mem_cons_self) hg had (by omega) hG
  have hRw := zTR_zpLS hg hR hG.2.1.1 hG.2.1.2.1
  generalize zw2 (znuL gh L i xs ++ zwv w ++ u) zpLS.2.2.2.2.1 = w9 at hwt hRw
  have X := zlawX (p := p) (l := l) (e := e) (below := below) (Q := Q) (CS := []) C0 hK hro (fun _ h => absurd h List.not_mem_nil) (gh := gh) hg.1 (nuE := znuL gh L i xs ++ zwv w) rfl hcs ws0
  obtain ⟨⟨hx, hb, h0, hml, hH0, hown⟩, ⟨hts, -, -, -, -, -, hlocks⟩, -, ⟨-, -, -, -, hML⟩, -⟩ := id X
  obtain ⟨-, -, -, -, -, -, hX, hbl, -, -⟩ := C0
  obtain ⟨g0, g1, g2, g3⟩ := id hg
  obtain ⟨l1, T6, N6, hcl⟩ := (hML (31, 0, zpC273.1, 0, 11) (by decide)).1 rfl zpC273 rfl
  obtain ⟨fs, c1, -, -⟩ := hW (0, 0, (0, 11, 0, [(2, 1, 1), (2, 2, 2), (2, 3, 3), (2, 4, 4), (2, 5, 5), (2, 6, 6), (2, 7, 7), (2, 8, 8), (2, 9, 9)])) (by decide) 0 (Nat.le_refl _) (Nat.le_refl _)
  have d342 : decode code 342 = .ok (.aload_n 1, 1) := by decide +kernel
  have d343 : decode code 343 = .ok (.invokevirtual 31, 3) := by decide +kernel
  have d346 : decode code 346 = .ok (.pop, 1) := by decide +kernel
  have hgn : ∀ g, g < zpZ.2.2 → ([gh 0, gh 1, gh 2, gh 3] : List Int)[g]? = some (gh g) := fun g h4 => by
    have h4 : g < 4 := h4
    match g, h4 with
    | 0, _ => rfl
    | 1, _ => rfl
    | 2, _ => rfl
    | 3, _ => rfl
  have hEnt : zEnt zpZ ad gh tys (zKof zpMT zpC273) ws [gh 0, gh 1, gh 2, gh 3] (.ref (ad 0) :: []) := by
    refine ⟨hW, ⟨rfl, fun j iv hj => ?_⟩, (fun q hq => by cases hq), hgn, ?_, rfl, (fun f hf => by cases hf), rfl⟩
    · match j, hj with
      | 0, hj => cases hj; exact ⟨_, rfl, zin1 (by omega) (by omega)⟩
      | 1, hj => cases hj; exact ⟨_, rfl, zin1 (by omega) (by omega)⟩
      | 2, hj => cases hj; exact ⟨_, rfl, zin1 (by omega) (by omega)⟩
      | 3, hj => cases hj; exact ⟨_, rfl, zin1 (by omega) (by omega)⟩
      | n + 4, hj => cases hj
    · have hAs : zall (zm ad [gh 0, gh 1, gh 2, gh 3]) [(3, 0, 0, 0, 0)] (.ref (ad 0) :: []) := ⟨⟨0, rfl, gh 0, rfl, by rw [g0]; rfl⟩, trivial⟩
      exact zlayP_ok (n := 2) hAs (by decide) (by decide)
  have hMet := zpM273 (l := l) zpHyp D tys A ad gh ws [gh 0, gh 1, gh 2, gh 3] (.ref (ad 0) :: []) h0 hEnt hD
  refine lv_aload_n hx hb d342 rfl (lv_at hl 2 rfl) ?_
  refine zr_callE (As := []) (restc := []) (n := 0) hx hb hcs hml hH0 hown hts zTs_good hK zROx_ok hro hl.1 hP hS c1 hcl rfl hMet d343 l1 ⟨Nat.le_of_ble_eq_true rfl, Nat.le_of_ble_eq_true rfl⟩ (by decide) (fun gh' nu' alt w ws1 H1 locs1 hφ hgn' halt q1 q2 q3 q4 q5 q6 => ?_)
  have halt : alt = _ := List.mem_singleton.mp halt
  subst halt
  obtain ⟨t, -, -, z3, -⟩ := q6
  obtain ⟨r, rfl⟩ : ∃ r : Value, w = some r := by
    cases w with
    | none => exact z3.elim
    | some v => exact ⟨v, rfl⟩
  obtain ⟨⟨x, rfl, -⟩, -⟩ := z3
  have hg' : zgok gh' := ⟨(hφ.2.2 0 (by decide)).trans g0, ⟨Int.le_trans g1.1 hφ.1, hφ.2.1⟩, (hφ.2.2 2 (by decide)).trans g2, (hφ.2.2 3 (by decide)).trans g3⟩
  have hun : ∀ j : Nat, zfv ws1 90 j = zfv ws 90 j := fun j => q5 90 j (fun w hw hc => by
    have h9 : ∀ w ∈ zpC273.2.2.2.2, w.2.1 < 90 := by decide
    have h8 := h9 w hw
    have h7 : ((90 : Nat) : Int) ≤ w.2.1 := hc.2.1
    omega)
  have hD1 : zDK0 ws1 := by
    obtain ⟨dn, kp, k1, k2, k3⟩ := hD0
    exact ⟨dn, kp, by rw [hun]; exact k1, by rw [hun]; exact k2, k3⟩
  have hwt1 : zWt w9 ws1 := fun q hq => by
    obtain ⟨x, x1, x2⟩ := hwt q hq
    refine ⟨x, ?_, x2⟩
    rw [q5 q.2.1 q.2.2 (fun w hw hc => absurd hc ((by decide +kernel : ∀ q ∈ zpWt, ∀ w ∈ zpC273.2.2.2.2, ¬ (w.1 ≤ ((q.2.1 : Nat) : Int) ∧ ((q.2.1 : Nat) : Int) ≤ w.2.1 ∧ (w.2.2.1 = 0 ∨ w.2.2.2 = q.2.2))) q hq w hw))]
    exact x1
  refine lv_pop hx hb d346 rfl ?_
  obtain ⟨u', hG'⟩ := zstop_G (D := D) (tys := tys) (A := A) (s := s) (xs := xs) hg' had hL hi hl q1 q2 q3 q4 hD1 hwt1 hRw
  exact hn gh' hg' w9 hRw ws1 u' ls [] ws1 H1 locs1 hG'

theorem zstop_comers (C0 : lw_At p s m meth c b L xs) (hK : va_K D zpcl tys s) (hro : zpRO ad A s s.heap) (had : ad 3000 = b) (hbA : ¬ A b) (hL : L ≤ 384) {i : Nat} (hi : i + 5 < L) (hcs : ce ≤ room_1.cells ∧ sl ≤ room_1.slots) (hn : zStop p l e s m below meth c b L xs D tys A ad Q ce sl i 375 zpLS) : zStop p l e s m below meth c b L xs D tys A ad Q ce sl i 355 zpLS := by
  intro gh hg w hR ws0 u ls st ws H locs hG
  obtain ⟨rfl, hl, hP, hD, hS, hW, hD0, hwt⟩ := zstop_of (zTok zpLS List.mem_cons_self) hg had (by omega) hG
  have hRw := zTR_zpLS hg hR hG.2.1.1 hG.2.1.2.1
  generalize zw2 (znuL gh L i xs ++ zwv w ++ u) zpLS.2.2.2.2.1 = w9 at hwt hRw
  have X := zlawX (p := p) (l := l) (e := e) (below := below) (Q := Q) (CS := []) C0 hK hro (fun _ h => absurd h List.not_mem_nil) (gh := gh) hg.1 (nuE := znuL gh L i xs ++ zwv w) rfl hcs ws0
  obtain ⟨⟨hx, hb, h0, hml, hH0, hown⟩, ⟨hts, -, -, -, -, -, hlocks⟩, -, ⟨-, -, -, -, hML⟩, -⟩ := id X
  obtain ⟨-, -, -, -, -, -, hX, hbl, -, -⟩ := C0
  obtain ⟨g0, g1, g2, g3⟩ := id hg
  obtain ⟨l1, T6, N6, hcl⟩ := (hML (36, 0, zpC277.1, 3, 11) (by decide)).1 rfl zpC277 rfl
  obtain ⟨fs, c1, -, -⟩ := hW (0, 0, (0, 11, 0, [(2, 1, 1), (2, 2, 2), (2, 3, 3), (2, 4, 4), (2, 5, 5), (2, 6, 6), (2, 7, 7), (2, 8, 8), (2, 9, 9)])) (by decide) 0 (Nat.le_refl _) (Nat.le_refl _)
  have d355 : decode code 355 = .ok (.aload_n 1, 1) := by decide +kernel
  have d356 : decode code 356 = .ok (.aload_n 0, 1) := by decide +kernel
  have d357 : decode code 357 = .ok (.iload_n 3, 1) := by decide +kernel
  have d358 : decode code 358 = .ok (.iconst 1, 1) := by decide +kernel
  have d359 : decode code 359 = .ok (.iadd, 1) := by decide +kernel
  have d360 : decode code 360 = .ok (.iaload, 1) := by decide +kernel
  have d361 : decode code 361 = .ok (.aload_n 0, 1) := by decide +kernel
  have d362 : decode code 362 = .ok (.iload_n 3, 1) := by decide +kernel
  have d363 : decode code 363 = .ok (.iconst 2, 1) := by decide +kernel
  have d364 : decode code 364 = .ok (.iadd, 1) := by decide +kernel
  have d365 : decode code 365 = .ok (.iaload, 1) := by decide +kernel
  have d366 : decode code 366 = .ok (.aload_n 0, 1) := by decide +kernel
  have d367 : decode code 367 = .ok (.iload_n 3, 1) := by decide +kernel
  have d368 : decode code 368 = .ok (.iconst 3, 1) := by decide +kernel
  have d369 : decode code 369 = .ok (.iadd, 1) := by decide +kernel
  have d370 : decode code 370 = .ok (.iaload, 1) := by decide +kernel
  have d371 : decode code 371 = .ok (.invokevirtual 36, 3) := by decide +kernel
  have d374 : decode code 374 = .ok (.pop, 1) := by decide +kernel
  have hgn : ∀ g, g < zpZ.2.2 → ([gh 0, gh 1, gh 2, gh 3, (xs (i + 1)).toInt, (xs (i + 2)).toInt, (xs (i + 3)).toInt] : List Int)[g]? = some (gh g) := fun g h4 => by
    have h4 : g < 4 := h4
    match g, h4 with
    | 0, _ => rfl
    | 1, _ => rfl
    | 2, _ => rfl
    | 3, _ => rfl
  have hEnt : zEnt zpZ ad gh tys (zKof zpMT zpC277) ws [gh 0, gh 1, gh 2, gh 3, (xs (i + 1)).toInt, (xs (i + 2)).toInt, (xs (i + 3)).toInt] (.ref (ad 0) :: [.int (xs (i + 1)), .int (xs (i + 2)), .int (xs (i + 3))]) := by
    refine ⟨hW, ⟨rfl, fun j iv hj => ?_⟩, (fun q hq => by cases hq), hgn, ?_, rfl, (fun f hf => by cases hf), rfl⟩
    · match j, hj with
      | 0, hj => cases hj; exact ⟨_, rfl, zin1 (by omega) (by omega)⟩
      | 1, hj => cases hj; exact ⟨_, rfl, zin1 (by omega) (by omega)⟩
      | 2, hj => cases hj; exact ⟨_, rfl, zin1 (by omega) (by omega)⟩
      | 3, hj => cases hj; exact ⟨_, rfl, zin1 (by omega) (by omega)⟩
      | 4, hj => cases hj; exact ⟨_, rfl, zfullI _⟩
      | 5, hj => cases hj; exact ⟨_, rfl, zfullI _⟩
      | 6, hj => cases hj; exact ⟨_, rfl, zfullI _⟩
      | n + 7, hj => cases hj
    · have hAs : zall (zm ad [gh 0, gh 1, gh 2, gh 3, (xs (i + 1)).toInt, (xs (i + 2)).toInt, (xs (i + 3)).toInt]) [(3, 0, 0, 0, 0), (1, 4, 0, 0, 0), (1, 5, 0, 0, 0), (1, 6, 0, 0, 0)] (.ref (ad 0) :: [.int (xs (i + 1)), .int (xs (i + 2)), .int (xs (i + 3))]) := ⟨⟨0, rfl, gh 0, rfl, by rw [g0]; rfl⟩, ⟨_, rfl, _, rfl, by omega⟩, ⟨_, rfl, _, rfl, by omega⟩, ⟨_, rfl, _, rfl, by omega⟩, trivial⟩
      exact zlayP_ok (n := 7) hAs (by decide) (by decide)
  have hMet := zpM277 (l := l) zpHyp D tys A ad gh ws [gh 0, gh 1, gh 2, gh 3, (xs (i + 1)).toInt, (xs (i + 2)).toInt, (xs (i + 3)).toInt] (.ref (ad 0) :: [.int (xs (i + 1)), .int (xs (i + 2)), .int (xs (i + 3))]) h0 hEnt hD
  refine lv_aload_n hx hb d355 rfl (lv_at hl 2 rfl) ?_
  have e0 : (Int32.ofNat i + Int32.ofInt 1).toInt = (i : Int) + 1 := by
    rw [Int32.toInt_add, Int32.toInt_ofNat_of_lt (by omega), show (Int32.ofInt 1).toInt = 1 from rfl, Int.bmod_eq_of_le (by omega) (by omega)]
  have f0 : (Int32.ofNat i + Int32.ofInt 1).toNatClampNeg = i + 1 := by
    show (Int32.ofNat i + Int32.ofInt 1).toInt.toNat = _
    omega
  refine lv_aload_n hx hb d356 rfl (lv_at hl 3 rfl) ?_
  refine lv_iload_n hx hb d357 rfl (lv_at hl 0 rfl) ?_
  refine lv_iconst hx hb d358 rfl ?_
  refine lv_iadd hx hb d359 ?_
  refine va_sld hx hb hX hbl hbA hS (vp_in_iff.mpr ⟨by omega, by omega⟩) d360 ?_
  rw [f0]
  have e1 : (Int32.ofNat i + Int32.ofInt 2).toInt = (i : Int) + 2 := by
    rw [Int32.toInt_add, Int32.toInt_ofNat_of_lt (by omega), show (Int32.ofInt 2).toInt = 2 from rfl, Int.bmod_eq_of_le (by omega) (by omega)]
  have f1 : (Int32.ofNat i + Int32.ofInt 2).toNatClampNeg = i + 2 := by
    show (Int32.ofNat i + Int32.ofInt 2).toInt.toNat = _
    omega
  refine lv_aload_n hx hb d361 rfl (lv_at hl 3 rfl) ?_
  refine lv_iload_n hx hb d362 rfl (lv_at hl 0 rfl) ?_
  refine lv_iconst hx hb d363 rfl ?_
  refine lv_iadd hx hb d364 ?_
  refine va_sld hx hb hX hbl hbA hS (vp_in_iff.mpr ⟨by omega, by omega⟩) d365 ?_
  rw [f1]
  have e2 : (Int32.ofNat i + Int32.ofInt 3).toInt = (i : Int) + 3 := by
    rw [Int32.toInt_add, Int32.toInt_ofNat_of_lt (by omega), show (Int32.ofInt 3).toInt = 3 from rfl, Int.bmod_eq_of_le (by omega) (by omega)]
  have f2 : (Int32.ofNat i + Int32.ofInt 3).toNatClampNeg = i + 3 := by
    show (Int32.ofNat i + Int32.ofInt 3).toInt.toNat = _
    omega
  refine lv_aload_n hx hb d366 rfl (lv_at hl 3 rfl) ?_
  refine lv_iload_n hx hb d367 rfl (lv_at hl 0 rfl) ?_
  refine lv_iconst hx hb d368 rfl ?_
  refine lv_iadd hx hb d369 ?_
  refine va_sld hx hb hX hbl hbA hS (vp_in_iff.mpr ⟨by omega, by omega⟩) d370 ?_
  rw [f2]
  refine zr_callE (As := [.int (xs (i + 1)), .int (xs (i + 2)), .int (xs (i + 3))]) (restc := []) (n := 3) hx hb hcs hml hH0 hown hts zTs_good hK zROx_ok hro hl.1 hP hS c1 hcl rfl hMet d371 l1 ⟨Nat.le_of_ble_eq_true rfl, Nat.le_of_ble_eq_true rfl⟩ (by decide) (fun gh' nu' alt w ws1 H1 locs1 hφ hgn' halt q1 q2 q3 q4 q5 q6 => ?_)
  have halt : alt = _ := List.mem_singleton.mp halt
  subst halt
  obtain ⟨t, -, -, z3, -⟩ := q6
  obtain ⟨r, rfl⟩ : ∃ r : Value, w = some r := by
    cases w with
    | none => exact z3.elim
    | some v => exact ⟨v, rfl⟩
  obtain ⟨⟨x, rfl, -⟩, -⟩ := z3
  have hg' : zgok gh' := ⟨(hφ.2.2 0 (by decide)).trans g0, ⟨Int.le_trans g1.1 hφ.1, hφ.2.1⟩, (hφ.2.2 2 (by decide)).trans g2, (hφ.2.2 3 (by decide)).trans g3⟩
  have hun : ∀ j : Nat, zfv ws1 90 j = zfv ws 90 j := fun j => q5 90 j (fun w hw hc => by
    have h9 : ∀ w ∈ zpC277.2.2.2.2, w.2.1 < 90 := by decide
    have h8 := h9 w hw
    have h7 : ((90 : Nat) : Int) ≤ w.2.1 := hc.2.1
    omega)
  have hD1 : zDK0 ws1 := by
    obtain ⟨dn, kp, k1, k2, k3⟩ := hD0
    exact ⟨dn, kp, by rw [hun]; exact k1, by rw [hun]; exact k2, k3⟩
  have hwt1 : zWt w9 ws1 := fun q hq => by
    obtain ⟨x, x1, x2⟩ := hwt q hq
    refine ⟨x, ?_, x2⟩
    rw [q5 q.2.1 q.2.2 (fun w hw hc => absurd hc ((by decide +kernel : ∀ q ∈ zpWt, ∀ w ∈ zpC277.2.2.2.2, ¬ (w.1 ≤ ((q.2.1 : Nat) : Int) ∧ ((q.2.1 : Nat) : Int) ≤ w.2.1 ∧ (w.2.2.1 = 0 ∨ w.2.2.2 = q.2.2))) q hq w hw))]
    exact x1
  refine lv_pop hx hb d374 rfl ?_
  obtain ⟨u', hG'⟩ := zstop_G (D := D) (tys := tys) (A := A) (s := s) (xs := xs) hg' had hL hi hl q1 q2 q3 q4 hD1 hwt1 hRw
  exact hn gh' hg' w9 hRw ws1 u' ls [] ws1 H1 locs1 hG'

theorem zlaw_loop (C0 : lw_At p s m meth c b L xs) (hK : va_K D zpcl tys s) (hro : zpRO ad A s s.heap) (had : ad 3000 = b) (hbA : ¬ A b) (hA : ∀ q, A q → s.heap.size ≤ q) (hL : L ≤ 384) (hcs : ce ≤ 600000 ∧ sl ≤ 7302250) : ∀ (n i : Nat) (gh : Nat → Int) (ls : Array Slot) (ws : va_W) (H : Heap) (locs : List Loc), 390 - i = n → i ≤ 390 → zgok gh → lv_has ls 4 [(3, .int (Int32.ofNat i)), (2, .ref (ad 90)), (1, .ref (ad 0)), (0, .ref b)] → va_P D zpcl ws H → va_D A ws → va_S A s.heap H locs → zW zpZ ad gh tys ws → zDK ws → W p l e room_1 s m #[Value.ref b] below meth c H locs ce sl (lw_Z below #[Value.ref b] s) (F0 m 18 ls []) := by
  intro n
  induction n using Nat.strongRecOn with
  | ind n ih =>
    intro i gh ls ws H locs hn i390 hg hl hP hD hS hW hDK
    obtain ⟨hx, hb, hr, hml, hown, hts0, hX, hbl, hlocks, -⟩ := id C0
    have hi3 : (Int32.ofNat i).toInt = (i : Int) := Int32.toInt_ofNat_of_lt (by omega)
    have hL3 : (Int32.ofNat L).toInt = (L : Int) := Int32.toInt_ofNat_of_lt (by omega)
    have e6 : (Int8.ofInt 6).toInt32.toInt = 6 := by decide
    have es : (Int32.ofNat L - (Int8.ofInt 6).toInt32).toInt = (L : Int) - 6 := by
      rw [Int32.toInt_sub, hL3, e6, Int.bmod_eq_of_le (by omega) (by omega)]
    have d18 : decode code 18 = .ok (.iload_n 3, 1) := by decide +kernel
    have d19 : decode code 19 = .ok (.aload_n 0, 1) := by decide +kernel
    have d20 : decode code 20 = .ok (.arraylength, 1) := by decide +kernel
    have d21 : decode code 21 = .ok (.bipush 6, 2) := by decide +kernel
    have d23 : decode code 23 = .ok (.isub, 1) := by decide +kernel
    have d24 : decode code 24 = .ok (.if_icmp .gt 1466, 3) := by decide +kernel
    have dR0 : decode code 1490 = .ok (.iconst 1, 1) := by decide +kernel
    have dR1 : decode code 1491 = .ok (.ireturn, 1) := by decide +kernel
    have dE : decode code 1484 = .ok (.iinc 3 6, 3) := by decide +kernel
    have dG : decode code 1487 = .ok (.goto (-1469), 3) := by decide +kernel
    refine lv_iload_n hx hb d18 rfl (lv_at hl 0 rfl) ?_
    refine lv_aload_n hx hb d19 rfl (lv_at hl 3 rfl) ?_
    refine va_slen hx hb hX hbl hbA hS d20 ?_
    refine lv_bipush hx hb d21 rfl ?_
    refine lv_isub hx hb d23 ?_
    refine lv_icmp_gt hx hb d24 (tgt := 1490) (by decide) (fun _ => ?_) (fun hgt => ?_)
    · refine lv_iconst hx hb dR0 rfl ?_
      refine va_forget (fun q hq => hA _ (hS.2.2 q hq)) ?_
      exact W.widen hcs.1 hcs.2 (lw_ret hx hb hr hlocks dR1)
    · have hi5 : i + 5 < L := by
        have h1 : ¬ (Int32.ofNat L - (Int8.ofInt 6).toInt32).toInt < (Int32.ofNat i).toInt := fun h => hgt (Int32.lt_iff_toInt_lt.mpr h)
        omega
      have hcs' : ce ≤ room_1.cells ∧ sl ≤ room_1.slots := hcs
      have sE : ∀ T ∈ zpLTs, zStop p l e s m below meth c b L xs D tys A ad (lw_Z below #[Value.ref b] s) ce sl i 1484 T := by
        intro T hT gh hg w hR ws0 u ls st ws H locs hG
        have hRw := zTR T hT hg hR hG.2.1.1 hG.2.1.2.1
        obtain ⟨rfl, hl, hP, hD, hS, hW, hD0, hwt⟩ := zstop_of (zTok T hT) hg had (by omega) hG
        refine lv_iinc hx hb dE hl (k := 0) rfl rfl (by decide) rfl (fun ls3 hl3 => ?_)
        refine lv_goto hx hb dG (tgt := 18) (by decide) ?_
        have hadd : Int32.ofNat i + Int32.ofInt 6 = Int32.ofNat (i + 6) := by
          apply Int32.toInt_inj.mp
          rw [Int32.toInt_add, hi3, show (Int32.ofInt 6).toInt = 6 from rfl, Int.bmod_eq_of_le (by omega) (by omega), Int32.toInt_ofNat_of_lt (by omega)]
          omega
        rw [hadd] at hl3
        exact ih (390 - (i + 6)) (by omega) (i + 6) gh ls3 ws H locs rfl (by omega) hg hl3 hP hD hS hW ⟨hD0, _, hwt, hRw⟩
      have sX : ∀ a ∈ zpLX, zStop p l e s m below meth c b L xs D tys A ad (lw_Z below #[Value.ref b] s) ce sl i a.1 a.2.1.2 := fun a ha => by
        cases List.mem_singleton.mp ha
        exact sE zpLS List.mem_cons_self

      have sb0 := zseg (p := p) (l := l) (e := e) (below := below) (Q := lw_Z below #[Value.ref b] s) C0 hK hro had hbA hL hi5 hcs' (zmets_cons (zpM874 zpHyp) zmets_nil) zpLb0 sX
      have sa0 := zseg (p := p) (l := l) (e := e) (below := below) (Q := lw_Z below #[Value.ref b] s) C0 hK hro had hbA hL hi5 hcs' (zmets_cons (zpM231 zpHyp) zmets_nil) zpLa0 (fun a ha => by cases List.mem_singleton.mp ha; exact sb0)
      have sb1 := zseg (p := p) (l := l) (e := e) (below := below) (Q := lw_Z below #[Value.ref b] s) C0 hK hro had hbA hL hi5 hcs' (zmets_cons (zpM878 zpHyp) zmets_nil) zpLb1 sX
      have sa1 := zseg (p := p) (l := l) (e := e) (below := below) (Q := lw_Z below #[Value.ref b] s) C0 hK hro had hbA hL hi5 hcs' (zmets_cons (zpM238 zpHyp) zmets_nil) zpLa1 (fun a ha => by cases List.mem_singleton.mp ha; exact sb1)
      have sb2 := zseg (p := p) (l := l) (e := e) (below := below) (Q := lw_Z below #[Value.ref b] s) C0 hK hro had hbA hL hi5 hcs' (zmets_cons (zpM881 zpHyp) zmets_nil) zpLb2 sX
      have sa2 := zseg (p := p) (l := l) (e := e) (below := below) (Q := lw_Z below #[Value.ref b] s) C0 hK hro had hbA hL hi5 hcs' (zmets_cons (zpM240 zpHyp) zmets_nil) zpLa2 (fun a ha => by cases List.mem_singleton.mp ha; exact sb2)
      have sb3 := zseg (p := p) (l := l) (e := e) (below := below) (Q := lw_Z below #[Value.ref b] s) C0 hK hro had hbA hL hi5 hcs' (zmets_cons (zpM883 zpHyp) zmets_nil) zpLb3 sX
      have sa3 := zseg (p := p) (l := l) (e := e) (below := below) (Q := lw_Z below #[Value.ref b] s) C0 hK hro had hbA hL hi5 hcs' (zmets_cons (zpM242 zpHyp) zmets_nil) zpLa3 (fun a ha => by cases List.mem_singleton.mp ha; exact sb3)
      have sb4 := zseg (p := p) (l := l) (e := e) (below := below) (Q := lw_Z below #[Value.ref b] s) C0 hK hro had hbA hL hi5 hcs' (zmets_cons (zpM915 zpHyp) zmets_nil) zpLb4 sX
      have sa4 := zstop_comer C0 hK hro had hbA hL hi5 hcs' sb4
      have sb5 := zseg (p := p) (l := l) (e := e) (below := below) (Q := lw_Z below #[Value.ref b] s) C0 hK hro had hbA hL hi5 hcs' (zmets_cons (zpM917 zpHyp) zmets_nil) zpLb5 sX
      have sa5 := zstop_comers C0 hK hro had hbA hL hi5 hcs' sb5
      have sb6 := zseg (p := p) (l := l) (e := e) (below := below) (Q := lw_Z below #[Value.ref b] s) C0 hK hro had hbA hL hi5 hcs' (zmets_cons (zpM925 zpHyp) zmets_nil) zpLb6 sX
      have sa6 := zseg (p := p) (l := l) (e := e) (below := below) (Q := lw_Z below #[Value.ref b] s) C0 hK hro had hbA hL hi5 hcs' (zmets_cons (zpM279 zpHyp) zmets_nil) zpLa6 (fun a ha => by cases List.mem_singleton.mp ha; exact sb6)
      have sb7 := zseg (p := p) (l := l) (e := e) (below := below) (Q := lw_Z below #[Value.ref b] s) C0 hK hro had hbA hL hi5 hcs' (zmets_cons (zpM926 zpHyp) zmets_nil) zpLb7 sX
      have sa7 := zseg (p := p) (l := l) (e := e) (below := below) (Q := lw_Z below #[Value.ref b] s) C0 hK hro had hbA hL hi5 hcs' (zmets_cons (zpM280 zpHyp) zmets_nil) zpLa7 (fun a ha => by cases List.mem_singleton.mp ha; exact sb7)
      have sb8 := zseg (p := p) (l := l) (e := e) (below := below) (Q := lw_Z below #[Value.ref b] s) C0 hK hro had hbA hL hi5 hcs' (zmets_cons (zpM928 zpHyp) zmets_nil) zpLb8 sX
      have sa8 := zseg (p := p) (l := l) (e := e) (below := below) (Q := lw_Z below #[Value.ref b] s) C0 hK hro had hbA hL hi5 hcs' (zmets_cons (zpM282 zpHyp) zmets_nil) zpLa8 (fun a ha => by cases List.mem_singleton.mp ha; exact sb8)
      have sb9 := zseg (p := p) (l := l) (e := e) (below := below) (Q := lw_Z below #[Value.ref b] s) C0 hK hro had hbA hL hi5 hcs' (zmets_cons (zpM932 zpHyp) zmets_nil) zpLb9 sX
      have sa9 := zseg (p := p) (l := l) (e := e) (below := below) (Q := lw_Z below #[Value.ref b] s) C0 hK hro had hbA hL hi5 hcs' (zmets_cons (zpM286 zpHyp) zmets_nil) zpLa9 (fun a ha => by cases List.mem_singleton.mp ha; exact sb9)
      have sb10 := zseg (p := p) (l := l) (e := e) (below := below) (Q := lw_Z below #[Value.ref b] s) C0 hK hro had hbA hL hi5 hcs' (zmets_cons (zpM933 zpHyp) zmets_nil) zpLb10 sX
      have sa10 := zseg (p := p) (l := l) (e := e) (below := below) (Q := lw_Z below #[Value.ref b] s) C0 hK hro had hbA hL hi5 hcs' (zmets_cons (zpM288 zpHyp) zmets_nil) zpLa10 (fun a ha => by cases List.mem_singleton.mp ha; exact sb10)
      have sb11 := zseg (p := p) (l := l) (e := e) (below := below) (Q := lw_Z below #[Value.ref b] s) C0 hK hro had hbA hL hi5 hcs' (zmets_cons (zpM935 zpHyp) zmets_nil) zpLb11 sX
      have sa11 := zseg (p := p) (l := l) (e := e) (below := below) (Q := lw_Z below #[Value.ref b] s) C0 hK hro had hbA hL hi5 hcs' (zmets_cons (zpM289 zpHyp) zmets_nil) zpLa11 (fun a ha => by cases List.mem_singleton.mp ha; exact sb11)
      have sb12 := zseg (p := p) (l := l) (e := e) (below := below) (Q := lw_Z below #[Value.ref b] s) C0 hK hro had hbA hL hi5 hcs' (zmets_cons (zpM937 zpHyp) zmets_nil) zpLb12 sX
      have sa12 := zseg (p := p) (l := l) (e := e) (below := below) (Q := lw_Z below #[Value.ref b] s) C0 hK hro had hbA hL hi5 hcs' (zmets_cons (zpM292 zpHyp) zmets_nil) zpLa12 (fun a ha => by cases List.mem_singleton.mp ha; exact sb12)
      have sb13 := zseg (p := p) (l := l) (e := e) (below := below) (Q := lw_Z below #[Value.ref b] s) C0 hK hro had hbA hL hi5 hcs' (zmets_cons (zpM938 zpHyp) zmets_nil) zpLb13 sX
      have sa13 := zseg (p := p) (l := l) (e := e) (below := below) (Q := lw_Z below #[Value.ref b] s) C0 hK hro had hbA hL hi5 hcs' (zmets_cons (zpM294 zpHyp) zmets_nil) zpLa13 (fun a ha => by cases List.mem_singleton.mp ha; exact sb13)
      have sb14 := zseg (p := p) (l := l) (e := e) (below := below) (Q := lw_Z below #[Value.ref b] s) C0 hK hro had hbA hL hi5 hcs' (zmets_cons (zpM946 zpHyp) zmets_nil) zpLb14 sX
      have sa14 := zseg (p := p) (l := l) (e := e) (below := below) (Q := lw_Z below #[Value.ref b] s) C0 hK hro had hbA hL hi5 hcs' (zmets_cons (zpM302 zpHyp) zmets_nil) zpLa14 (fun a ha => by cases List.mem_singleton.mp ha; exact sb14)
      have sb16 := zseg (p := p) (l := l) (e := e) (below := below) (Q := lw_Z below #[Value.ref b] s) C0 hK hro had hbA hL hi5 hcs' (zmets_cons (zpM1002 zpHyp) zmets_nil) zpLb16 sX
      have sa16 := zseg (p := p) (l := l) (e := e) (below := below) (Q := lw_Z below #[Value.ref b] s) C0 hK hro had hbA hL hi5 hcs' (zmets_cons (zpM360 zpHyp) zmets_nil) zpLa16 (fun a ha => by cases List.mem_singleton.mp ha; exact sb16)
      have sb17 := zseg (p := p) (l := l) (e := e) (below := below) (Q := lw_Z below #[Value.ref b] s) C0 hK hro had hbA hL hi5 hcs' (zmets_cons (zpM1006 zpHyp) zmets_nil) zpLb17 sX
      have sa17 := zseg (p := p) (l := l) (e := e) (below := below) (Q := lw_Z below #[Value.ref b] s) C0 hK hro had hbA hL hi5 hcs' (zmets_cons (zpM367 zpHyp) zmets_nil) zpLa17 (fun a ha => by cases List.mem_singleton.mp ha; exact sb17)
      have sb18 := zseg (p := p) (l := l) (e := e) (below := below) (Q := lw_Z below #[Value.ref b] s) C0 hK hro had hbA hL hi5 hcs' (zmets_cons (zpM1008 zpHyp) zmets_nil) zpLb18 sX
      have sa18 := zseg (p := p) (l := l) (e := e) (below := below) (Q := lw_Z below #[Value.ref b] s) C0 hK hro had hbA hL hi5 hcs' (zmets_cons (zpM371 zpHyp) zmets_nil) zpLa18 (fun a ha => by cases List.mem_singleton.mp ha; exact sb18)
      have sb19 := zseg (p := p) (l := l) (e := e) (below := below) (Q := lw_Z below #[Value.ref b] s) C0 hK hro had hbA hL hi5 hcs' (zmets_cons (zpM1009 zpHyp) zmets_nil) zpLb19 sX
      have sa19 := zseg (p := p) (l := l) (e := e) (below := below) (Q := lw_Z below #[Value.ref b] s) C0 hK hro had hbA hL hi5 hcs' (zmets_cons (zpM373 zpHyp) zmets_nil) zpLa19 (fun a ha => by cases List.mem_singleton.mp ha; exact sb19)
      have sb20 := zseg (p := p) (l := l) (e := e) (below := below) (Q := lw_Z below #[Value.ref b] s) C0 hK hro had hbA hL hi5 hcs' (zmets_cons (zpM1010 zpHyp) zmets_nil) zpLb20 sX
      have sa20 := zseg (p := p) (l := l) (e := e) (below := below) (Q := lw_Z below #[Value.ref b] s) C0 hK hro had hbA hL hi5 hcs' (zmets_cons (zpM375 zpHyp) zmets_nil) zpLa20 (fun a ha => by cases List.mem_singleton.mp ha; exact sb20)
      have sb21 := zseg (p := p) (l := l) (e := e) (below := below) (Q := lw_Z below #[Value.ref b] s) C0 hK hro had hbA hL hi5 hcs' (zmets_cons (zpM1011 zpHyp) zmets_nil) zpLb21 sX
      have sa21 := zseg (p := p) (l := l) (e := e) (below := below) (Q := lw_Z below #[Value.ref b] s) C0 hK hro had hbA hL hi5 hcs' (zmets_cons (zpM377 zpHyp) zmets_nil) zpLa21 (fun a ha => by cases List.mem_singleton.mp ha; exact sb21)
      have sb22 := zseg (p := p) (l := l) (e := e) (below := below) (Q := lw_Z below #[Value.ref b] s) C0 hK hro had hbA hL hi5 hcs' (zmets_cons (zpM1012 zpHyp) zmets_nil) zpLb22 sX
      have sa22 := zseg (p := p) (l := l) (e := e) (below := below) (Q := lw_Z below #[Value.ref b] s) C0 hK hro had hbA hL hi5 hcs' (zmets_cons (zpM381 zpHyp) zmets_nil) zpLa22 (fun a ha => by cases List.mem_singleton.mp ha; exact sb22)
      have sb23 := zseg (p := p) (l := l) (e := e) (below := below) (Q := lw_Z below #[Value.ref b] s) C0 hK hro had hbA hL hi5 hcs' (zmets_cons (zpM1014 zpHyp) zmets_nil) zpLb23 sX
      have sa23 := zseg (p := p) (l := l) (e := e) (below := below) (Q := lw_Z below #[Value.ref b] s) C0 hK hro had hbA hL hi5 hcs' (zmets_cons (zpM386 zpHyp) zmets_nil) zpLa23 (fun a ha => by cases List.mem_singleton.mp ha; exact sb23)
      have sb24 := zseg (p := p) (l := l) (e := e) (below := below) (Q := lw_Z below #[Value.ref b] s) C0 hK hro had hbA hL hi5 hcs' (zmets_cons (zpM1017 zpHyp) zmets_nil) zpLb24 sX
      have sa24 := zseg (p := p) (l := l) (e := e) (below := below) (Q := lw_Z below #[Value.ref b] s) C0 hK hro had hbA hL hi5 hcs' (zmets_cons (zpM391 zpHyp) zmets_nil) zpLa24 (fun a ha => by cases List.mem_singleton.mp ha; exact sb24)
      have sb25 := zseg (p := p) (l := l) (e := e) (below := below) (Q := lw_Z below #[Value.ref b] s) C0 hK hro had hbA hL hi5 hcs' (zmets_cons (zpM1018 zpHyp) zmets_nil) zpLb25 sX
      have sa25 := zseg (p := p) (l := l) (e := e) (below := below) (Q := lw_Z below #[Value.ref b] s) C0 hK hro had hbA hL hi5 hcs' (zmets_cons (zpM394 zpHyp) zmets_nil) zpLa25 (fun a ha => by cases List.mem_singleton.mp ha; exact sb25)
      have sb26 := zseg (p := p) (l := l) (e := e) (below := below) (Q := lw_Z below #[Value.ref b] s) C0 hK hro had hbA hL hi5 hcs' (zmets_cons (zpM1019 zpHyp) zmets_nil) zpLb26 sX
      have sa26 := zseg (p := p) (l := l) (e := e) (below := below) (Q := lw_Z below #[Value.ref b] s) C0 hK hro had hbA hL hi5 hcs' (zmets_cons (zpM396 zpHyp) zmets_nil) zpLa26 (fun a ha => by cases List.mem_singleton.mp ha; exact sb26)
      have sb27 := zseg (p := p) (l := l) (e := e) (below := below) (Q := lw_Z below #[Value.ref b] s) C0 hK hro had hbA hL hi5 hcs' (zmets_cons (zpM1020 zpHyp) zmets_nil) zpLb27 sX
      have sa27 := zseg (p := p) (l := l) (e := e) (below := below) (Q := lw_Z below #[Value.ref b] s) C0 hK hro had hbA hL hi5 hcs' (zmets_cons (zpM398 zpHyp) zmets_nil) zpLa27 (fun a ha => by cases List.mem_singleton.mp ha; exact sb27)
      have sb28 := zseg (p := p) (l := l) (e := e) (below := below) (Q := lw_Z below #[Value.ref b] s) C0 hK hro had hbA hL hi5 hcs' (zmets_cons (zpM1021 zpHyp) zmets_nil) zpLb28 sX
      have sa28 := zseg (p := p) (l := l) (e := e) (below := below) (Q := lw_Z below #[Value.ref b] s) C0 hK hro had hbA hL hi5 hcs' (zmets_cons (zpM400 zpHyp) zmets_nil) zpLa28 (fun a ha => by cases List.mem_singleton.mp ha; exact sb28)
      have sb29 := zseg (p := p) (l := l) (e := e) (below := below) (Q := lw_Z below #[Value.ref b] s) C0 hK hro had hbA hL hi5 hcs' (zmets_cons (zpM1034 zpHyp) zmets_nil) zpLb29 sX
      have sa29 := zseg (p := p) (l := l) (e := e) (below := below) (Q := lw_Z below #[Value.ref b] s) C0 hK hro had hbA hL hi5 hcs' (zmets_cons (zpM590 zpHyp) zmets_nil) zpLa29 (fun a ha => by cases List.mem_singleton.mp ha; exact sb29)
      have sb30 := zseg (p := p) (l := l) (e := e) (below := below) (Q := lw_Z below #[Value.ref b] s) C0 hK hro had hbA hL hi5 hcs' (zmets_cons (zpM1035 zpHyp) zmets_nil) zpLb30 sX
      have sa30 := zseg (p := p) (l := l) (e := e) (below := below) (Q := lw_Z below #[Value.ref b] s) C0 hK hro had hbA hL hi5 hcs' (zmets_cons (zpM592 zpHyp) zmets_nil) zpLa30 (fun a ha => by cases List.mem_singleton.mp ha; exact sb30)
      have sb33 := zseg (p := p) (l := l) (e := e) (below := below) (Q := lw_Z below #[Value.ref b] s) C0 hK hro had hbA hL hi5 hcs' (zmets_cons (zpM1040 zpHyp) zmets_nil) zpLb33 sX
      have sa33 := zseg (p := p) (l := l) (e := e) (below := below) (Q := lw_Z below #[Value.ref b] s) C0 hK hro had hbA hL hi5 hcs' (zmets_cons (zpM601 zpHyp) zmets_nil) zpLa33 (fun a ha => by cases List.mem_singleton.mp ha; exact sb33)
      have sb34 := zseg (p := p) (l := l) (e := e) (below := below) (Q := lw_Z below #[Value.ref b] s) C0 hK hro had hbA hL hi5 hcs' (zmets_cons (zpM1041 zpHyp) zmets_nil) zpLb34 sX
      have sa34 := zseg (p := p) (l := l) (e := e) (below := below) (Q := lw_Z below #[Value.ref b] s) C0 hK hro had hbA hL hi5 hcs' (zmets_cons (zpM602 zpHyp) zmets_nil) zpLa34 (fun a ha => by cases List.mem_singleton.mp ha; exact sb34)
      have sb35 := zseg (p := p) (l := l) (e := e) (below := below) (Q := lw_Z below #[Value.ref b] s) C0 hK hro had hbA hL hi5 hcs' (zmets_cons (zpM1042 zpHyp) zmets_nil) zpLb35 sX
      have sa35 := zseg (p := p) (l := l) (e := e) (below := below) (Q := lw_Z below #[Value.ref b] s) C0 hK hro had hbA hL hi5 hcs' (zmets_cons (zpM665 zpHyp) zmets_nil) zpLa35 (fun a ha => by cases List.mem_singleton.mp ha; exact sb35)
      have sb37 := zseg (p := p) (l := l) (e := e) (below := below) (Q := lw_Z below #[Value.ref b] s) C0 hK hro had hbA hL hi5 hcs' (zmets_cons (zpM1044 zpHyp) zmets_nil) zpLb37 sX
      have sa37 := zseg (p := p) (l := l) (e := e) (below := below) (Q := lw_Z below #[Value.ref b] s) C0 hK hro had hbA hL hi5 hcs' (zmets_cons (zpM668 zpHyp) zmets_nil) zpLa37 (fun a ha => by cases List.mem_singleton.mp ha; exact sb37)
      have zpLj15_0_ := zseg (p := p) (l := l) (e := e) (below := below) (Q := lw_Z below #[Value.ref b] s) C0 hK hro had hbA hL hi5 hcs' (zmets_cons (zpM4 zpHyp) (zmets_cons (zpM672 zpHyp) zmets_nil)) zpLj15_0 (List.forall_mem_cons.mpr ⟨sE zpLS (List.mem_of_getElem? (i := 0) rfl), List.forall_mem_cons.mpr ⟨sE zpTrl0 (List.mem_of_getElem? (i := 1) rfl), fun _ h => absurd h List.not_mem_nil⟩⟩)
      have zpLj15_1_ := zseg (p := p) (l := l) (e := e) (below := below) (Q := lw_Z below #[Value.ref b] s) C0 hK hro had hbA hL hi5 hcs' (zmets_cons (zpM6 zpHyp) (zmets_cons (zpM673 zpHyp) zmets_nil)) zpLj15_1 (List.forall_mem_cons.mpr ⟨sE zpLS (List.mem_of_getElem? (i := 0) rfl), List.forall_mem_cons.mpr ⟨sE zpTrl1 (List.mem_of_getElem? (i := 2) rfl), fun _ h => absurd h List.not_mem_nil⟩⟩)
      have zpLj15_2_ := zseg (p := p) (l := l) (e := e) (below := below) (Q := lw_Z below #[Value.ref b] s) C0 hK hro had hbA hL hi5 hcs' (zmets_cons (zpM8 zpHyp) (zmets_cons (zpM674 zpHyp) zmets_nil)) zpLj15_2 (List.forall_mem_cons.mpr ⟨sE zpLS (List.mem_of_getElem? (i := 0) rfl), List.forall_mem_cons.mpr ⟨sE zpTrl2 (List.mem_of_getElem? (i := 3) rfl), fun _ h => absurd h List.not_mem_nil⟩⟩)
      have zpLj15_3_ := zseg (p := p) (l := l) (e := e) (below := below) (Q := lw_Z below #[Value.ref b] s) C0 hK hro had hbA hL hi5 hcs' (zmets_cons (zpM10 zpHyp) (zmets_cons (zpM675 zpHyp) zmets_nil)) zpLj15_3 (List.forall_mem_cons.mpr ⟨sE zpLS (List.mem_of_getElem? (i := 0) rfl), List.forall_mem_cons.mpr ⟨sE zpTrl3 (List.mem_of_getElem? (i := 4) rfl), fun _ h => absurd h List.not_mem_nil⟩⟩)
      have zpLj15_4_ := zseg (p := p) (l := l) (e := e) (below := below) (Q := lw_Z below #[Value.ref b] s) C0 hK hro had hbA hL hi5 hcs' (zmets_cons (zpM12 zpHyp) (zmets_cons (zpM676 zpHyp) zmets_nil)) zpLj15_4 (List.forall_mem_cons.mpr ⟨sE zpLS (List.mem_of_getElem? (i := 0) rfl), List.forall_mem_cons.mpr ⟨sE zpTrl4 (List.mem_of_getElem? (i := 5) rfl), fun _ h => absurd h List.not_mem_nil⟩⟩)
      have zpLj15_5_ := zseg (p := p) (l := l) (e := e) (below := below) (Q := lw_Z below #[Value.ref b] s) C0 hK hro had hbA hL hi5 hcs' (zmets_cons (zpM14 zpHyp) (zmets_cons (zpM677 zpHyp) zmets_nil)) zpLj15_5 (List.forall_mem_cons.mpr ⟨sE zpLS (List.mem_of_getElem? (i := 0) rfl), List.forall_mem_cons.mpr ⟨sE zpTrl5 (List.mem_of_getElem? (i := 6) rfl), fun _ h => absurd h List.not_mem_nil⟩⟩)
      have zpLj15_6_ := zseg (p := p) (l := l) (e := e) (below := below) (Q := lw_Z below #[Value.ref b] s) C0 hK hro had hbA hL hi5 hcs' (zmets_cons (zpM16 zpHyp) (zmets_cons (zpM678 zpHyp) zmets_nil)) zpLj15_6 (List.forall_mem_cons.mpr ⟨sE zpLS (List.mem_of_getElem? (i := 0) rfl), List.forall_mem_cons.mpr ⟨sE zpTrl6 (List.mem_of_getElem? (i := 7) rfl), fun _ h => absurd h List.not_mem_nil⟩⟩)
      have zpLj15_7_ := zseg (p := p) (l := l) (e := e) (below := below) (Q := lw_Z below #[Value.ref b] s) C0 hK hro had hbA hL hi5 hcs' (zmets_cons (zpM18 zpHyp) (zmets_cons (zpM679 zpHyp) zmets_nil)) zpLj15_7 (List.forall_mem_cons.mpr ⟨sE zpLS (List.mem_of_getElem? (i := 0) rfl), List.forall_mem_cons.mpr ⟨sE zpTrl7 (List.mem_of_getElem? (i := 8) rfl), fun _ h => absurd h List.not_mem_nil⟩⟩)
      have zpLj15_8_ := zseg (p := p) (l := l) (e := e) (below := below) (Q := lw_Z below #[Value.ref b] s) C0 hK hro had hbA hL hi5 hcs' (zmets_cons (zpM20 zpHyp) (zmets_cons (zpM680 zpHyp) zmets_nil)) zpLj15_8 (List.forall_mem_cons.mpr ⟨sE zpLS (List.mem_of_getElem? (i := 0) rfl), List.forall_mem_cons.mpr ⟨sE zpTrl8 (List.mem_of_getElem? (i := 9) rfl), fun _ h => absurd h List.not_mem_nil⟩⟩)
      have zpLj15_9_ := zseg (p := p) (l := l) (e := e) (below := below) (Q := lw_Z below #[Value.ref b] s) C0 hK hro had hbA hL hi5 hcs' (zmets_cons (zpM22 zpHyp) (zmets_cons (zpM681 zpHyp) zmets_nil)) zpLj15_9 (List.forall_mem_cons.mpr ⟨sE zpLS (List.mem_of_getElem? (i := 0) rfl), List.forall_mem_cons.mpr ⟨sE zpTrl9 (List.mem_of_getElem? (i := 10) rfl), fun _ h => absurd h List.not_mem_nil⟩⟩)
      have zpLj15_10_ := zseg (p := p) (l := l) (e := e) (below := below) (Q := lw_Z below #[Value.ref b] s) C0 hK hro had hbA hL hi5 hcs' (zmets_cons (zpM24 zpHyp) (zmets_cons (zpM682 zpHyp) zmets_nil)) zpLj15_10 (List.forall_mem_cons.mpr ⟨sE zpLS (List.mem_of_getElem? (i := 0) rfl), List.forall_mem_cons.mpr ⟨sE zpTrl10 (List.mem_of_getElem? (i := 11) rfl), fun _ h => absurd h List.not_mem_nil⟩⟩)
      have zpLj15_11_ := zseg (p := p) (l := l) (e := e) (below := below) (Q := lw_Z below #[Value.ref b] s) C0 hK hro had hbA hL hi5 hcs' (zmets_cons (zpM26 zpHyp) (zmets_cons (zpM683 zpHyp) zmets_nil)) zpLj15_11 (List.forall_mem_cons.mpr ⟨sE zpLS (List.mem_of_getElem? (i := 0) rfl), List.forall_mem_cons.mpr ⟨sE zpTrl11 (List.mem_of_getElem? (i := 12) rfl), fun _ h => absurd h List.not_mem_nil⟩⟩)
      have zpLj15_12_ := zseg (p := p) (l := l) (e := e) (below := below) (Q := lw_Z below #[Value.ref b] s) C0 hK hro had hbA hL hi5 hcs' (zmets_cons (zpM28 zpHyp) (zmets_cons (zpM684 zpHyp) zmets_nil)) zpLj15_12 (List.forall_mem_cons.mpr ⟨sE zpLS (List.mem_of_getElem? (i := 0) rfl), List.forall_mem_cons.mpr ⟨sE zpTrl12 (List.mem_of_getElem? (i := 13) rfl), fun _ h => absurd h List.not_mem_nil⟩⟩)
      have zpLj15_13_ := zseg (p := p) (l := l) (e := e) (below := below) (Q := lw_Z below #[Value.ref b] s) C0 hK hro had hbA hL hi5 hcs' (zmets_cons (zpM30 zpHyp) (zmets_cons (zpM685 zpHyp) zmets_nil)) zpLj15_13 (List.forall_mem_cons.mpr ⟨sE zpLS (List.mem_of_getElem? (i := 0) rfl), List.forall_mem_cons.mpr ⟨sE zpTrl13 (List.mem_of_getElem? (i := 14) rfl), fun _ h => absurd h List.not_mem_nil⟩⟩)
      have zpLj15_14_ := zseg (p := p) (l := l) (e := e) (below := below) (Q := lw_Z below #[Value.ref b] s) C0 hK hro had hbA hL hi5 hcs' (zmets_cons (zpM32 zpHyp) (zmets_cons (zpM686 zpHyp) zmets_nil)) zpLj15_14 (List.forall_mem_cons.mpr ⟨sE zpLS (List.mem_of_getElem? (i := 0) rfl), List.forall_mem_cons.mpr ⟨sE zpTrl14 (List.mem_of_getElem? (i := 15) rfl), fun _ h => absurd h List.not_mem_nil⟩⟩)
      have zpLj15_15_ := zseg (p := p) (l := l) (e := e) (below := below) (Q := lw_Z below #[Value.ref b] s) C0 hK hro had hbA hL hi5 hcs' (zmets_cons (zpM34 zpHyp) (zmets_cons (zpM687 zpHyp) zmets_nil)) zpLj15_15 (List.forall_mem_cons.mpr ⟨sE zpLS (List.mem_of_getElem? (i := 0) rfl), List.forall_mem_cons.mpr ⟨sE zpTrl15 (List.mem_of_getElem? (i := 16) rfl), fun _ h => absurd h List.not_mem_nil⟩⟩)
      have zpLj15_16_ := zseg (p := p) (l := l) (e := e) (below := below) (Q := lw_Z below #[Value.ref b] s) C0 hK hro had hbA hL hi5 hcs' (zmets_cons (zpM36 zpHyp) (zmets_cons (zpM688 zpHyp) zmets_nil)) zpLj15_16 (List.forall_mem_cons.mpr ⟨sE zpLS (List.mem_of_getElem? (i := 0) rfl), List.forall_mem_cons.mpr ⟨sE zpTrl16 (List.mem_of_getElem? (i := 17) rfl), fun _ h => absurd h List.not_mem_nil⟩⟩)
      have zpLj15_17_ := zseg (p := p) (l := l) (e := e) (below := below) (Q := lw_Z below #[Value.ref b] s) C0 hK hro had hbA hL hi5 hcs' (zmets_cons (zpM38 zpHyp) (zmets_cons (zpM689 zpHyp) zmets_nil)) zpLj15_17 (List.forall_mem_cons.mpr ⟨sE zpLS (List.mem_of_getElem? (i := 0) rfl), List.forall_mem_cons.mpr ⟨sE zpTrl17 (List.mem_of_getElem? (i := 18) rfl), fun _ h => absurd h List.not_mem_nil⟩⟩)
      have zpLj15_18_ := zseg (p := p) (l := l) (e := e) (below := below) (Q := lw_Z below #[Value.ref b] s) C0 hK hro had hbA hL hi5 hcs' (zmets_cons (zpM40 zpHyp) (zmets_cons (zpM690 zpHyp) zmets_nil)) zpLj15_18 (List.forall_mem_cons.mpr ⟨sE zpLS (List.mem_of_getElem? (i := 0) rfl), List.forall_mem_cons.mpr ⟨sE zpTrl18 (List.mem_of_getElem? (i := 19) rfl), fun _ h => absurd h List.not_mem_nil⟩⟩)
      have zpLj15_19_ := zseg (p := p) (l := l) (e := e) (below := below) (Q := lw_Z below #[Value.ref b] s) C0 hK hro had hbA hL hi5 hcs' (zmets_cons (zpM42 zpHyp) (zmets_cons (zpM691 zpHyp) zmets_nil)) zpLj15_19 (List.forall_mem_cons.mpr ⟨sE zpLS (List.mem_of_getElem? (i := 0) rfl), List.forall_mem_cons.mpr ⟨sE zpTrl19 (List.mem_of_getElem? (i := 20) rfl), fun _ h => absurd h List.not_mem_nil⟩⟩)
      have zpLj15_20_ := zseg (p := p) (l := l) (e := e) (below := below) (Q := lw_Z below #[Value.ref b] s) C0 hK hro had hbA hL hi5 hcs' (zmets_cons (zpM43 zpHyp) (zmets_cons (zpM692 zpHyp) zmets_nil)) zpLj15_20 (List.forall_mem_cons.mpr ⟨sE zpLS (List.mem_of_getElem? (i := 0) rfl), fun _ h => absurd h List.not_mem_nil⟩)
      have sa15 : zStop p l e s m below meth c b L xs D tys A ad (lw_Z below #[Value.ref b] s) ce sl i 695 zpLS := by
        intro gh hg w hR ws0 u ls st ws H locs hG
        have hr0 : w 0 = w 1 := hR (1, [0, 1], []) (List.mem_of_getElem? (i := 60) rfl)
        have hb0 := zRi hR (k := 0) (List.mem_of_getElem? (i := 0) rfl)
        have hc : w 0 = 0 ∨ w 0 = 1 ∨ w 0 = 2 ∨ w 0 = 3 ∨ w 0 = 4 ∨ w 0 = 5 ∨ w 0 = 6 ∨ w 0 = 7 ∨ w 0 = 8 ∨ w 0 = 9 ∨ w 0 = 10 ∨ w 0 = 11 ∨ w 0 = 12 ∨ w 0 = 13 ∨ w 0 = 14 ∨ w 0 = 15 ∨ w 0 = 16 ∨ w 0 = 17 ∨ w 0 = 18 ∨ w 0 = 19 ∨ w 0 = 20 := by omega
        rcases hc with h | h | h | h | h | h | h | h | h | h | h | h | h | h | h | h | h | h | h | h | h
        · exact zpLj15_0_ gh hg w hR ws0 u ls st ws H locs (zref hG ⟨⟨_, rfl, zin1 (by omega) (by omega)⟩, ⟨⟨_, rfl, zin1 (by omega) (by omega)⟩, trivial⟩⟩ trivial)
        · exact zpLj15_1_ gh hg w hR ws0 u ls st ws H locs (zref hG ⟨⟨_, rfl, zin1 (by omega) (by omega)⟩, ⟨⟨_, rfl, zin1 (by omega) (by omega)⟩, trivial⟩⟩ trivial)
        · exact zpLj15_2_ gh hg w hR ws0 u ls st ws H locs (zref hG ⟨⟨_, rfl, zin1 (by omega) (by omega)⟩, ⟨⟨_, rfl, zin1 (by omega) (by omega)⟩, trivial⟩⟩ trivial)
        · exact zpLj15_3_ gh hg w hR ws0 u ls st ws H locs (zref hG ⟨⟨_, rfl, zin1 (by omega) (by omega)⟩, ⟨⟨_, rfl, zin1 (by omega) (by omega)⟩, trivial⟩⟩ trivial)
        · exact zpLj15_4_ gh hg w hR ws0 u ls st ws H locs (zref hG ⟨⟨_, rfl, zin1 (by omega) (by omega)⟩, ⟨⟨_, rfl, zin1 (by omega) (by omega)⟩, trivial⟩⟩ trivial)
        · exact zpLj15_5_ gh hg w hR ws0 u ls st ws H locs (zref hG ⟨⟨_, rfl, zin1 (by omega) (by omega)⟩, ⟨⟨_, rfl, zin1 (by omega) (by omega)⟩, trivial⟩⟩ trivial)
        · exact zpLj15_6_ gh hg w hR ws0 u ls st ws H locs (zref hG ⟨⟨_, rfl, zin1 (by omega) (by omega)⟩, ⟨⟨_, rfl, zin1 (by omega) (by omega)⟩, trivial⟩⟩ trivial)
        · exact zpLj15_7_ gh hg w hR ws0 u ls st ws H locs (zref hG ⟨⟨_, rfl, zin1 (by omega) (by omega)⟩, ⟨⟨_, rfl, zin1 (by omega) (by omega)⟩, trivial⟩⟩ trivial)
        · exact zpLj15_8_ gh hg w hR ws0 u ls st ws H locs (zref hG ⟨⟨_, rfl, zin1 (by omega) (by omega)⟩, ⟨⟨_, rfl, zin1 (by omega) (by omega)⟩, trivial⟩⟩ trivial)
        · exact zpLj15_9_ gh hg w hR ws0 u ls st ws H locs (zref hG ⟨⟨_, rfl, zin1 (by omega) (by omega)⟩, ⟨⟨_, rfl, zin1 (by omega) (by omega)⟩, trivial⟩⟩ trivial)
        · exact zpLj15_10_ gh hg w hR ws0 u ls st ws H locs (zref hG ⟨⟨_, rfl, zin1 (by omega) (by omega)⟩, ⟨⟨_, rfl, zin1 (by omega) (by omega)⟩, trivial⟩⟩ trivial)
        · exact zpLj15_11_ gh hg w hR ws0 u ls st ws H locs (zref hG ⟨⟨_, rfl, zin1 (by omega) (by omega)⟩, ⟨⟨_, rfl, zin1 (by omega) (by omega)⟩, trivial⟩⟩ trivial)
        · exact zpLj15_12_ gh hg w hR ws0 u ls st ws H locs (zref hG ⟨⟨_, rfl, zin1 (by omega) (by omega)⟩, ⟨⟨_, rfl, zin1 (by omega) (by omega)⟩, trivial⟩⟩ trivial)
        · exact zpLj15_13_ gh hg w hR ws0 u ls st ws H locs (zref hG ⟨⟨_, rfl, zin1 (by omega) (by omega)⟩, ⟨⟨_, rfl, zin1 (by omega) (by omega)⟩, trivial⟩⟩ trivial)
        · exact zpLj15_14_ gh hg w hR ws0 u ls st ws H locs (zref hG ⟨⟨_, rfl, zin1 (by omega) (by omega)⟩, ⟨⟨_, rfl, zin1 (by omega) (by omega)⟩, trivial⟩⟩ trivial)
        · exact zpLj15_15_ gh hg w hR ws0 u ls st ws H locs (zref hG ⟨⟨_, rfl, zin1 (by omega) (by omega)⟩, ⟨⟨_, rfl, zin1 (by omega) (by omega)⟩, trivial⟩⟩ trivial)
        · exact zpLj15_16_ gh hg w hR ws0 u ls st ws H locs (zref hG ⟨⟨_, rfl, zin1 (by omega) (by omega)⟩, ⟨⟨_, rfl, zin1 (by omega) (by omega)⟩, trivial⟩⟩ trivial)
        · exact zpLj15_17_ gh hg w hR ws0 u ls st ws H locs (zref hG ⟨⟨_, rfl, zin1 (by omega) (by omega)⟩, ⟨⟨_, rfl, zin1 (by omega) (by omega)⟩, trivial⟩⟩ trivial)
        · exact zpLj15_18_ gh hg w hR ws0 u ls st ws H locs (zref hG ⟨⟨_, rfl, zin1 (by omega) (by omega)⟩, ⟨⟨_, rfl, zin1 (by omega) (by omega)⟩, trivial⟩⟩ trivial)
        · exact zpLj15_19_ gh hg w hR ws0 u ls st ws H locs (zref hG ⟨⟨_, rfl, zin1 (by omega) (by omega)⟩, ⟨⟨_, rfl, zin1 (by omega) (by omega)⟩, trivial⟩⟩ trivial)
        · exact zpLj15_20_ gh hg w hR ws0 u ls st ws H locs (zref hG ⟨⟨_, rfl, zin1 (by omega) (by omega)⟩, ⟨⟨_, rfl, zin1 (by omega) (by omega)⟩, trivial⟩⟩ trivial)
      have zpLj310_ := zseg (p := p) (l := l) (e := e) (below := below) (Q := lw_Z below #[Value.ref b] s) C0 hK hro had hbA hL hi5 hcs' (zmets_cons (zpM188 zpHyp) (zmets_cons (zpM851 zpHyp) zmets_nil)) zpLj310 (List.forall_mem_cons.mpr ⟨sE zpLS (List.mem_of_getElem? (i := 0) rfl), List.forall_mem_cons.mpr ⟨sE zpTno0 (List.mem_of_getElem? (i := 21) rfl), List.forall_mem_cons.mpr ⟨sE zpTru0 (List.mem_of_getElem? (i := 22) rfl), fun _ h => absurd h List.not_mem_nil⟩⟩⟩)
      have zpLj311_ := zseg (p := p) (l := l) (e := e) (below := below) (Q := lw_Z below #[Value.ref b] s) C0 hK hro had hbA hL hi5 hcs' (zmets_cons (zpM191 zpHyp) (zmets_cons (zpM852 zpHyp) zmets_nil)) zpLj311 (List.forall_mem_cons.mpr ⟨sE zpLS (List.mem_of_getElem? (i := 0) rfl), List.forall_mem_cons.mpr ⟨sE zpTno1 (List.mem_of_getElem? (i := 24) rfl), List.forall_mem_cons.mpr ⟨sE zpTru1 (List.mem_of_getElem? (i := 25) rfl), fun _ h => absurd h List.not_mem_nil⟩⟩⟩)
      have zpLj312_ := zseg (p := p) (l := l) (e := e) (below := below) (Q := lw_Z below #[Value.ref b] s) C0 hK hro had hbA hL hi5 hcs' (zmets_cons (zpM194 zpHyp) (zmets_cons (zpM853 zpHyp) zmets_nil)) zpLj312 (List.forall_mem_cons.mpr ⟨sE zpLS (List.mem_of_getElem? (i := 0) rfl), List.forall_mem_cons.mpr ⟨sE zpTno2 (List.mem_of_getElem? (i := 27) rfl), List.forall_mem_cons.mpr ⟨sE zpTru2 (List.mem_of_getElem? (i := 28) rfl), fun _ h => absurd h List.not_mem_nil⟩⟩⟩)
      have zpLj313_ := zseg (p := p) (l := l) (e := e) (below := below) (Q := lw_Z below #[Value.ref b] s) C0 hK hro had hbA hL hi5 hcs' (zmets_cons (zpM197 zpHyp) (zmets_cons (zpM854 zpHyp) zmets_nil)) zpLj313 (List.forall_mem_cons.mpr ⟨sE zpLS (List.mem_of_getElem? (i := 0) rfl), List.forall_mem_cons.mpr ⟨sE zpTno3 (List.mem_of_getElem? (i := 30) rfl), List.forall_mem_cons.mpr ⟨sE zpTru3 (List.mem_of_getElem? (i := 31) rfl), fun _ h => absurd h List.not_mem_nil⟩⟩⟩)
      have zpLj314_ := zseg (p := p) (l := l) (e := e) (below := below) (Q := lw_Z below #[Value.ref b] s) C0 hK hro had hbA hL hi5 hcs' (zmets_cons (zpM200 zpHyp) (zmets_cons (zpM855 zpHyp) zmets_nil)) zpLj314 (List.forall_mem_cons.mpr ⟨sE zpLS (List.mem_of_getElem? (i := 0) rfl), List.forall_mem_cons.mpr ⟨sE zpTno4 (List.mem_of_getElem? (i := 33) rfl), List.forall_mem_cons.mpr ⟨sE zpTru4 (List.mem_of_getElem? (i := 34) rfl), fun _ h => absurd h List.not_mem_nil⟩⟩⟩)
      have zpLj315_ := zseg (p := p) (l := l) (e := e) (below := below) (Q := lw_Z below #[Value.ref b] s) C0 hK hro had hbA hL hi5 hcs' (zmets_cons (zpM203 zpHyp) (zmets_cons (zpM856 zpHyp) zmets_nil)) zpLj315 (List.forall_mem_cons.mpr ⟨sE zpLS (List.mem_of_getElem? (i := 0) rfl), List.forall_mem_cons.mpr ⟨sE zpTno5 (List.mem_of_getElem? (i := 36) rfl), List.forall_mem_cons.mpr ⟨sE zpTru5 (List.mem_of_getElem? (i := 37) rfl), fun _ h => absurd h List.not_mem_nil⟩⟩⟩)
      have zpLj31n_ := zseg (p := p) (l := l) (e := e) (below := below) (Q := lw_Z below #[Value.ref b] s) C0 hK hro had hbA hL hi5 hcs' (zmets_cons (zpM204 zpHyp) (zmets_cons (zpM857 zpHyp) zmets_nil)) zpLj31n (List.forall_mem_cons.mpr ⟨sE zpLS (List.mem_of_getElem? (i := 0) rfl), fun _ h => absurd h List.not_mem_nil⟩)
      have zpLj31b_ := zseg (p := p) (l := l) (e := e) (below := below) (Q := lw_Z below #[Value.ref b] s) C0 hK hro had hbA hL hi5 hcs' (zmets_cons (zpM205 zpHyp) (zmets_cons (zpM858 zpHyp) zmets_nil)) zpLj31b (List.forall_mem_cons.mpr ⟨sE zpLS (List.mem_of_getElem? (i := 0) rfl), fun _ h => absurd h List.not_mem_nil⟩)
      have sa31 : zStop p l e s m below meth c b L xs D tys A ad (lw_Z below #[Value.ref b] s) ce sl i 1183 zpLS := by
        intro gh hg w hR ws0 u ls st ws H locs hG
        have hr0 : w 0 = w 1 := hR (1, [0, 1], []) (List.mem_of_getElem? (i := 60) rfl)
        have hf := zin1' (zfullI (xs (i + 1)))
        have hc : (xs (i + 1)).toInt < 0 ∨ 5 < (xs (i + 1)).toInt ∨ (xs (i + 1)).toInt = 0 ∨ (xs (i + 1)).toInt = 1 ∨ (xs (i + 1)).toInt = 2 ∨ (xs (i + 1)).toInt = 3 ∨ (xs (i + 1)).toInt = 4 ∨ (xs (i + 1)).toInt = 5 := by omega
        rcases hc with h | h | h | h | h | h | h | h
        · exact zpLj31n_ gh hg w hR ws0 u ls st ws H locs (zref hG ⟨⟨_, rfl, zin1 (by omega) (by omega)⟩, trivial⟩ ⟨⟨_, _, rfl, rfl, by first | omega | (simp only; omega)⟩, ⟨⟨_, _, rfl, rfl, by first | omega | (simp only; omega)⟩, trivial⟩⟩)
        · exact zpLj31b_ gh hg w hR ws0 u ls st ws H locs (zref hG ⟨⟨_, rfl, zin1 (by omega) (by omega)⟩, trivial⟩ ⟨⟨_, _, rfl, rfl, by first | omega | (simp only; omega)⟩, ⟨⟨_, _, rfl, rfl, by first | omega | (simp only; omega)⟩, trivial⟩⟩)
        · exact zpLj310_ gh hg w hR ws0 u ls st ws H locs (zref hG ⟨⟨_, rfl, zin1 (by omega) (by omega)⟩, trivial⟩ ⟨⟨_, _, rfl, rfl, by first | omega | (simp only; omega)⟩, ⟨⟨_, _, rfl, rfl, by first | omega | (simp only; omega)⟩, trivial⟩⟩)
        · exact zpLj311_ gh hg w hR ws0 u ls st ws H locs (zref hG ⟨⟨_, rfl, zin1 (by omega) (by omega)⟩, trivial⟩ ⟨⟨_, _, rfl, rfl, by first | omega | (simp only; omega)⟩, ⟨⟨_, _, rfl, rfl, by first | omega | (simp only; omega)⟩, trivial⟩⟩)
        · exact zpLj312_ gh hg w hR ws0 u ls st ws H locs (zref hG ⟨⟨_, rfl, zin1 (by omega) (by omega)⟩, trivial⟩ ⟨⟨_, _, rfl, rfl, by first | omega | (simp only; omega)⟩, ⟨⟨_, _, rfl, rfl, by first | omega | (simp only; omega)⟩, trivial⟩⟩)
        · exact zpLj313_ gh hg w hR ws0 u ls st ws H locs (zref hG ⟨⟨_, rfl, zin1 (by omega) (by omega)⟩, trivial⟩ ⟨⟨_, _, rfl, rfl, by first | omega | (simp only; omega)⟩, ⟨⟨_, _, rfl, rfl, by first | omega | (simp only; omega)⟩, trivial⟩⟩)
        · exact zpLj314_ gh hg w hR ws0 u ls st ws H locs (zref hG ⟨⟨_, rfl, zin1 (by omega) (by omega)⟩, trivial⟩ ⟨⟨_, _, rfl, rfl, by first | omega | (simp only; omega)⟩, ⟨⟨_, _, rfl, rfl, by first | omega | (simp only; omega)⟩, trivial⟩⟩)
        · exact zpLj315_ gh hg w hR ws0 u ls st ws H locs (zref hG ⟨⟨_, rfl, zin1 (by omega) (by omega)⟩, trivial⟩ ⟨⟨_, _, rfl, rfl, by first | omega | (simp only; omega)⟩, ⟨⟨_, _, rfl, rfl, by first | omega | (simp only; omega)⟩, trivial⟩⟩)
      have zpLj320_ := zseg (p := p) (l := l) (e := e) (below := below) (Q := lw_Z below #[Value.ref b] s) C0 hK hro had hbA hL hi5 hcs' (zmets_cons (zpM208 zpHyp) (zmets_cons (zpM860 zpHyp) zmets_nil)) zpLj320 (List.forall_mem_cons.mpr ⟨sE zpLS (List.mem_of_getElem? (i := 0) rfl), List.forall_mem_cons.mpr ⟨sE zpTrw0 (List.mem_of_getElem? (i := 23) rfl), fun _ h => absurd h List.not_mem_nil⟩⟩)
      have zpLj321_ := zseg (p := p) (l := l) (e := e) (below := below) (Q := lw_Z below #[Value.ref b] s) C0 hK hro had hbA hL hi5 hcs' (zmets_cons (zpM210 zpHyp) (zmets_cons (zpM861 zpHyp) zmets_nil)) zpLj321 (List.forall_mem_cons.mpr ⟨sE zpLS (List.mem_of_getElem? (i := 0) rfl), List.forall_mem_cons.mpr ⟨sE zpTrw1 (List.mem_of_getElem? (i := 26) rfl), fun _ h => absurd h List.not_mem_nil⟩⟩)
      have zpLj322_ := zseg (p := p) (l := l) (e := e) (below := below) (Q := lw_Z below #[Value.ref b] s) C0 hK hro had hbA hL hi5 hcs' (zmets_cons (zpM212 zpHyp) (zmets_cons (zpM862 zpHyp) zmets_nil)) zpLj322 (List.forall_mem_cons.mpr ⟨sE zpLS (List.mem_of_getElem? (i := 0) rfl), List.forall_mem_cons.mpr ⟨sE zpTrw2 (List.mem_of_getElem? (i := 29) rfl), fun _ h => absurd h List.not_mem_nil⟩⟩)
      have zpLj323_ := zseg (p := p) (l := l) (e := e) (below := below) (Q := lw_Z below #[Value.ref b] s) C0 hK hro had hbA hL hi5 hcs' (zmets_cons (zpM214 zpHyp) (zmets_cons (zpM863 zpHyp) zmets_nil)) zpLj323 (List.forall_mem_cons.mpr ⟨sE zpLS (List.mem_of_getElem? (i := 0) rfl), List.forall_mem_cons.mpr ⟨sE zpTrw3 (List.mem_of_getElem? (i := 32) rfl), fun _ h => absurd h List.not_mem_nil⟩⟩)
      have zpLj324_ := zseg (p := p) (l := l) (e := e) (below := below) (Q := lw_Z below #[Value.ref b] s) C0 hK hro had hbA hL hi5 hcs' (zmets_cons (zpM216 zpHyp) (zmets_cons (zpM864 zpHyp) zmets_nil)) zpLj324 (List.forall_mem_cons.mpr ⟨sE zpLS (List.mem_of_getElem? (i := 0) rfl), List.forall_mem_cons.mpr ⟨sE zpTrw4 (List.mem_of_getElem? (i := 35) rfl), fun _ h => absurd h List.not_mem_nil⟩⟩)
      have zpLj325_ := zseg (p := p) (l := l) (e := e) (below := below) (Q := lw_Z below #[Value.ref b] s) C0 hK hro had hbA hL hi5 hcs' (zmets_cons (zpM218 zpHyp) (zmets_cons (zpM865 zpHyp) zmets_nil)) zpLj325 (List.forall_mem_cons.mpr ⟨sE zpLS (List.mem_of_getElem? (i := 0) rfl), List.forall_mem_cons.mpr ⟨sE zpTrw5 (List.mem_of_getElem? (i := 38) rfl), fun _ h => absurd h List.not_mem_nil⟩⟩)
      have zpLj32n_ := zseg (p := p) (l := l) (e := e) (below := below) (Q := lw_Z below #[Value.ref b] s) C0 hK hro had hbA hL hi5 hcs' (zmets_cons (zpM219 zpHyp) (zmets_cons (zpM866 zpHyp) zmets_nil)) zpLj32n (List.forall_mem_cons.mpr ⟨sE zpLS (List.mem_of_getElem? (i := 0) rfl), fun _ h => absurd h List.not_mem_nil⟩)
      have zpLj32b_ := zseg (p := p) (l := l) (e := e) (below := below) (Q := lw_Z below #[Value.ref b] s) C0 hK hro had hbA hL hi5 hcs' (zmets_cons (zpM220 zpHyp) (zmets_cons (zpM867 zpHyp) zmets_nil)) zpLj32b (List.forall_mem_cons.mpr ⟨sE zpLS (List.mem_of_getElem? (i := 0) rfl), fun _ h => absurd h List.not_mem_nil⟩)
      have sa32 : zStop p l e s m below meth c b L xs D tys A ad (lw_Z below #[Value.ref b] s) ce sl i 1216 zpLS := by
        intro gh hg w hR ws0 u ls st ws H locs hG
        have hr0 : w 0 = w 1 := hR (1, [0, 1], []) (List.mem_of_getElem? (i := 60) rfl)
        have hf := zin1' (zfullI (xs (i + 1)))
        have hc : (xs (i + 1)).toInt < 0 ∨ 5 < (xs (i + 1)).toInt ∨ (xs (i + 1)).toInt = 0 ∨ (xs (i + 1)).toInt = 1 ∨ (xs (i + 1)).toInt = 2 ∨ (xs (i + 1)).toInt = 3 ∨ (xs (i + 1)).toInt = 4 ∨ (xs (i + 1)).toInt = 5 := by omega
        rcases hc with h | h | h | h | h | h | h | h
        · exact zpLj32n_ gh hg w hR ws0 u ls st ws H locs (zref hG ⟨⟨_, rfl, zin1 (by omega) (by omega)⟩, trivial⟩ ⟨⟨_, _, rfl, rfl, by first | omega | (simp only; omega)⟩, ⟨⟨_, _, rfl, rfl, by first | omega | (simp only; omega)⟩, trivial⟩⟩)
        · exact zpLj32b_ gh hg w hR ws0 u ls st ws H locs (zref hG ⟨⟨_, rfl, zin1 (by omega) (by omega)⟩, trivial⟩ ⟨⟨_, _, rfl, rfl, by first | omega | (simp only; omega)⟩, ⟨⟨_, _, rfl, rfl, by first | omega | (simp only; omega)⟩, trivial⟩⟩)
        · exact zpLj320_ gh hg w hR ws0 u ls st ws H locs (zref hG ⟨⟨_, rfl, zin1 (by omega) (by omega)⟩, trivial⟩ ⟨⟨_, _, rfl, rfl, by first | omega | (simp only; omega)⟩, ⟨⟨_, _, rfl, rfl, by first | omega | (simp only; omega)⟩, trivial⟩⟩)
        · exact zpLj321_ gh hg w hR ws0 u ls st ws H locs (zref hG ⟨⟨_, rfl, zin1 (by omega) (by omega)⟩, trivial⟩ ⟨⟨_, _, rfl, rfl, by first | omega | (simp only; omega)⟩, ⟨⟨_, _, rfl, rfl, by first | omega | (simp only; omega)⟩, trivial⟩⟩)
        · exact zpLj322_ gh hg w hR ws0 u ls st ws H locs (zref hG ⟨⟨_, rfl, zin1 (by omega) (by omega)⟩, trivial⟩ ⟨⟨_, _, rfl, rfl, by first | omega | (simp only; omega)⟩, ⟨⟨_, _, rfl, rfl, by first | omega | (simp only; omega)⟩, trivial⟩⟩)
        · exact zpLj323_ gh hg w hR ws0 u ls st ws H locs (zref hG ⟨⟨_, rfl, zin1 (by omega) (by omega)⟩, trivial⟩ ⟨⟨_, _, rfl, rfl, by first | omega | (simp only; omega)⟩, ⟨⟨_, _, rfl, rfl, by first | omega | (simp only; omega)⟩, trivial⟩⟩)
        · exact zpLj324_ gh hg w hR ws0 u ls st ws H locs (zref hG ⟨⟨_, rfl, zin1 (by omega) (by omega)⟩, trivial⟩ ⟨⟨_, _, rfl, rfl, by first | omega | (simp only; omega)⟩, ⟨⟨_, _, rfl, rfl, by first | omega | (simp only; omega)⟩, trivial⟩⟩)
        · exact zpLj325_ gh hg w hR ws0 u ls st ws H locs (zref hG ⟨⟨_, rfl, zin1 (by omega) (by omega)⟩, trivial⟩ ⟨⟨_, _, rfl, rfl, by first | omega | (simp only; omega)⟩, ⟨⟨_, _, rfl, rfl, by first | omega | (simp only; omega)⟩, trivial⟩⟩)
      have zpLcn_ := zseg (p := p) (l := l) (e := e) (below := below) (Q := lw_Z below #[Value.ref b] s) C0 hK hro had hbA hL hi5 hcs' (zmets_cons (zpM221 zpHyp) (zmets_cons (zpM868 zpHyp) zmets_nil)) zpLcn (List.forall_mem_cons.mpr ⟨sE zpLS (List.mem_of_getElem? (i := 0) rfl), fun _ h => absurd h List.not_mem_nil⟩)
      have zpLcb_ := zseg (p := p) (l := l) (e := e) (below := below) (Q := lw_Z below #[Value.ref b] s) C0 hK hro had hbA hL hi5 hcs' (zmets_cons (zpM222 zpHyp) (zmets_cons (zpM869 zpHyp) zmets_nil)) zpLcb (List.forall_mem_cons.mpr ⟨sE zpLS (List.mem_of_getElem? (i := 0) rfl), fun _ h => absurd h List.not_mem_nil⟩)
      have zpLc0no_ := zseg (p := p) (l := l) (e := e) (below := below) (Q := lw_Z below #[Value.ref b] s) C0 hK hro had hbA hL hi5 hcs' (zmets_cons (zpM70 zpHyp) (zmets_cons (zpM743 zpHyp) zmets_nil)) zpLc0no (List.forall_mem_cons.mpr ⟨sE zpLS (List.mem_of_getElem? (i := 0) rfl), fun _ h => absurd h List.not_mem_nil⟩)
      have zpLc0row_ := zseg (p := p) (l := l) (e := e) (below := below) (Q := lw_Z below #[Value.ref b] s) C0 hK hro had hbA hL hi5 hcs' (zmets_cons (zpM70 zpHyp) (zmets_cons (zpM743 zpHyp) zmets_nil)) zpLc0row (List.forall_mem_cons.mpr ⟨sE zpLS (List.mem_of_getElem? (i := 0) rfl), fun _ h => absurd h List.not_mem_nil⟩)
      have zpLc0r0_ := zseg (p := p) (l := l) (e := e) (below := below) (Q := lw_Z below #[Value.ref b] s) C0 hK hro had hbA hL hi5 hcs' (zmets_cons (zpM50 zpHyp) (zmets_cons (zpM703 zpHyp) zmets_nil)) zpLc0r0 (List.forall_mem_cons.mpr ⟨sE zpLS (List.mem_of_getElem? (i := 0) rfl), fun _ h => absurd h List.not_mem_nil⟩)
      have zpLc0r1_ := zseg (p := p) (l := l) (e := e) (below := below) (Q := lw_Z below #[Value.ref b] s) C0 hK hro had hbA hL hi5 hcs' (zmets_cons (zpM51 zpHyp) (zmets_cons (zpM705 zpHyp) zmets_nil)) zpLc0r1 (List.forall_mem_cons.mpr ⟨sE zpLS (List.mem_of_getElem? (i := 0) rfl), fun _ h => absurd h List.not_mem_nil⟩)
      have zpLc0r2_ := zseg (p := p) (l := l) (e := e) (below := below) (Q := lw_Z below #[Value.ref b] s) C0 hK hro had hbA hL hi5 hcs' (zmets_cons (zpM52 zpHyp) (zmets_cons (zpM707 zpHyp) zmets_nil)) zpLc0r2 (List.forall_mem_cons.mpr ⟨sE zpLS (List.mem_of_getElem? (i := 0) rfl), fun _ h => absurd h List.not_mem_nil⟩)
      have zpLc0r3_ := zseg (p := p) (l := l) (e := e) (below := below) (Q := lw_Z below #[Value.ref b] s) C0 hK hro had hbA hL hi5 hcs' (zmets_cons (zpM53 zpHyp) (zmets_cons (zpM709 zpHyp) zmets_nil)) zpLc0r3 (List.forall_mem_cons.mpr ⟨sE zpLS (List.mem_of_getElem? (i := 0) rfl), fun _ h => absurd h List.not_mem_nil⟩)
      have zpLc0r4_ := zseg (p := p) (l := l) (e := e) (below := below) (Q := lw_Z below #[Value.ref b] s) C0 hK hro had hbA hL hi5 hcs' (zmets_cons (zpM54 zpHyp) (zmets_cons (zpM711 zpHyp) zmets_nil)) zpLc0r4 (List.forall_mem_cons.mpr ⟨sE zpLS (List.mem_of_getElem? (i := 0) rfl), fun _ h => absurd h List.not_mem_nil⟩)
      have zpLc0r5_ := zseg (p := p) (l := l) (e := e) (below := below) (Q := lw_Z below #[Value.ref b] s) C0 hK hro had hbA hL hi5 hcs' (zmets_cons (zpM55 zpHyp) (zmets_cons (zpM713 zpHyp) zmets_nil)) zpLc0r5 (List.forall_mem_cons.mpr ⟨sE zpLS (List.mem_of_getElem? (i := 0) rfl), fun _ h => absurd h List.not_mem_nil⟩)
      have zpLc0r6_ := zseg (p := p) (l := l) (e := e) (below := below) (Q := lw_Z below #[Value.ref b] s) C0 hK hro had hbA hL hi5 hcs' (zmets_cons (zpM56 zpHyp) (zmets_cons (zpM715 zpHyp) zmets_nil)) zpLc0r6 (List.forall_mem_cons.mpr ⟨sE zpLS (List.mem_of_getElem? (i := 0) rfl), fun _ h => absurd h List.not_mem_nil⟩)
      have zpLc0r7_ := zseg (p := p) (l := l) (e := e) (below := below) (Q := lw_Z below #[Value.ref b] s) C0 hK hro had hbA hL hi5 hcs' (zmets_cons (zpM57 zpHyp) (zmets_cons (zpM717 zpHyp) zmets_nil)) zpLc0r7 (List.forall_mem_cons.mpr ⟨sE zpLS (List.mem_of_getElem? (i := 0) rfl), fun _ h => absurd h List.not_mem_nil⟩)
      have zpLc0r8_ := zseg (p := p) (l := l) (e := e) (below := below) (Q := lw_Z below #[Value.ref b] s) C0 hK hro had hbA hL hi5 hcs' (zmets_cons (zpM58 zpHyp) (zmets_cons (zpM719 zpHyp) zmets_nil)) zpLc0r8 (List.forall_mem_cons.mpr ⟨sE zpLS (List.mem_of_getElem? (i := 0) rfl), fun _ h => absurd h List.not_mem_nil⟩)
      have zpLc0r9_ := zseg (p := p) (l := l) (e := e) (below := below) (Q := lw_Z below #[Value.ref b] s) C0 hK hro had hbA hL hi5 hcs' (zmets_cons (zpM59 zpHyp) (zmets_cons (zpM721 zpHyp) zmets_nil)) zpLc0r9 (List.forall_mem_cons.mpr ⟨sE zpLS (List.mem_of_getElem? (i := 0) rfl), fun _ h => absurd h List.not_mem_nil⟩)
      have zpLc0r10_ := zseg (p := p) (l := l) (e := e) (below := below) (Q := lw_Z below #[Value.ref b] s) C0 hK hro had hbA hL hi5 hcs' (zmets_cons (zpM60 zpHyp) (zmets_cons (zpM723 zpHyp) zmets_nil)) zpLc0r10 (List.forall_mem_cons.mpr ⟨sE zpLS (List.mem_of_getElem? (i := 0) rfl), fun _ h => absurd h List.not_mem_nil⟩)
      have zpLc0r11_ := zseg (p := p) (l := l) (e := e) (below := below) (Q := lw_Z below #[Value.ref b] s) C0 hK hro had hbA hL hi5 hcs' (zmets_cons (zpM61 zpHyp) (zmets_cons (zpM725 zpHyp) zmets_nil)) zpLc0r11 (List.forall_mem_cons.mpr ⟨sE zpLS (List.mem_of_getElem? (i := 0) rfl), fun _ h => absurd h List.not_mem_nil⟩)
      have zpLc0r12_ := zseg (p := p) (l := l) (e := e) (below := below) (Q := lw_Z below #[Value.ref b] s) C0 hK hro had hbA hL hi5 hcs' (zmets_cons (zpM62 zpHyp) (zmets_cons (zpM727 zpHyp) zmets_nil)) zpLc0r12 (List.forall_mem_cons.mpr ⟨sE zpLS (List.mem_of_getElem? (i := 0) rfl), fun _ h => absurd h List.not_mem_nil⟩)
      have zpLc0r13_ := zseg (p := p) (l := l) (e := e) (below := below) (Q := lw_Z below #[Value.ref b] s) C0 hK hro had hbA hL hi5 hcs' (zmets_cons (zpM63 zpHyp) (zmets_cons (zpM729 zpHyp) zmets_nil)) zpLc0r13 (List.forall_mem_cons.mpr ⟨sE zpLS (List.mem_of_getElem? (i := 0) rfl), fun _ h => absurd h List.not_mem_nil⟩)
      have zpLc0r14_ := zseg (p := p) (l := l) (e := e) (below := below) (Q := lw_Z below #[Value.ref b] s) C0 hK hro had hbA hL hi5 hcs' (zmets_cons (zpM64 zpHyp) (zmets_cons (zpM731 zpHyp) zmets_nil)) zpLc0r14 (List.forall_mem_cons.mpr ⟨sE zpLS (List.mem_of_getElem? (i := 0) rfl), fun _ h => absurd h List.not_mem_nil⟩)
      have zpLc0r15_ := zseg (p := p) (l := l) (e := e) (below := below) (Q := lw_Z below #[Value.ref b] s) C0 hK hro had hbA hL hi5 hcs' (zmets_cons (zpM65 zpHyp) (zmets_cons (zpM733 zpHyp) zmets_nil)) zpLc0r15 (List.forall_mem_cons.mpr ⟨sE zpLS (List.mem_of_getElem? (i := 0) rfl), fun _ h => absurd h List.not_mem_nil⟩)
      have zpLc0r16_ := zseg (p := p) (l := l) (e := e) (below := below) (Q := lw_Z below #[Value.ref b] s) C0 hK hro had hbA hL hi5 hcs' (zmets_cons (zpM66 zpHyp) (zmets_cons (zpM735 zpHyp) zmets_nil)) zpLc0r16 (List.forall_mem_cons.mpr ⟨sE zpLS (List.mem_of_getElem? (i := 0) rfl), fun _ h => absurd h List.not_mem_nil⟩)
      have zpLc0r17_ := zseg (p := p) (l := l) (e := e) (below := below) (Q := lw_Z below #[Value.ref b] s) C0 hK hro had hbA hL hi5 hcs' (zmets_cons (zpM67 zpHyp) (zmets_cons (zpM737 zpHyp) zmets_nil)) zpLc0r17 (List.forall_mem_cons.mpr ⟨sE zpLS (List.mem_of_getElem? (i := 0) rfl), fun _ h => absurd h List.not_mem_nil⟩)
      have zpLc0r18_ := zseg (p := p) (l := l) (e := e) (below := below) (Q := lw_Z below #[Value.ref b] s) C0 hK hro had hbA hL hi5 hcs' (zmets_cons (zpM68 zpHyp) (zmets_cons (zpM739 zpHyp) zmets_nil)) zpLc0r18 (List.forall_mem_cons.mpr ⟨sE zpLS (List.mem_of_getElem? (i := 0) rfl), fun _ h => absurd h List.not_mem_nil⟩)
      have zpLc0r19_ := zseg (p := p) (l := l) (e := e) (below := below) (Q := lw_Z below #[Value.ref b] s) C0 hK hro had hbA hL hi5 hcs' (zmets_cons (zpM69 zpHyp) (zmets_cons (zpM741 zpHyp) zmets_nil)) zpLc0r19 (List.forall_mem_cons.mpr ⟨sE zpLS (List.mem_of_getElem? (i := 0) rfl), fun _ h => absurd h List.not_mem_nil⟩)
      have zpLc1no_ := zseg (p := p) (l := l) (e := e) (below := below) (Q := lw_Z below #[Value.ref b] s) C0 hK hro had hbA hL hi5 hcs' (zmets_cons (zpM93 zpHyp) (zmets_cons (zpM764 zpHyp) zmets_nil)) zpLc1no (List.forall_mem_cons.mpr ⟨sE zpLS (List.mem_of_getElem? (i := 0) rfl), fun _ h => absurd h List.not_mem_nil⟩)
      have zpLc1row_ := zseg (p := p) (l := l) (e := e) (below := below) (Q := lw_Z below #[Value.ref b] s) C0 hK hro had hbA hL hi5 hcs' (zmets_cons (zpM93 zpHyp) (zmets_cons (zpM764 zpHyp) zmets_nil)) zpLc1row (List.forall_mem_cons.mpr ⟨sE zpLS (List.mem_of_getElem? (i := 0) rfl), fun _ h => absurd h List.not_mem_nil⟩)
      have zpLc1r0_ := zseg (p := p) (l := l) (e := e) (below := below) (Q := lw_Z below #[Value.ref b] s) C0 hK hro had hbA hL hi5 hcs' (zmets_cons (zpM73 zpHyp) (zmets_cons (zpM744 zpHyp) zmets_nil)) zpLc1r0 (List.forall_mem_cons.mpr ⟨sE zpLS (List.mem_of_getElem? (i := 0) rfl), fun _ h => absurd h List.not_mem_nil⟩)
      have zpLc1r1_ := zseg (p := p) (l := l) (e := e) (below := below) (Q := lw_Z below #[Value.ref b] s) C0 hK hro had hbA hL hi5 hcs' (zmets_cons (zpM74 zpHyp) (zmets_cons (zpM745 zpHyp) zmets_nil)) zpLc1r1 (List.forall_mem_cons.mpr ⟨sE zpLS (List.mem_of_getElem? (i := 0) rfl), fun _ h => absurd h List.not_mem_nil⟩)
      have zpLc1r2_ := zseg (p := p) (l := l) (e := e) (below := below) (Q := lw_Z below #[Value.ref b] s) C0 hK hro had hbA hL hi5 hcs' (zmets_cons (zpM75 zpHyp) (zmets_cons (zpM746 zpHyp) zmets_nil)) zpLc1r2 (List.forall_mem_cons.mpr ⟨sE zpLS (List.mem_of_getElem? (i := 0) rfl), fun _ h => absurd h List.not_mem_nil⟩)
      have zpLc1r3_ := zseg (p := p) (l := l) (e := e) (below := below) (Q := lw_Z below #[Value.ref b] s) C0 hK hro had hbA hL hi5 hcs' (zmets_cons (zpM76 zpHyp) (zmets_cons (zpM747 zpHyp) zmets_nil)) zpLc1r3 (List.forall_mem_cons.mpr ⟨sE zpLS (List.mem_of_getElem? (i := 0) rfl), fun _ h => absurd h List.not_mem_nil⟩)
      have zpLc1r4_ := zseg (p := p) (l := l) (e := e) (below := below) (Q := lw_Z below #[Value.ref b] s) C0 hK hro had hbA hL hi5 hcs' (zmets_cons (zpM77 zpHyp) (zmets_cons (zpM748 zpHyp) zmets_nil)) zpLc1r4 (List.forall_mem_cons.mpr ⟨sE zpLS (List.mem_of_getElem? (i := 0) rfl), fun _ h => absurd h List.not_mem_nil⟩)
      have zpLc1r5_ := zseg (p := p) (l := l) (e := e) (below := below) (Q := lw_Z below #[Value.ref b] s) C0 hK hro had hbA hL hi5 hcs' (zmets_cons (zpM78 zpHyp) (zmets_cons (zpM749 zpHyp) zmets_nil)) zpLc1r5 (List.forall_mem_cons.mpr ⟨sE zpLS (List.mem_of_getElem? (i := 0) rfl), fun _ h => absurd h List.not_mem_nil⟩)
      have zpLc1r6_ := zseg (p := p) (l := l) (e := e) (below := below) (Q := lw_Z below #[Value.ref b] s) C0 hK hro had hbA hL hi5 hcs' (zmets_cons (zpM79 zpHyp) (zmets_cons (zpM750 zpHyp) zmets_nil)) zpLc1r6 (List.forall_mem_cons.mpr ⟨sE zpLS (List.mem_of_getElem? (i := 0) rfl), fun _ h => absurd h List.not_mem_nil⟩)
      have zpLc1r7_ := zseg (p := p) (l := l) (e := e) (below := below) (Q := lw_Z below #[Value.ref b] s) C0 hK hro had hbA hL hi5 hcs' (zmets_cons (zpM80 zpHyp) (zmets_cons (zpM751 zpHyp) zmets_nil)) zpLc1r7 (List.forall_mem_cons.mpr ⟨sE zpLS (List.mem_of_getElem? (i := 0) rfl), fun _ h => absurd h List.not_mem_nil⟩)
      have zpLc1r8_ := zseg (p := p) (l := l) (e := e) (below := below) (Q := lw_Z below #[Value.ref b] s) C0 hK hro had hbA hL hi5 hcs' (zmets_cons (zpM81 zpHyp) (zmets_cons (zpM752 zpHyp) zmets_nil)) zpLc1r8 (List.forall_mem_cons.mpr ⟨sE zpLS (List.mem_of_getElem? (i := 0) rfl), fun _ h => absurd h List.not_mem_nil⟩)
      have zpLc1r9_ := zseg (p := p) (l := l) (e := e) (below := below) (Q := lw_Z below #[Value.ref b] s) C0 hK hro had hbA hL hi5 hcs' (zmets_cons (zpM82 zpHyp) (zmets_cons (zpM753 zpHyp) zmets_nil)) zpLc1r9 (List.forall_mem_cons.mpr ⟨sE zpLS (List.mem_of_getElem? (i := 0) rfl), fun _ h => absurd h List.not_mem_nil⟩)
      have zpLc1r10_ := zseg (p := p) (l := l) (e := e) (below := below) (Q := lw_Z below #[Value.ref b] s) C0 hK hro had hbA hL hi5 hcs' (zmets_cons (zpM83 zpHyp) (zmets_cons (zpM754 zpHyp) zmets_nil)) zpLc1r10 (List.forall_mem_cons.mpr ⟨sE zpLS (List.mem_of_getElem? (i := 0) rfl), fun _ h => absurd h List.not_mem_nil⟩)
      have zpLc1r11_ := zseg (p := p) (l := l) (e := e) (below := below) (Q := lw_Z below #[Value.ref b] s) C0 hK hro had hbA hL hi5 hcs' (zmets_cons (zpM84 zpHyp) (zmets_cons (zpM755 zpHyp) zmets_nil)) zpLc1r11 (List.forall_mem_cons.mpr ⟨sE zpLS (List.mem_of_getElem? (i := 0) rfl), fun _ h => absurd h List.not_mem_nil⟩)
      have zpLc1r12_ := zseg (p := p) (l := l) (e := e) (below := below) (Q := lw_Z below #[Value.ref b] s) C0 hK hro had hbA hL hi5 hcs' (zmets_cons (zpM85 zpHyp) (zmets_cons (zpM756 zpHyp) zmets_nil)) zpLc1r12 (List.forall_mem_cons.mpr ⟨sE zpLS (List.mem_of_getElem? (i := 0) rfl), fun _ h => absurd h List.not_mem_nil⟩)
      have zpLc1r13_ := zseg (p := p) (l := l) (e := e) (below := below) (Q := lw_Z below #[Value.ref b] s) C0 hK hro had hbA hL hi5 hcs' (zmets_cons (zpM86 zpHyp) (zmets_cons (zpM757 zpHyp) zmets_nil)) zpLc1r13 (List.forall_mem_cons.mpr ⟨sE zpLS (List.mem_of_getElem? (i := 0) rfl), fun _ h => absurd h List.not_mem_nil⟩)
      have zpLc1r14_ := zseg (p := p) (l := l) (e := e) (below := below) (Q := lw_Z below #[Value.ref b] s) C0 hK hro had hbA hL hi5 hcs' (zmets_cons (zpM87 zpHyp) (zmets_cons (zpM758 zpHyp) zmets_nil)) zpLc1r14 (List.forall_mem_cons.mpr ⟨sE zpLS (List.mem_of_getElem? (i := 0) rfl), fun _ h => absurd h List.not_mem_nil⟩)
      have zpLc1r15_ := zseg (p := p) (l := l) (e := e) (below := below) (Q := lw_Z below #[Value.ref b] s) C0 hK hro had hbA hL hi5 hcs' (zmets_cons (zpM88 zpHyp) (zmets_cons (zpM759 zpHyp) zmets_nil)) zpLc1r15 (List.forall_mem_cons.mpr ⟨sE zpLS (List.mem_of_getElem? (i := 0) rfl), fun _ h => absurd h List.not_mem_nil⟩)
      have zpLc1r16_ := zseg (p := p) (l := l) (e := e) (below := below) (Q := lw_Z below #[Value.ref b] s) C0 hK hro had hbA hL hi5 hcs' (zmets_cons (zpM89 zpHyp) (zmets_cons (zpM760 zpHyp) zmets_nil)) zpLc1r16 (List.forall_mem_cons.mpr ⟨sE zpLS (List.mem_of_getElem? (i := 0) rfl), fun _ h => absurd h List.not_mem_nil⟩)
      have zpLc1r17_ := zseg (p := p) (l := l) (e := e) (below := below) (Q := lw_Z below #[Value.ref b] s) C0 hK hro had hbA hL hi5 hcs' (zmets_cons (zpM90 zpHyp) (zmets_cons (zpM761 zpHyp) zmets_nil)) zpLc1r17 (List.forall_mem_cons.mpr ⟨sE zpLS (List.mem_of_getElem? (i := 0) rfl), fun _ h => absurd h List.not_mem_nil⟩)
      have zpLc1r18_ := zseg (p := p) (l := l) (e := e) (below := below) (Q := lw_Z below #[Value.ref b] s) C0 hK hro had hbA hL hi5 hcs' (zmets_cons (zpM91 zpHyp) (zmets_cons (zpM762 zpHyp) zmets_nil)) zpLc1r18 (List.forall_mem_cons.mpr ⟨sE zpLS (List.mem_of_getElem? (i := 0) rfl), fun _ h => absurd h List.not_mem_nil⟩)
      have zpLc1r19_ := zseg (p := p) (l := l) (e := e) (below := below) (Q := lw_Z below #[Value.ref b] s) C0 hK hro had hbA hL hi5 hcs' (zmets_cons (zpM92 zpHyp) (zmets_cons (zpM763 zpHyp) zmets_nil)) zpLc1r19 (List.forall_mem_cons.mpr ⟨sE zpLS (List.mem_of_getElem? (i := 0) rfl), fun _ h => absurd h List.not_mem_nil⟩)
      have zpLc2no_ := zseg (p := p) (l := l) (e := e) (below := below) (Q := lw_Z below #[Value.ref b] s) C0 hK hro had hbA hL hi5 hcs' (zmets_cons (zpM116 zpHyp) (zmets_cons (zpM785 zpHyp) zmets_nil)) zpLc2no (List.forall_mem_cons.mpr ⟨sE zpLS (List.mem_of_getElem? (i := 0) rfl), fun _ h => absurd h List.not_mem_nil⟩)
      have zpLc2row_ := zseg (p := p) (l := l) (e := e) (below := below) (Q := lw_Z below #[Value.ref b] s) C0 hK hro had hbA hL hi5 hcs' (zmets_cons (zpM116 zpHyp) (zmets_cons (zpM785 zpHyp) zmets_nil)) zpLc2row (List.forall_mem_cons.mpr ⟨sE zpLS (List.mem_of_getElem? (i := 0) rfl), fun _ h => absurd h List.not_mem_nil⟩)
      have zpLc2r0_ := zseg (p := p) (l := l) (e := e) (below := below) (Q := lw_Z below #[Value.ref b] s) C0 hK hro had hbA hL hi5 hcs' (zmets_cons (zpM96 zpHyp) (zmets_cons (zpM765 zpHyp) zmets_nil)) zpLc2r0 (List.forall_mem_cons.mpr ⟨sE zpLS (List.mem_of_getElem? (i := 0) rfl), fun _ h => absurd h List.not_mem_nil⟩)
      have zpLc2r1_ := zseg (p := p) (l := l) (e := e) (below := below) (Q := lw_Z below #[Value.ref b] s) C0 hK hro had hbA hL hi5 hcs' (zmets_cons (zpM97 zpHyp) (zmets_cons (zpM766 zpHyp) zmets_nil)) zpLc2r1 (List.forall_mem_cons.mpr ⟨sE zpLS (List.mem_of_getElem? (i := 0) rfl), fun _ h => absurd h List.not_mem_nil⟩)
      have zpLc2r2_ := zseg (p := p) (l := l) (e := e) (below := below) (Q := lw_Z below #[Value.ref b] s) C0 hK hro had hbA hL hi5 hcs' (zmets_cons (zpM98 zpHyp) (zmets_cons (zpM767 zpHyp) zmets_nil)) zpLc2r2 (List.forall_mem_cons.mpr ⟨sE zpLS (List.mem_of_getElem? (i := 0) rfl), fun _ h => absurd h List.not_mem_nil⟩)
      have zpLc2r3_ := zseg (p := p) (l := l) (e := e) (below := below) (Q := lw_Z below #[Value.ref b] s) C0 hK hro had hbA hL hi5 hcs' (zmets_cons (zpM99 zpHyp) (zmets_cons (zpM768 zpHyp) zmets_nil)) zpLc2r3 (List.forall_mem_cons.mpr ⟨sE zpLS (List.mem_of_getElem? (i := 0) rfl), fun _ h => absurd h List.not_mem_nil⟩)
      have zpLc2r4_ := zseg (p := p) (l := l) (e := e) (below := below) (Q := lw_Z below #[Value.ref b] s) C0 hK hro had hbA hL hi5 hcs' (zmets_cons (zpM100 zpHyp) (zmets_cons (zpM769 zpHyp) zmets_nil)) zpLc2r4 (List.forall_mem_cons.mpr ⟨sE zpLS (List.mem_of_getElem? (i := 0) rfl), fun _ h => absurd h List.not_mem_nil⟩)
      have zpLc2r5_ := zseg (p := p) (l := l) (e := e) (below := below) (Q := lw_Z below #[Value.ref b] s) C0 hK hro had hbA hL hi5 hcs' (zmets_cons (zpM101 zpHyp) (zmets_cons (zpM770 zpHyp) zmets_nil)) zpLc2r5 (List.forall_mem_cons.mpr ⟨sE zpLS (List.mem_of_getElem? (i := 0) rfl), fun _ h => absurd h List.not_mem_nil⟩)
      have zpLc2r6_ := zseg (p := p) (l := l) (e := e) (below := below) (Q := lw_Z below #[Value.ref b] s) C0 hK hro had hbA hL hi5 hcs' (zmets_cons (zpM102 zpHyp) (zmets_cons (zpM771 zpHyp) zmets_nil)) zpLc2r6 (List.forall_mem_cons.mpr ⟨sE zpLS (List.mem_of_getElem? (i := 0) rfl), fun _ h => absurd h List.not_mem_nil⟩)
      have zpLc2r7_ := zseg (p := p) (l := l) (e := e) (below := below) (Q := lw_Z below #[Value.ref b] s) C0 hK hro had hbA hL hi5 hcs' (zmets_cons (zpM103 zpHyp) (zmets_cons (zpM772 zpHyp) zmets_nil)) zpLc2r7 (List.forall_mem_cons.mpr ⟨sE zpLS (List.mem_of_getElem? (i := 0) rfl), fun _ h => absurd h List.not_mem_nil⟩)
      have zpLc2r8_ := zseg (p := p) (l := l) (e := e) (below := below) (Q := lw_Z below #[Value.ref b] s) C0 hK hro had hbA hL hi5 hcs' (zmets_cons (zpM104 zpHyp) (zmets_cons (zpM773 zpHyp) zmets_nil)) zpLc2r8 (List.forall_mem_cons.mpr ⟨sE zpLS (List.mem_of_getElem? (i := 0) rfl), fun _ h => absurd h List.not_mem_nil⟩)
      have zpLc2r9_ := zseg (p := p) (l := l) (e := e) (below := below) (Q := lw_Z below #[Value.ref b] s) C0 hK hro had hbA hL hi5 hcs' (zmets_cons (zpM105 zpHyp) (zmets_cons (zpM774 zpHyp) zmets_nil)) zpLc2r9 (List.forall_mem_cons.mpr ⟨sE zpLS (List.mem_of_getElem? (i := 0) rfl), fun _ h => absurd h List.not_mem_nil⟩)
      have zpLc2r10_ := zseg (p := p) (l := l) (e := e) (below := below) (Q := lw_Z below #[Value.ref b] s) C0 hK hro had hbA hL hi5 hcs' (zmets_cons (zpM106 zpHyp) (zmets_cons (zpM775 zpHyp) zmets_nil)) zpLc2r10 (List.forall_mem_cons.mpr ⟨sE zpLS (List.mem_of_getElem? (i := 0) rfl), fun _ h => absurd h List.not_mem_nil⟩)
      have zpLc2r11_ := zseg (p := p) (l := l) (e := e) (below := below) (Q := lw_Z below #[Value.ref b] s) C0 hK hro had hbA hL hi5 hcs' (zmets_cons (zpM107 zpHyp) (zmets_cons (zpM776 zpHyp) zmets_nil)) zpLc2r11 (List.forall_mem_cons.mpr ⟨sE zpLS (List.mem_of_getElem? (i := 0) rfl), fun _ h => absurd h List.not_mem_nil⟩)
      have zpLc2r12_ := zseg (p := p) (l := l) (e := e) (below := below) (Q := lw_Z below #[Value.ref b] s) C0 hK hro had hbA hL hi5 hcs' (zmets_cons (zpM108 zpHyp) (zmets_cons (zpM777 zpHyp) zmets_nil)) zpLc2r12 (List.forall_mem_cons.mpr ⟨sE zpLS (List.mem_of_getElem? (i := 0) rfl), fun _ h => absurd h List.not_mem_nil⟩)
      have zpLc2r13_ := zseg (p := p) (l := l) (e := e) (below := below) (Q := lw_Z below #[Value.ref b] s) C0 hK hro had hbA hL hi5 hcs' (zmets_cons (zpM109 zpHyp) (zmets_cons (zpM778 zpHyp) zmets_nil)) zpLc2r13 (List.forall_mem_cons.mpr ⟨sE zpLS (List.mem_of_getElem? (i := 0) rfl), fun _ h => absurd h List.not_mem_nil⟩)
      have zpLc2r14_ := zseg (p := p) (l := l) (e := e) (below := below) (Q := lw_Z below #[Value.ref b] s) C0 hK hro had hbA hL hi5 hcs' (zmets_cons (zpM110 zpHyp) (zmets_cons (zpM779 zpHyp) zmets_nil)) zpLc2r14 (List.forall_mem_cons.mpr ⟨sE zpLS (List.mem_of_getElem? (i := 0) rfl), fun _ h => absurd h List.not_mem_nil⟩)
      have zpLc2r15_ := zseg (p := p) (l := l) (e := e) (below := below) (Q := lw_Z below #[Value.ref b] s) C0 hK hro had hbA hL hi5 hcs' (zmets_cons (zpM111 zpHyp) (zmets_cons (zpM780 zpHyp) zmets_nil)) zpLc2r15 (List.forall_mem_cons.mpr ⟨sE zpLS (List.mem_of_getElem? (i := 0) rfl), fun _ h => absurd h List.not_mem_nil⟩)
      have zpLc2r16_ := zseg (p := p) (l := l) (e := e) (below := below) (Q := lw_Z below #[Value.ref b] s) C0 hK hro had hbA hL hi5 hcs' (zmets_cons (zpM112 zpHyp) (zmets_cons (zpM781 zpHyp) zmets_nil)) zpLc2r16 (List.forall_mem_cons.mpr ⟨sE zpLS (List.mem_of_getElem? (i := 0) rfl), fun _ h => absurd h List.not_mem_nil⟩)
      have zpLc2r17_ := zseg (p := p) (l := l) (e := e) (below := below) (Q := lw_Z below #[Value.ref b] s) C0 hK hro had hbA hL hi5 hcs' (zmets_cons (zpM113 zpHyp) (zmets_cons (zpM782 zpHyp) zmets_nil)) zpLc2r17 (List.forall_mem_cons.mpr ⟨sE zpLS (List.mem_of_getElem? (i := 0) rfl), fun _ h => absurd h List.not_mem_nil⟩)
      have zpLc2r18_ := zseg (p := p) (l := l) (e := e) (below := below) (Q := lw_Z below #[Value.ref b] s) C0 hK hro had hbA hL hi5 hcs' (zmets_cons (zpM114 zpHyp) (zmets_cons (zpM783 zpHyp) zmets_nil)) zpLc2r18 (List.forall_mem_cons.mpr ⟨sE zpLS (List.mem_of_getElem? (i := 0) rfl), fun _ h => absurd h List.not_mem_nil⟩)
      have zpLc2r19_ := zseg (p := p) (l := l) (e := e) (below := below) (Q := lw_Z below #[Value.ref b] s) C0 hK hro had hbA hL hi5 hcs' (zmets_cons (zpM115 zpHyp) (zmets_cons (zpM784 zpHyp) zmets_nil)) zpLc2r19 (List.forall_mem_cons.mpr ⟨sE zpLS (List.mem_of_getElem? (i := 0) rfl), fun _ h => absurd h List.not_mem_nil⟩)
      have zpLc3no_ := zseg (p := p) (l := l) (e := e) (below := below) (Q := lw_Z below #[Value.ref b] s) C0 hK hro had hbA hL hi5 hcs' (zmets_cons (zpM139 zpHyp) (zmets_cons (zpM806 zpHyp) zmets_nil)) zpLc3no (List.forall_mem_cons.mpr ⟨sE zpLS (List.mem_of_getElem? (i := 0) rfl), fun _ h => absurd h List.not_mem_nil⟩)
      have zpLc3row_ := zseg (p := p) (l := l) (e := e) (below := below) (Q := lw_Z below #[Value.ref b] s) C0 hK hro had hbA hL hi5 hcs' (zmets_cons (zpM139 zpHyp) (zmets_cons (zpM806 zpHyp) zmets_nil)) zpLc3row (List.forall_mem_cons.mpr ⟨sE zpLS (List.mem_of_getElem? (i := 0) rfl), fun _ h => absurd h List.not_mem_nil⟩)
      have zpLc3r0_ := zseg (p := p) (l := l) (e := e) (below := below) (Q := lw_Z below #[Value.ref b] s) C0 hK hro had hbA hL hi5 hcs' (zmets_cons (zpM119 zpHyp) (zmets_cons (zpM786 zpHyp) zmets_nil)) zpLc3r0 (List.forall_mem_cons.mpr ⟨sE zpLS (List.mem_of_getElem? (i := 0) rfl), fun _ h => absurd h List.not_mem_nil⟩)
      have zpLc3r1_ := zseg (p := p) (l := l) (e := e) (below := below) (Q := lw_Z below #[Value.ref b] s) C0 hK hro had hbA hL hi5 hcs' (zmets_cons (zpM120 zpHyp) (zmets_cons (zpM787 zpHyp) zmets_nil)) zpLc3r1 (List.forall_mem_cons.mpr ⟨sE zpLS (List.mem_of_getElem? (i := 0) rfl), fun _ h => absurd h List.not_mem_nil⟩)
      have zpLc3r2_ := zseg (p := p) (l := l) (e := e) (below := below) (Q := lw_Z below #[Value.ref b] s) C0 hK hro had hbA hL hi5 hcs' (zmets_cons (zpM121 zpHyp) (zmets_cons (zpM788 zpHyp) zmets_nil)) zpLc3r2 (List.forall_mem_cons.mpr ⟨sE zpLS (List.mem_of_getElem? (i := 0) rfl), fun _ h => absurd h List.not_mem_nil⟩)
      have zpLc3r3_ := zseg (p := p) (l := l) (e := e) (below := below) (Q := lw_Z below #[Value.ref b] s) C0 hK hro had hbA hL hi5 hcs' (zmets_cons (zpM122 zpHyp) (zmets_cons (zpM789 zpHyp) zmets_nil)) zpLc3r3 (List.forall_mem_cons.mpr ⟨sE zpLS (List.mem_of_getElem? (i := 0) rfl), fun _ h => absurd h List.not_mem_nil⟩)
      have zpLc3r4_ := zseg (p := p) (l := l) (e := e) (below := below) (Q := lw_Z below #[Value.ref b] s) C0 hK hro had hbA hL hi5 hcs' (zmets_cons (zpM123 zpHyp) (zmets_cons (zpM790 zpHyp) zmets_nil)) zpLc3r4 (List.forall_mem_cons.mpr ⟨sE zpLS (List.mem_of_getElem? (i := 0) rfl), fun _ h => absurd h List.not_mem_nil⟩)
      have zpLc3r5_ := zseg (p := p) (l := l) (e := e) (below := below) (Q := lw_Z below #[Value.ref b] s) C0 hK hro had hbA hL hi5 hcs' (zmets_cons (zpM124 zpHyp) (zmets_cons (zpM791 zpHyp) zmets_nil)) zpLc3r5 (List.forall_mem_cons.mpr ⟨sE zpLS (List.mem_of_getElem? (i := 0) rfl), fun _ h => absurd h List.not_mem_nil⟩)
      have zpLc3r6_ := zseg (p := p) (l := l) (e := e) (below := below) (Q := lw_Z below #[Value.ref b] s) C0 hK hro had hbA hL hi5 hcs' (zmets_cons (zpM125 zpHyp) (zmets_cons (zpM792 zpHyp) zmets_nil)) zpLc3r6 (List.forall_mem_cons.mpr ⟨sE zpLS (List.mem_of_getElem? (i := 0) rfl), fun _ h => absurd h List.not_mem_nil⟩)
      have zpLc3r7_ := zseg (p := p) (l := l) (e := e) (below := below) (Q := lw_Z below #[Value.ref b] s) C0 hK hro had hbA hL hi5 hcs' (zmets_cons (zpM126 zpHyp) (zmets_cons (zpM793 zpHyp) zmets_nil)) zpLc3r7 (List.forall_mem_cons.mpr ⟨sE zpLS (List.mem_of_getElem? (i := 0) rfl), fun _ h => absurd h List.not_mem_nil⟩)
      have zpLc3r8_ := zseg (p := p) (l := l) (e := e) (below := below) (Q := lw_Z below #[Value.ref b] s) C0 hK hro had hbA hL hi5 hcs' (zmets_cons (zpM127 zpHyp) (zmets_cons (zpM794 zpHyp) zmets_nil)) zpLc3r8 (List.forall_mem_cons.mpr ⟨sE zpLS (List.mem_of_getElem? (i := 0) rfl), fun _ h => absurd h List.not_mem_nil⟩)
      have zpLc3r9_ := zseg (p := p) (l := l) (e := e) (below := below) (Q := lw_Z below #[Value.ref b] s) C0 hK hro had hbA hL hi5 hcs' (zmets_cons (zpM128 zpHyp) (zmets_cons (zpM795 zpHyp) zmets_nil)) zpLc3r9 (List.forall_mem_cons.mpr ⟨sE zpLS (List.mem_of_getElem? (i := 0) rfl), fun _ h => absurd h List.not_mem_nil⟩)
      have zpLc3r10_ := zseg (p := p) (l := l) (e := e) (below := below) (Q := lw_Z below #[Value.ref b] s) C0 hK hro had hbA hL hi5 hcs' (zmets_cons (zpM129 zpHyp) (zmets_cons (zpM796 zpHyp) zmets_nil)) zpLc3r10 (List.forall_mem_cons.mpr ⟨sE zpLS (List.mem_of_getElem? (i := 0) rfl), fun _ h => absurd h List.not_mem_nil⟩)
      have zpLc3r11_ := zseg (p := p) (l := l) (e := e) (below := below) (Q := lw_Z below #[Value.ref b] s) C0 hK hro had hbA hL hi5 hcs' (zmets_cons (zpM130 zpHyp) (zmets_cons (zpM797 zpHyp) zmets_nil)) zpLc3r11 (List.forall_mem_cons.mpr ⟨sE zpLS (List.mem_of_getElem? (i := 0) rfl), fun _ h => absurd h List.not_mem_nil⟩)
      have zpLc3r12_ := zseg (p := p) (l := l) (e := e) (below := below) (Q := lw_Z below #[Value.ref b] s) C0 hK hro had hbA hL hi5 hcs' (zmets_cons (zpM131 zpHyp) (zmets_cons (zpM798 zpHyp) zmets_nil)) zpLc3r12 (List.forall_mem_cons.mpr ⟨sE zpLS (List.mem_of_getElem? (i := 0) rfl), fun _ h => absurd h List.not_mem_nil⟩)
      have zpLc3r13_ := zseg (p := p) (l := l) (e := e) (below := below) (Q := lw_Z below #[Value.ref b] s) C0 hK hro had hbA hL hi5 hcs' (zmets_cons (zpM132 zpHyp) (zmets_cons (zpM799 zpHyp) zmets_nil)) zpLc3r13 (List.forall_mem_cons.mpr ⟨sE zpLS (List.mem_of_getElem? (i := 0) rfl), fun _ h => absurd h List.not_mem_nil⟩)
      have zpLc3r14_ := zseg (p := p) (l := l) (e := e) (below := below) (Q := lw_Z below #[Value.ref b] s) C0 hK hro had hbA hL hi5 hcs' (zmets_cons (zpM133 zpHyp) (zmets_cons (zpM800 zpHyp) zmets_nil)) zpLc3r14 (List.forall_mem_cons.mpr ⟨sE zpLS (List.mem_of_getElem? (i := 0) rfl), fun _ h => absurd h List.not_mem_nil⟩)
      have zpLc3r15_ := zseg (p := p) (l := l) (e := e) (below := below) (Q := lw_Z below #[Value.ref b] s) C0 hK hro had hbA hL hi5 hcs' (zmets_cons (zpM134 zpHyp) (zmets_cons (zpM801 zpHyp) zmets_nil)) zpLc3r15 (List.forall_mem_cons.mpr ⟨sE zpLS (List.mem_of_getElem? (i := 0) rfl), fun _ h => absurd h List.not_mem_nil⟩)
      have zpLc3r16_ := zseg (p := p) (l := l) (e := e) (below := below) (Q := lw_Z below #[Value.ref b] s) C0 hK hro had hbA hL hi5 hcs' (zmets_cons (zpM135 zpHyp) (zmets_cons (zpM802 zpHyp) zmets_nil)) zpLc3r16 (List.forall_mem_cons.mpr ⟨sE zpLS (List.mem_of_getElem? (i := 0) rfl), fun _ h => absurd h List.not_mem_nil⟩)
      have zpLc3r17_ := zseg (p := p) (l := l) (e := e) (below := below) (Q := lw_Z below #[Value.ref b] s) C0 hK hro had hbA hL hi5 hcs' (zmets_cons (zpM136 zpHyp) (zmets_cons (zpM803 zpHyp) zmets_nil)) zpLc3r17 (List.forall_mem_cons.mpr ⟨sE zpLS (List.mem_of_getElem? (i := 0) rfl), fun _ h => absurd h List.not_mem_nil⟩)
      have zpLc3r18_ := zseg (p := p) (l := l) (e := e) (below := below) (Q := lw_Z below #[Value.ref b] s) C0 hK hro had hbA hL hi5 hcs' (zmets_cons (zpM137 zpHyp) (zmets_cons (zpM804 zpHyp) zmets_nil)) zpLc3r18 (List.forall_mem_cons.mpr ⟨sE zpLS (List.mem_of_getElem? (i := 0) rfl), fun _ h => absurd h List.not_mem_nil⟩)
      have zpLc3r19_ := zseg (p := p) (l := l) (e := e) (below := below) (Q := lw_Z below #[Value.ref b] s) C0 hK hro had hbA hL hi5 hcs' (zmets_cons (zpM138 zpHyp) (zmets_cons (zpM805 zpHyp) zmets_nil)) zpLc3r19 (List.forall_mem_cons.mpr ⟨sE zpLS (List.mem_of_getElem? (i := 0) rfl), fun _ h => absurd h List.not_mem_nil⟩)
      have zpLc4no_ := zseg (p := p) (l := l) (e := e) (below := below) (Q := lw_Z below #[Value.ref b] s) C0 hK hro had hbA hL hi5 hcs' (zmets_cons (zpM162 zpHyp) (zmets_cons (zpM827 zpHyp) zmets_nil)) zpLc4no (List.forall_mem_cons.mpr ⟨sE zpLS (List.mem_of_getElem? (i := 0) rfl), fun _ h => absurd h List.not_mem_nil⟩)
      have zpLc4row_ := zseg (p := p) (l := l) (e := e) (below := below) (Q := lw_Z below #[Value.ref b] s) C0 hK hro had hbA hL hi5 hcs' (zmets_cons (zpM162 zpHyp) (zmets_cons (zpM827 zpHyp) zmets_nil)) zpLc4row (List.forall_mem_cons.mpr ⟨sE zpLS (List.mem_of_getElem? (i := 0) rfl), fun _ h => absurd h List.not_mem_nil⟩)
      have zpLc4r0_ := zseg (p := p) (l := l) (e := e) (below := below) (Q := lw_Z below #[Value.ref b] s) C0 hK hro had hbA hL hi5 hcs' (zmets_cons (zpM142 zpHyp) (zmets_cons (zpM807 zpHyp) zmets_nil)) zpLc4r0 (List.forall_mem_cons.mpr ⟨sE zpLS (List.mem_of_getElem? (i := 0) rfl), fun _ h => absurd h List.not_mem_nil⟩)
      have zpLc4r1_ := zseg (p := p) (l := l) (e := e) (below := below) (Q := lw_Z below #[Value.ref b] s) C0 hK hro had hbA hL hi5 hcs' (zmets_cons (zpM143 zpHyp) (zmets_cons (zpM808 zpHyp) zmets_nil)) zpLc4r1 (List.forall_mem_cons.mpr ⟨sE zpLS (List.mem_of_getElem? (i := 0) rfl), fun _ h => absurd h List.not_mem_nil⟩)
      have zpLc4r2_ := zseg (p := p) (l := l) (e := e) (below := below) (Q := lw_Z below #[Value.ref b] s) C0 hK hro had hbA hL hi5 hcs' (zmets_cons (zpM144 zpHyp) (zmets_cons (zpM809 zpHyp) zmets_nil)) zpLc4r2 (List.forall_mem_cons.mpr ⟨sE zpLS (List.mem_of_getElem? (i := 0) rfl), fun _ h => absurd h List.not_mem_nil⟩)
      have zpLc4r3_ := zseg (p := p) (l := l) (e := e) (below := below) (Q := lw_Z below #[Value.ref b] s) C0 hK hro had hbA hL hi5 hcs' (zmets_cons (zpM145 zpHyp) (zmets_cons (zpM810 zpHyp) zmets_nil)) zpLc4r3 (List.forall_mem_cons.mpr ⟨sE zpLS (List.mem_of_getElem? (i := 0) rfl), fun _ h => absurd h List.not_mem_nil⟩)
      have zpLc4r4_ := zseg (p := p) (l := l) (e := e) (below := below) (Q := lw_Z below #[Value.ref b] s) C0 hK hro had hbA hL hi5 hcs' (zmets_cons (zpM146 zpHyp) (zmets_cons (zpM811 zpHyp) zmets_nil)) zpLc4r4 (List.forall_mem_cons.mpr ⟨sE zpLS (List.mem_of_getElem? (i := 0) rfl), fun _ h => absurd h List.not_mem_nil⟩)
      have zpLc4r5_ := zseg (p := p) (l := l) (e := e) (below := below) (Q := lw_Z below #[Value.ref b] s) C0 hK hro had hbA hL hi5 hcs' (zmets_cons (zpM147 zpHyp) (zmets_cons (zpM812 zpHyp) zmets_nil)) zpLc4r5 (List.forall_mem_cons.mpr ⟨sE zpLS (List.mem_of_getElem? (i := 0) rfl), fun _ h => absurd h List.not_mem_nil⟩)
      have zpLc4r6_ := zseg (p := p) (l := l) (e := e) (below := below) (Q := lw_Z below #[Value.ref b] s) C0 hK hro had hbA hL hi5 hcs' (zmets_cons (zpM148 zpHyp) (zmets_cons (zpM813 zpHyp) zmets_nil)) zpLc4r6 (List.forall_mem_cons.mpr ⟨sE zpLS (List.mem_of_getElem? (i := 0) rfl), fun _ h => absurd h List.not_mem_nil⟩)
      have zpLc4r7_ := zseg (p := p) (l := l) (e := e) (below := below) (Q := lw_Z below #[Value.ref b] s) C0 hK hro had hbA hL hi5 hcs' (zmets_cons (zpM149 zpHyp) (zmets_cons (zpM814 zpHyp) zmets_nil)) zpLc4r7 (List.forall_mem_cons.mpr ⟨sE zpLS (List.mem_of_getElem? (i := 0) rfl), fun _ h => absurd h List.not_mem_nil⟩)
      have zpLc4r8_ := zseg (p := p) (l := l) (e := e) (below := below) (Q := lw_Z below #[Value.ref b] s) C0 hK hro had hbA hL hi5 hcs' (zmets_cons (zpM150 zpHyp) (zmets_cons (zpM815 zpHyp) zmets_nil)) zpLc4r8 (List.forall_mem_cons.mpr ⟨sE zpLS (List.mem_of_getElem? (i := 0) rfl), fun _ h => absurd h List.not_mem_nil⟩)
      have zpLc4r9_ := zseg (p := p) (l := l) (e := e) (below := below) (Q := lw_Z below #[Value.ref b] s) C0 hK hro had hbA hL hi5 hcs' (zmets_cons (zpM151 zpHyp) (zmets_cons (zpM816 zpHyp) zmets_nil)) zpLc4r9 (List.forall_mem_cons.mpr ⟨sE zpLS (List.mem_of_getElem? (i := 0) rfl), fun _ h => absurd h List.not_mem_nil⟩)
      have zpLc4r10_ := zseg (p := p) (l := l) (e := e) (below := below) (Q := lw_Z below #[Value.ref b] s) C0 hK hro had hbA hL hi5 hcs' (zmets_cons (zpM152 zpHyp) (zmets_cons (zpM817 zpHyp) zmets_nil)) zpLc4r10 (List.forall_mem_cons.mpr ⟨sE zpLS (List.mem_of_getElem? (i := 0) rfl), fun _ h => absurd h List.not_mem_nil⟩)
      have zpLc4r11_ := zseg (p := p) (l := l) (e := e) (below := below) (Q := lw_Z below #[Value.ref b] s) C0 hK hro had hbA hL hi5 hcs' (zmets_cons (zpM153 zpHyp) (zmets_cons (zpM818 zpHyp) zmets_nil)) zpLc4r11 (List.forall_mem_cons.mpr ⟨sE zpLS (List.mem_of_getElem? (i := 0) rfl), fun _ h => absurd h List.not_mem_nil⟩)
      have zpLc4r12_ := zseg (p := p) (l := l) (e := e) (below := below) (Q := lw_Z below #[Value.ref b] s) C0 hK hro had hbA hL hi5 hcs' (zmets_cons (zpM154 zpHyp) (zmets_cons (zpM819 zpHyp) zmets_nil)) zpLc4r12 (List.forall_mem_cons.mpr ⟨sE zpLS (List.mem_of_getElem? (i := 0) rfl), fun _ h => absurd h List.not_mem_nil⟩)
      have zpLc4r13_ := zseg (p := p) (l := l) (e := e) (below := below) (Q := lw_Z below #[Value.ref b] s) C0 hK hro had hbA hL hi5 hcs' (zmets_cons (zpM155 zpHyp) (zmets_cons (zpM820 zpHyp) zmets_nil)) zpLc4r13 (List.forall_mem_cons.mpr ⟨sE zpLS (List.mem_of_getElem? (i := 0) rfl), fun _ h => absurd h List.not_mem_nil⟩)
      have zpLc4r14_ := zseg (p := p) (l := l) (e := e) (below := below) (Q := lw_Z below #[Value.ref b] s) C0 hK hro had hbA hL hi5 hcs' (zmets_cons (zpM156 zpHyp) (zmets_cons (zpM821 zpHyp) zmets_nil)) zpLc4r14 (List.forall_mem_cons.mpr ⟨sE zpLS (List.mem_of_getElem? (i := 0) rfl), fun _ h => absurd h List.not_mem_nil⟩)
      have zpLc4r15_ := zseg (p := p) (l := l) (e := e) (below := below) (Q := lw_Z below #[Value.ref b] s) C0 hK hro had hbA hL hi5 hcs' (zmets_cons (zpM157 zpHyp) (zmets_cons (zpM822 zpHyp) zmets_nil)) zpLc4r15 (List.forall_mem_cons.mpr ⟨sE zpLS (List.mem_of_getElem? (i := 0) rfl), fun _ h => absurd h List.not_mem_nil⟩)
      have zpLc4r16_ := zseg (p := p) (l := l) (e := e) (below := below) (Q := lw_Z below #[Value.ref b] s) C0 hK hro had hbA hL hi5 hcs' (zmets_cons (zpM158 zpHyp) (zmets_cons (zpM823 zpHyp) zmets_nil)) zpLc4r16 (List.forall_mem_cons.mpr ⟨sE zpLS (List.mem_of_getElem? (i := 0) rfl), fun _ h => absurd h List.not_mem_nil⟩)
      have zpLc4r17_ := zseg (p := p) (l := l) (e := e) (below := below) (Q := lw_Z below #[Value.ref b] s) C0 hK hro had hbA hL hi5 hcs' (zmets_cons (zpM159 zpHyp) (zmets_cons (zpM824 zpHyp) zmets_nil)) zpLc4r17 (List.forall_mem_cons.mpr ⟨sE zpLS (List.mem_of_getElem? (i := 0) rfl), fun _ h => absurd h List.not_mem_nil⟩)
      have zpLc4r18_ := zseg (p := p) (l := l) (e := e) (below := below) (Q := lw_Z below #[Value.ref b] s) C0 hK hro had hbA hL hi5 hcs' (zmets_cons (zpM160 zpHyp) (zmets_cons (zpM825 zpHyp) zmets_nil)) zpLc4r18 (List.forall_mem_cons.mpr ⟨sE zpLS (List.mem_of_getElem? (i := 0) rfl), fun _ h => absurd h List.not_mem_nil⟩)
      have zpLc4r19_ := zseg (p := p) (l := l) (e := e) (below := below) (Q := lw_Z below #[Value.ref b] s) C0 hK hro had hbA hL hi5 hcs' (zmets_cons (zpM161 zpHyp) (zmets_cons (zpM826 zpHyp) zmets_nil)) zpLc4r19 (List.forall_mem_cons.mpr ⟨sE zpLS (List.mem_of_getElem? (i := 0) rfl), fun _ h => absurd h List.not_mem_nil⟩)
      have zpLc5no_ := zseg (p := p) (l := l) (e := e) (below := below) (Q := lw_Z below #[Value.ref b] s) C0 hK hro had hbA hL hi5 hcs' (zmets_cons (zpM185 zpHyp) (zmets_cons (zpM848 zpHyp) zmets_nil)) zpLc5no (List.forall_mem_cons.mpr ⟨sE zpLS (List.mem_of_getElem? (i := 0) rfl), fun _ h => absurd h List.not_mem_nil⟩)
      have zpLc5row_ := zseg (p := p) (l := l) (e := e) (below := below) (Q := lw_Z below #[Value.ref b] s) C0 hK hro had hbA hL hi5 hcs' (zmets_cons (zpM185 zpHyp) (zmets_cons (zpM848 zpHyp) zmets_nil)) zpLc5row (List.forall_mem_cons.mpr ⟨sE zpLS (List.mem_of_getElem? (i := 0) rfl), fun _ h => absurd h List.not_mem_nil⟩)
      have zpLc5r0_ := zseg (p := p) (l := l) (e := e) (below := below) (Q := lw_Z below #[Value.ref b] s) C0 hK hro had hbA hL hi5 hcs' (zmets_cons (zpM165 zpHyp) (zmets_cons (zpM828 zpHyp) zmets_nil)) zpLc5r0 (List.forall_mem_cons.mpr ⟨sE zpLS (List.mem_of_getElem? (i := 0) rfl), fun _ h => absurd h List.not_mem_nil⟩)
      have zpLc5r1_ := zseg (p := p) (l := l) (e := e) (below := below) (Q := lw_Z below #[Value.ref b] s) C0 hK hro had hbA hL hi5 hcs' (zmets_cons (zpM166 zpHyp) (zmets_cons (zpM829 zpHyp) zmets_nil)) zpLc5r1 (List.forall_mem_cons.mpr ⟨sE zpLS (List.mem_of_getElem? (i := 0) rfl), fun _ h => absurd h List.not_mem_nil⟩)
      have zpLc5r2_ := zseg (p := p) (l := l) (e := e) (below := below) (Q := lw_Z below #[Value.ref b] s) C0 hK hro had hbA hL hi5 hcs' (zmets_cons (zpM167 zpHyp) (zmets_cons (zpM830 zpHyp) zmets_nil)) zpLc5r2 (List.forall_mem_cons.mpr ⟨sE zpLS (List.mem_of_getElem? (i := 0) rfl), fun _ h => absurd h List.not_mem_nil⟩)
      have zpLc5r3_ := zseg (p := p) (l := l) (e := e) (below := below) (Q := lw_Z below #[Value.ref b] s) C0 hK hro had hbA hL hi5 hcs' (zmets_cons (zpM168 zpHyp) (zmets_cons (zpM831 zpHyp) zmets_nil)) zpLc5r3 (List.forall_mem_cons.mpr ⟨sE zpLS (List.mem_of_getElem? (i := 0) rfl), fun _ h => absurd h List.not_mem_nil⟩)
      have zpLc5r4_ := zseg (p := p) (l := l) (e := e) (below := below) (Q := lw_Z below #[Value.ref b] s) C0 hK hro had hbA hL hi5 hcs' (zmets_cons (zpM169 zpHyp) (zmets_cons (zpM832 zpHyp) zmets_nil)) zpLc5r4 (List.forall_mem_cons.mpr ⟨sE zpLS (List.mem_of_getElem? (i := 0) rfl), fun _ h => absurd h List.not_mem_nil⟩)
      have zpLc5r5_ := zseg (p := p) (l := l) (e := e) (below := below) (Q := lw_Z below #[Value.ref b] s) C0 hK hro had hbA hL hi5 hcs' (zmets_cons (zpM170 zpHyp) (zmets_cons (zpM833 zpHyp) zmets_nil)) zpLc5r5 (List.forall_mem_cons.mpr ⟨sE zpLS (List.mem_of_getElem? (i := 0) rfl), fun _ h => absurd h List.not_mem_nil⟩)
      have zpLc5r6_ := zseg (p := p) (l := l) (e := e) (below := below) (Q := lw_Z below #[Value.ref b] s) C0 hK hro had hbA hL hi5 hcs' (zmets_cons (zpM171 zpHyp) (zmets_cons (zpM834 zpHyp) zmets_nil)) zpLc5r6 (List.forall_mem_cons.mpr ⟨sE zpLS (List.mem_of_getElem? (i := 0) rfl), fun _ h => absurd h List.not_mem_nil⟩)
      have zpLc5r7_ := zseg (p := p) (l := l) (e := e) (below := below) (Q := lw_Z below #[Value.ref b] s) C0 hK hro had hbA hL hi5 hcs' (zmets_cons (zpM172 zpHyp) (zmets_cons (zpM835 zpHyp) zmets_nil)) zpLc5r7 (List.forall_mem_cons.mpr ⟨sE zpLS (List.mem_of_getElem? (i := 0) rfl), fun _ h => absurd h List.not_mem_nil⟩)
      have zpLc5r8_ := zseg (p := p) (l := l) (e := e) (below := below) (Q := lw_Z below #[Value.ref b] s) C0 hK hro had hbA hL hi5 hcs' (zmets_cons (zpM173 zpHyp) (zmets_cons (zpM836 zpHyp) zmets_nil)) zpLc5r8 (List.forall_mem_cons.mpr ⟨sE zpLS (List.mem_of_getElem? (i := 0) rfl), fun _ h => absurd h List.not_mem_nil⟩)
      have zpLc5r9_ := zseg (p := p) (l := l) (e := e) (below := below) (Q := lw_Z below #[Value.ref b] s) C0 hK hro had hbA hL hi5 hcs' (zmets_cons (zpM174 zpHyp) (zmets_cons (zpM837 zpHyp) zmets_nil)) zpLc5r9 (List.forall_mem_cons.mpr ⟨sE zpLS (List.mem_of_getElem? (i := 0) rfl), fun _ h => absurd h List.not_mem_nil⟩)
      have zpLc5r10_ := zseg (p := p) (l := l) (e := e) (below := below) (Q := lw_Z below #[Value.ref b] s) C0 hK hro had hbA hL hi5 hcs' (zmets_cons (zpM175 zpHyp) (zmets_cons (zpM838 zpHyp) zmets_nil)) zpLc5r10 (List.forall_mem_cons.mpr ⟨sE zpLS (List.mem_of_getElem? (i := 0) rfl), fun _ h => absurd h List.not_mem_nil⟩)
      have zpLc5r11_ := zseg (p := p) (l := l) (e := e) (below := below) (Q := lw_Z below #[Value.ref b] s) C0 hK hro had hbA hL hi5 hcs' (zmets_cons (zpM176 zpHyp) (zmets_cons (zpM839 zpHyp) zmets_nil)) zpLc5r11 (List.forall_mem_cons.mpr ⟨sE zpLS (List.mem_of_getElem? (i := 0) rfl), fun _ h => absurd h List.not_mem_nil⟩)
      have zpLc5r12_ := zseg (p := p) (l := l) (e := e) (below := below) (Q := lw_Z below #[Value.ref b] s) C0 hK hro had hbA hL hi5 hcs' (zmets_cons (zpM177 zpHyp) (zmets_cons (zpM840 zpHyp) zmets_nil)) zpLc5r12 (List.forall_mem_cons.mpr ⟨sE zpLS (List.mem_of_getElem? (i := 0) rfl), fun _ h => absurd h List.not_mem_nil⟩)
      have zpLc5r13_ := zseg (p := p) (l := l) (e := e) (below := below) (Q := lw_Z below #[Value.ref b] s) C0 hK hro had hbA hL hi5 hcs' (zmets_cons (zpM178 zpHyp) (zmets_cons (zpM841 zpHyp) zmets_nil)) zpLc5r13 (List.forall_mem_cons.mpr ⟨sE zpLS (List.mem_of_getElem? (i := 0) rfl), fun _ h => absurd h List.not_mem_nil⟩)
      have zpLc5r14_ := zseg (p := p) (l := l) (e := e) (below := below) (Q := lw_Z below #[Value.ref b] s) C0 hK hro had hbA hL hi5 hcs' (zmets_cons (zpM179 zpHyp) (zmets_cons (zpM842 zpHyp) zmets_nil)) zpLc5r14 (List.forall_mem_cons.mpr ⟨sE zpLS (List.mem_of_getElem? (i := 0) rfl), fun _ h => absurd h List.not_mem_nil⟩)
      have zpLc5r15_ := zseg (p := p) (l := l) (e := e) (below := below) (Q := lw_Z below #[Value.ref b] s) C0 hK hro had hbA hL hi5 hcs' (zmets_cons (zpM180 zpHyp) (zmets_cons (zpM843 zpHyp) zmets_nil)) zpLc5r15 (List.forall_mem_cons.mpr ⟨sE zpLS (List.mem_of_getElem? (i := 0) rfl), fun _ h => absurd h List.not_mem_nil⟩)
      have zpLc5r16_ := zseg (p := p) (l := l) (e := e) (below := below) (Q := lw_Z below #[Value.ref b] s) C0 hK hro had hbA hL hi5 hcs' (zmets_cons (zpM181 zpHyp) (zmets_cons (zpM844 zpHyp) zmets_nil)) zpLc5r16 (List.forall_mem_cons.mpr ⟨sE zpLS (List.mem_of_getElem? (i := 0) rfl), fun _ h => absurd h List.not_mem_nil⟩)
      have zpLc5r17_ := zseg (p := p) (l := l) (e := e) (below := below) (Q := lw_Z below #[Value.ref b] s) C0 hK hro had hbA hL hi5 hcs' (zmets_cons (zpM182 zpHyp) (zmets_cons (zpM845 zpHyp) zmets_nil)) zpLc5r17 (List.forall_mem_cons.mpr ⟨sE zpLS (List.mem_of_getElem? (i := 0) rfl), fun _ h => absurd h List.not_mem_nil⟩)
      have zpLc5r18_ := zseg (p := p) (l := l) (e := e) (below := below) (Q := lw_Z below #[Value.ref b] s) C0 hK hro had hbA hL hi5 hcs' (zmets_cons (zpM183 zpHyp) (zmets_cons (zpM846 zpHyp) zmets_nil)) zpLc5r18 (List.forall_mem_cons.mpr ⟨sE zpLS (List.mem_of_getElem? (i := 0) rfl), fun _ h => absurd h List.not_mem_nil⟩)
      have zpLc5r19_ := zseg (p := p) (l := l) (e := e) (below := below) (Q := lw_Z below #[Value.ref b] s) C0 hK hro had hbA hL hi5 hcs' (zmets_cons (zpM184 zpHyp) (zmets_cons (zpM847 zpHyp) zmets_nil)) zpLc5r19 (List.forall_mem_cons.mpr ⟨sE zpLS (List.mem_of_getElem? (i := 0) rfl), fun _ h => absurd h List.not_mem_nil⟩)
      have sa36 : zStop p l e s m below meth c b L xs D tys A ad (lw_Z below #[Value.ref b] s) ce sl i 1428 zpLS := by
        intro gh hg w hR ws0 u ls st ws H locs hG
        have hr0 : w 0 = w 1 := hR (1, [0, 1], []) (List.mem_of_getElem? (i := 60) rfl)
        have hf := zin1' (zfullI (xs (i + 1)))
        have hc : (xs (i + 1)).toInt < 0 ∨ 5 < (xs (i + 1)).toInt ∨ (xs (i + 1)).toInt = 0 ∨ (xs (i + 1)).toInt = 1 ∨ (xs (i + 1)).toInt = 2 ∨ (xs (i + 1)).toInt = 3 ∨ (xs (i + 1)).toInt = 4 ∨ (xs (i + 1)).toInt = 5 := by omega
        rcases hc with h | h | h | h | h | h | h | h
        · exact zpLcn_ gh hg w hR ws0 u ls st ws H locs (zref hG ⟨⟨_, rfl, zin1 (by omega) (by omega)⟩, trivial⟩ trivial)
        · exact zpLcb_ gh hg w hR ws0 u ls st ws H locs (zref hG ⟨⟨_, rfl, zin1 (by omega) (by omega)⟩, trivial⟩ trivial)
        · have h9 : zR3 (w 0) (w 2) (w 3) (w 4) := hR (3, [0, 2, 3, 4], []) (List.mem_of_getElem? (i := 61) rfl)
          rcases h9 with h9 | h9 | h9
          · exact zpLc0no_ gh hg w hR ws0 u ls st ws H locs (zref hG ⟨⟨_, rfl, zin1 (by omega) (by omega)⟩, ⟨⟨_, rfl, zin1 (by omega) (by omega)⟩, ⟨⟨_, rfl, zin1 (by omega) (by omega)⟩, trivial⟩⟩⟩ trivial)
          · have hb0 := zRi hR (k := 0) (List.mem_of_getElem? (i := 0) rfl)
            have hc : w 4 = 0 ∨ w 4 = 1 ∨ w 4 = 2 ∨ w 4 = 3 ∨ w 4 = 4 ∨ w 4 = 5 ∨ w 4 = 6 ∨ w 4 = 7 ∨ w 4 = 8 ∨ w 4 = 9 ∨ w 4 = 10 ∨ w 4 = 11 ∨ w 4 = 12 ∨ w 4 = 13 ∨ w 4 = 14 ∨ w 4 = 15 ∨ w 4 = 16 ∨ w 4 = 17 ∨ w 4 = 18 ∨ w 4 = 19 := by omega
            rcases hc with h8 | h8 | h8 | h8 | h8 | h8 | h8 | h8 | h8 | h8 | h8 | h8 | h8 | h8 | h8 | h8 | h8 | h8 | h8 | h8
            · have hk : w 20 = w 21 := hR (1, [20, 21], []) (List.mem_of_getElem? (i := 67) rfl)
              exact zpLc0r0_ gh hg w hR ws0 u ls st ws H locs (zref hG ⟨⟨_, rfl, zin1 (by omega) (by omega)⟩, ⟨⟨_, rfl, zin1 (by omega) (by omega)⟩, ⟨⟨_, rfl, zin1 (by omega) (by omega)⟩, ⟨⟨_, rfl, zin1 (by omega) (by omega)⟩, trivial⟩⟩⟩⟩ ⟨⟨_, _, rfl, rfl, by first | omega | (simp only; omega)⟩, ⟨⟨_, _, rfl, rfl, by first | omega | (simp only; omega)⟩, ⟨⟨_, _, rfl, rfl, by first | omega | (simp only; omega)⟩, ⟨⟨_, _, rfl, rfl, by first | omega | (simp only; omega)⟩, trivial⟩⟩⟩⟩)
            · have hk : w 22 = w 23 := hR (1, [22, 23], []) (List.mem_of_getElem? (i := 68) rfl)
              exact zpLc0r1_ gh hg w hR ws0 u ls st ws H locs (zref hG ⟨⟨_, rfl, zin1 (by omega) (by omega)⟩, ⟨⟨_, rfl, zin1 (by omega) (by omega)⟩, ⟨⟨_, rfl, zin1 (by omega) (by omega)⟩, ⟨⟨_, rfl, zin1 (by omega) (by omega)⟩, trivial⟩⟩⟩⟩ ⟨⟨_, _, rfl, rfl, by first | omega | (simp only; omega)⟩, ⟨⟨_, _, rfl, rfl, by first | omega | (simp only; omega)⟩, ⟨⟨_, _, rfl, rfl, by first | omega | (simp only; omega)⟩, ⟨⟨_, _, rfl, rfl, by first | omega | (simp only; omega)⟩, trivial⟩⟩⟩⟩)
            · have hk : w 24 = w 25 := hR (1, [24, 25], []) (List.mem_of_getElem? (i := 69) rfl)
              exact zpLc0r2_ gh hg w hR ws0 u ls st ws H locs (zref hG ⟨⟨_, rfl, zin1 (by omega) (by omega)⟩, ⟨⟨_, rfl, zin1 (by omega) (by omega)⟩, ⟨⟨_, rfl, zin1 (by omega) (by omega)⟩, ⟨⟨_, rfl, zin1 (by omega) (by omega)⟩, trivial⟩⟩⟩⟩ ⟨⟨_, _, rfl, rfl, by first | omega | (simp only; omega)⟩, ⟨⟨_, _, rfl, rfl, by first | omega | (simp only; omega)⟩, ⟨⟨_, _, rfl, rfl, by first | omega | (simp only; omega)⟩, ⟨⟨_, _, rfl, rfl, by first | omega | (simp only; omega)⟩, trivial⟩⟩⟩⟩)
            · have hk : w 26 = w 27 := hR (1, [26, 27], []) (List.mem_of_getElem? (i := 70) rfl)
              exact zpLc0r3_ gh hg w hR ws0 u ls st ws H locs (zref hG ⟨⟨_, rfl, zin1 (by omega) (by omega)⟩, ⟨⟨_, rfl, zin1 (by omega) (by omega)⟩, ⟨⟨_, rfl, zin1 (by omega) (by omega)⟩, ⟨⟨_, rfl, zin1 (by omega) (by omega)⟩, trivial⟩⟩⟩⟩ ⟨⟨_, _, rfl, rfl, by first | omega | (simp only; omega)⟩, ⟨⟨_, _, rfl, rfl, by first | omega | (simp only; omega)⟩, ⟨⟨_, _, rfl, rfl, by first | omega | (simp only; omega)⟩, ⟨⟨_, _, rfl, rfl, by first | omega | (simp only; omega)⟩, trivial⟩⟩⟩⟩)
            · have hk : w 28 = w 29 := hR (1, [28, 29], []) (List.mem_of_getElem? (i := 71) rfl)
              exact zpLc0r4_ gh hg w hR ws0 u ls st ws H locs (zref hG ⟨⟨_, rfl, zin1 (by omega) (by omega)⟩, ⟨⟨_, rfl, zin1 (by omega) (by omega)⟩, ⟨⟨_, rfl, zin1 (by omega) (by omega)⟩, ⟨⟨_, rfl, zin1 (by omega) (by omega)⟩, trivial⟩⟩⟩⟩ ⟨⟨_, _, rfl, rfl, by first | omega | (simp only; omega)⟩, ⟨⟨_, _, rfl, rfl, by first | omega | (simp only; omega)⟩, ⟨⟨_, _, rfl, rfl, by first | omega | (simp only; omega)⟩, ⟨⟨_, _, rfl, rfl, by first | omega | (simp only; omega)⟩, trivial⟩⟩⟩⟩)
            · have hk : w 30 = w 31 := hR (1, [30, 31], []) (List.mem_of_getElem? (i := 72) rfl)
              exact zpLc0r5_ gh hg w hR ws0 u ls st ws H locs (zref hG ⟨⟨_, rfl, zin1 (by omega) (by omega)⟩, ⟨⟨_, rfl, zin1 (by omega) (by omega)⟩, ⟨⟨_, rfl, zin1 (by omega) (by omega)⟩, ⟨⟨_, rfl, zin1 (by omega) (by omega)⟩, trivial⟩⟩⟩⟩ ⟨⟨_, _, rfl, rfl, by first | omega | (simp only; omega)⟩, ⟨⟨_, _, rfl, rfl, by first | omega | (simp only; omega)⟩, ⟨⟨_, _, rfl, rfl, by first | omega | (simp only; omega)⟩, ⟨⟨_, _, rfl, rfl, by first | omega | (simp only; omega)⟩, trivial⟩⟩⟩⟩)
            · have hk : w 32 = w 33 := hR (1, [32, 33], []) (List.mem_of_getElem? (i := 73) rfl)
              exact zpLc0r6_ gh hg w hR ws0 u ls st ws H locs (zref hG ⟨⟨_, rfl, zin1 (by omega) (by omega)⟩, ⟨⟨_, rfl, zin1 (by omega) (by omega)⟩, ⟨⟨_, rfl, zin1 (by omega) (by omega)⟩, ⟨⟨_, rfl, zin1 (by omega) (by omega)⟩, trivial⟩⟩⟩⟩ ⟨⟨_, _, rfl, rfl, by first | omega | (simp only; omega)⟩, ⟨⟨_, _, rfl, rfl, by first | omega | (simp only; omega)⟩, ⟨⟨_, _, rfl, rfl, by first | omega | (simp only; omega)⟩, ⟨⟨_, _, rfl, rfl, by first | omega | (simp only; omega)⟩, trivial⟩⟩⟩⟩)
            · have hk : w 34 = w 35 := hR (1, [34, 35], []) (List.mem_of_getElem? (i := 74) rfl)
              exact zpLc0r7_ gh hg w hR ws0 u ls st ws H locs (zref hG ⟨⟨_, rfl, zin1 (by omega) (by omega)⟩, ⟨⟨_, rfl, zin1 (by omega) (by omega)⟩, ⟨⟨_, rfl, zin1 (by omega) (by omega)⟩, ⟨⟨_, rfl, zin1 (by omega) (by omega)⟩, trivial⟩⟩⟩⟩ ⟨⟨_, _, rfl, rfl, by first | omega | (simp only; omega)⟩, ⟨⟨_, _, rfl, rfl, by first | omega | (simp only; omega)⟩, ⟨⟨_, _, rfl, rfl, by first | omega | (simp only; omega)⟩, ⟨⟨_, _, rfl, rfl, by first | omega | (simp only; omega)⟩, trivial⟩⟩⟩⟩)
            · have hk : w 36 = w 37 := hR (1, [36, 37], []) (List.mem_of_getElem? (i := 75) rfl)
              exact zpLc0r8_ gh hg w hR ws0 u ls st ws H locs (zref hG ⟨⟨_, rfl, zin1 (by omega) (by omega)⟩, ⟨⟨_, rfl, zin1 (by omega) (by omega)⟩, ⟨⟨_, rfl, zin1 (by omega) (by omega)⟩, ⟨⟨_, rfl, zin1 (by omega) (by omega)⟩, trivial⟩⟩⟩⟩ ⟨⟨_, _, rfl, rfl, by first | omega | (simp only; omega)⟩, ⟨⟨_, _, rfl, rfl, by first | omega | (simp only; omega)⟩, ⟨⟨_, _, rfl, rfl, by first | omega | (simp only; omega)⟩, ⟨⟨_, _, rfl, rfl, by first | omega | (simp only; omega)⟩, trivial⟩⟩⟩⟩)
            · have hk : w 38 = w 39 := hR (1, [38, 39], []) (List.mem_of_getElem? (i := 76) rfl)
              exact zpLc0r9_ gh hg w hR ws0 u ls st ws H locs (zref hG ⟨⟨_, rfl, zin1 (by omega) (by omega)⟩, ⟨⟨_, rfl, zin1 (by omega) (by omega)⟩, ⟨⟨_, rfl, zin1 (by omega) (by omega)⟩, ⟨⟨_, rfl, zin1 (by omega) (by omega)⟩, trivial⟩⟩⟩⟩ ⟨⟨_, _, rfl, rfl, by first | omega | (simp only; omega)⟩, ⟨⟨_, _, rfl, rfl, by first | omega | (simp only; omega)⟩, ⟨⟨_, _, rfl, rfl, by first | omega | (simp only; omega)⟩, ⟨⟨_, _, rfl, rfl, by first | omega | (simp only; omega)⟩, trivial⟩⟩⟩⟩)
            · have hk : w 40 = w 41 := hR (1, [40, 41], []) (List.mem_of_getElem? (i := 77) rfl)
              exact zpLc0r10_ gh hg w hR ws0 u ls st ws H locs (zref hG ⟨⟨_, rfl, zin1 (by omega) (by omega)⟩, ⟨⟨_, rfl, zin1 (by omega) (by omega)⟩, ⟨⟨_, rfl, zin1 (by omega) (by omega)⟩, ⟨⟨_, rfl, zin1 (by omega) (by omega)⟩, trivial⟩⟩⟩⟩ ⟨⟨_, _, rfl, rfl, by first | omega | (simp only; omega)⟩, ⟨⟨_, _, rfl, rfl, by first | omega | (simp only; omega)⟩, ⟨⟨_, _, rfl, rfl, by first | omega | (simp only; omega)⟩, ⟨⟨_, _, rfl, rfl, by first | omega | (simp only; omega)⟩, trivial⟩⟩⟩⟩)
            · have hk : w 42 = w 43 := hR (1, [42, 43], []) (List.mem_of_getElem? (i := 78) rfl)
              exact zpLc0r11_ gh hg w hR ws0 u ls st ws H locs (zref hG ⟨⟨_, rfl, zin1 (by omega) (by omega)⟩, ⟨⟨_, rfl, zin1 (by omega) (by omega)⟩, ⟨⟨_, rfl, zin1 (by omega) (by omega)⟩, ⟨⟨_, rfl, zin1 (by omega) (by omega)⟩, trivial⟩⟩⟩⟩ ⟨⟨_, _, rfl, rfl, by first | omega | (simp only; omega)⟩, ⟨⟨_, _, rfl, rfl, by first | omega | (simp only; omega)⟩, ⟨⟨_, _, rfl, rfl, by first | omega | (simp only; omega)⟩, ⟨⟨_, _, rfl, rfl, by first | omega | (simp only; omega)⟩, trivial⟩⟩⟩⟩)
            · have hk : w 44 = w 45 := hR (1, [44, 45], []) (List.mem_of_getElem? (i := 79) rfl)
              exact zpLc0r12_ gh hg w hR ws0 u ls st ws H locs (zref hG ⟨⟨_, rfl, zin1 (by omega) (by omega)⟩, ⟨⟨_, rfl, zin1 (by omega) (by omega)⟩, ⟨⟨_, rfl, zin1 (by omega) (by omega)⟩, ⟨⟨_, rfl, zin1 (by omega) (by omega)⟩, trivial⟩⟩⟩⟩ ⟨⟨_, _, rfl, rfl, by first | omega | (simp only; omega)⟩, ⟨⟨_, _, rfl, rfl, by first | omega | (simp only; omega)⟩, ⟨⟨_, _, rfl, rfl, by first | omega | (simp only; omega)⟩, ⟨⟨_, _, rfl, rfl, by first | omega | (simp only; omega)⟩, trivial⟩⟩⟩⟩)
            · have hk : w 46 = w 47 := hR (1, [46, 47], []) (List.mem_of_getElem? (i := 80) rfl)
              exact zpLc0r13_ gh hg w hR ws0 u ls st ws H locs (zref hG ⟨⟨_, rfl, zin1 (by omega) (by omega)⟩, ⟨⟨_, rfl, zin1 (by omega) (by omega)⟩, ⟨⟨_, rfl, zin1 (by omega) (by omega)⟩, ⟨⟨_, rfl, zin1 (by omega) (by omega)⟩, trivial⟩⟩⟩⟩ ⟨⟨_, _, rfl, rfl, by first | omega | (simp only; omega)⟩, ⟨⟨_, _, rfl, rfl, by first | omega | (simp only; omega)⟩, ⟨⟨_, _, rfl, rfl, by first | omega | (simp only; omega)⟩, ⟨⟨_, _, rfl, rfl, by first | omega | (simp only; omega)⟩, trivial⟩⟩⟩⟩)
            · have hk : w 48 = w 49 := hR (1, [48, 49], []) (List.mem_of_getElem? (i := 81) rfl)
              exact zpLc0r14_ gh hg w hR ws0 u ls st ws H locs (zref hG ⟨⟨_, rfl, zin1 (by omega) (by omega)⟩, ⟨⟨_, rfl, zin1 (by omega) (by omega)⟩, ⟨⟨_, rfl, zin1 (by omega) (by omega)⟩, ⟨⟨_, rfl, zin1 (by omega) (by omega)⟩, trivial⟩⟩⟩⟩ ⟨⟨_, _, rfl, rfl, by first | omega | (simp only; omega)⟩, ⟨⟨_, _, rfl, rfl, by first | omega | (simp only; omega)⟩, ⟨⟨_, _, rfl, rfl, by first | omega | (simp only; omega)⟩, ⟨⟨_, _, rfl, rfl, by first | omega | (simp only; omega)⟩, trivial⟩⟩⟩⟩)
            · have hk : w 50 = w 51 := hR (1, [50, 51], []) (List.mem_of_getElem? (i := 82) rfl)
              exact zpLc0r15_ gh hg w hR ws0 u ls st ws H locs (zref hG ⟨⟨_, rfl, zin1 (by omega) (by omega)⟩, ⟨⟨_, rfl, zin1 (by omega) (by omega)⟩, ⟨⟨_, rfl, zin1 (by omega) (by omega)⟩, ⟨⟨_, rfl, zin1 (by omega) (by omega)⟩, trivial⟩⟩⟩⟩ ⟨⟨_, _, rfl, rfl, by first | omega | (simp only; omega)⟩, ⟨⟨_, _, rfl, rfl, by first | omega | (simp only; omega)⟩, ⟨⟨_, _, rfl, rfl, by first | omega | (simp only; omega)⟩, ⟨⟨_, _, rfl, rfl, by first | omega | (simp only; omega)⟩, trivial⟩⟩⟩⟩)
            · have hk : w 52 = w 53 := hR (1, [52, 53], []) (List.mem_of_getElem? (i := 83) rfl)
              exact zpLc0r16_ gh hg w hR ws0 u ls st ws H locs (zref hG ⟨⟨_, rfl, zin1 (by omega) (by omega)⟩, ⟨⟨_, rfl, zin1 (by omega) (by omega)⟩, ⟨⟨_, rfl, zin1 (by omega) (by omega)⟩, ⟨⟨_, rfl, zin1 (by omega) (by omega)⟩, trivial⟩⟩⟩⟩ ⟨⟨_, _, rfl, rfl, by first | omega | (simp only; omega)⟩, ⟨⟨_, _, rfl, rfl, by first | omega | (simp only; omega)⟩, ⟨⟨_, _, rfl, rfl, by first | omega | (simp only; omega)⟩, ⟨⟨_, _, rfl, rfl, by first | omega | (simp only; omega)⟩, trivial⟩⟩⟩⟩)
            · have hk : w 54 = w 55 := hR (1, [54, 55], []) (List.mem_of_getElem? (i := 84) rfl)
              exact zpLc0r17_ gh hg w hR ws0 u ls st ws H locs (zref hG ⟨⟨_, rfl, zin1 (by omega) (by omega)⟩, ⟨⟨_, rfl, zin1 (by omega) (by omega)⟩, ⟨⟨_, rfl, zin1 (by omega) (by omega)⟩, ⟨⟨_, rfl, zin1 (by omega) (by omega)⟩, trivial⟩⟩⟩⟩ ⟨⟨_, _, rfl, rfl, by first | omega | (simp only; omega)⟩, ⟨⟨_, _, rfl, rfl, by first | omega | (simp only; omega)⟩, ⟨⟨_, _, rfl, rfl, by first | omega | (simp only; omega)⟩, ⟨⟨_, _, rfl, rfl, by first | omega | (simp only; omega)⟩, trivial⟩⟩⟩⟩)
            · have hk : w 56 = w 57 := hR (1, [56, 57], []) (List.mem_of_getElem? (i := 85) rfl)
              exact zpLc0r18_ gh hg w hR ws0 u ls st ws H locs (zref hG ⟨⟨_, rfl, zin1 (by omega) (by omega)⟩, ⟨⟨_, rfl, zin1 (by omega) (by omega)⟩, ⟨⟨_, rfl, zin1 (by omega) (by omega)⟩, ⟨⟨_, rfl, zin1 (by omega) (by omega)⟩, trivial⟩⟩⟩⟩ ⟨⟨_, _, rfl, rfl, by first | omega | (simp only; omega)⟩, ⟨⟨_, _, rfl, rfl, by first | omega | (simp only; omega)⟩, ⟨⟨_, _, rfl, rfl, by first | omega | (simp only; omega)⟩, ⟨⟨_, _, rfl, rfl, by first | omega | (simp only; omega)⟩, trivial⟩⟩⟩⟩)
            · have hk : w 58 = w 59 := hR (1, [58, 59], []) (List.mem_of_getElem? (i := 86) rfl)
              exact zpLc0r19_ gh hg w hR ws0 u ls st ws H locs (zref hG ⟨⟨_, rfl, zin1 (by omega) (by omega)⟩, ⟨⟨_, rfl, zin1 (by omega) (by omega)⟩, ⟨⟨_, rfl, zin1 (by omega) (by omega)⟩, ⟨⟨_, rfl, zin1 (by omega) (by omega)⟩, trivial⟩⟩⟩⟩ ⟨⟨_, _, rfl, rfl, by first | omega | (simp only; omega)⟩, ⟨⟨_, _, rfl, rfl, by first | omega | (simp only; omega)⟩, ⟨⟨_, _, rfl, rfl, by first | omega | (simp only; omega)⟩, ⟨⟨_, _, rfl, rfl, by first | omega | (simp only; omega)⟩, trivial⟩⟩⟩⟩)
          · exact zpLc0row_ gh hg w hR ws0 u ls st ws H locs (zref hG ⟨⟨_, rfl, zin1 (by omega) (by omega)⟩, ⟨⟨_, rfl, zin1 (by omega) (by omega)⟩, ⟨⟨_, rfl, zin1 (by omega) (by omega)⟩, trivial⟩⟩⟩ trivial)
        · have h9 : zR3 (w 0) (w 5) (w 6) (w 7) := hR (3, [0, 5, 6, 7], []) (List.mem_of_getElem? (i := 62) rfl)
          rcases h9 with h9 | h9 | h9
          · exact zpLc1no_ gh hg w hR ws0 u ls st ws H locs (zref hG ⟨⟨_, rfl, zin1 (by omega) (by omega)⟩, ⟨⟨_, rfl, zin1 (by omega) (by omega)⟩, ⟨⟨_, rfl, zin1 (by omega) (by omega)⟩, trivial⟩⟩⟩ trivial)
          · have hb0 := zRi hR (k := 0) (List.mem_of_getElem? (i := 0) rfl)
            have hc : w 7 = 0 ∨ w 7 = 1 ∨ w 7 = 2 ∨ w 7 = 3 ∨ w 7 = 4 ∨ w 7 = 5 ∨ w 7 = 6 ∨ w 7 = 7 ∨ w 7 = 8 ∨ w 7 = 9 ∨ w 7 = 10 ∨ w 7 = 11 ∨ w 7 = 12 ∨ w 7 = 13 ∨ w 7 = 14 ∨ w 7 = 15 ∨ w 7 = 16 ∨ w 7 = 17 ∨ w 7 = 18 ∨ w 7 = 19 := by omega
            rcases hc with h8 | h8 | h8 | h8 | h8 | h8 | h8 | h8 | h8 | h8 | h8 | h8 | h8 | h8 | h8 | h8 | h8 | h8 | h8 | h8
            · have hk : w 20 = w 21 := hR (1, [20, 21], []) (List.mem_of_getElem? (i := 67) rfl)
              exact zpLc1r0_ gh hg w hR ws0 u ls st ws H locs (zref hG ⟨⟨_, rfl, zin1 (by omega) (by omega)⟩, ⟨⟨_, rfl, zin1 (by omega) (by omega)⟩, ⟨⟨_, rfl, zin1 (by omega) (by omega)⟩, ⟨⟨_, rfl, zin1 (by omega) (by omega)⟩, trivial⟩⟩⟩⟩ ⟨⟨_, _, rfl, rfl, by first | omega | (simp only; omega)⟩, ⟨⟨_, _, rfl, rfl, by first | omega | (simp only; omega)⟩, ⟨⟨_, _, rfl, rfl, by first | omega | (simp only; omega)⟩, ⟨⟨_, _, rfl, rfl, by first | omega | (simp only; omega)⟩, trivial⟩⟩⟩⟩)
            · have hk : w 22 = w 23 := hR (1, [22, 23], []) (List.mem_of_getElem? (i := 68) rfl)
              exact zpLc1r1_ gh hg w hR ws0 u ls st ws H locs (zref hG ⟨⟨_, rfl, zin1 (by omega) (by omega)⟩, ⟨⟨_, rfl, zin1 (by omega) (by omega)⟩, ⟨⟨_, rfl, zin1 (by omega) (by omega)⟩, ⟨⟨_, rfl, zin1 (by omega) (by omega)⟩, trivial⟩⟩⟩⟩ ⟨⟨_, _, rfl, rfl, by first | omega | (simp only; omega)⟩, ⟨⟨_, _, rfl, rfl, by first | omega | (simp only; omega)⟩, ⟨⟨_, _, rfl, rfl, by first | omega | (simp only; omega)⟩, ⟨⟨_, _, rfl, rfl, by first | omega | (simp only; omega)⟩, trivial⟩⟩⟩⟩)
            · have hk : w 24 = w 25 := hR (1, [24, 25], []) (List.mem_of_getElem? (i := 69) rfl)
              exact zpLc1r2_ gh hg w hR ws0 u ls st ws H locs (zref hG ⟨⟨_, rfl, zin1 (by omega) (by omega)⟩, ⟨⟨_, rfl, zin1 (by omega) (by omega)⟩, ⟨⟨_, rfl, zin1 (by omega) (by omega)⟩, ⟨⟨_, rfl, zin1 (by omega) (by omega)⟩, trivial⟩⟩⟩⟩ ⟨⟨_, _, rfl, rfl, by first | omega | (simp only; omega)⟩, ⟨⟨_, _, rfl, rfl, by first | omega | (simp only; omega)⟩, ⟨⟨_, _, rfl, rfl, by first | omega | (simp only; omega)⟩, ⟨⟨_, _, rfl, rfl, by first | omega | (simp only; omega)⟩, trivial⟩⟩⟩⟩)
            · have hk : w 26 = w 27 := hR (1, [26, 27], []) (List.mem_of_getElem? (i := 70) rfl)
              exact zpLc1r3_ gh hg w hR ws0 u ls st ws H locs (zref hG ⟨⟨_, rfl, zin1 (by omega) (by omega)⟩, ⟨⟨_, rfl, zin1 (by omega) (by omega)⟩, ⟨⟨_, rfl, zin1 (by omega) (by omega)⟩, ⟨⟨_, rfl, zin1 (by omega) (by omega)⟩, trivial⟩⟩⟩⟩ ⟨⟨_, _, rfl, rfl, by first | omega | (simp only; omega)⟩, ⟨⟨_, _, rfl, rfl, by first | omega | (simp only; omega)⟩, ⟨⟨_, _, rfl, rfl, by first | omega | (simp only; omega)⟩, ⟨⟨_, _, rfl, rfl, by first | omega | (simp only; omega)⟩, trivial⟩⟩⟩⟩)
            · have hk : w 28 = w 29 := hR (1, [28, 29], []) (List.mem_of_getElem? (i := 71) rfl)
              exact zpLc1r4_ gh hg w hR ws0 u ls st ws H locs (zref hG ⟨⟨_, rfl, zin1 (by omega) (by omega)⟩, ⟨⟨_, rfl, zin1 (by omega) (by omega)⟩, ⟨⟨_, rfl, zin1 (by omega) (by omega)⟩, ⟨⟨_, rfl, zin1 (by omega) (by omega)⟩, trivial⟩⟩⟩⟩ ⟨⟨_, _, rfl, rfl, by first | omega | (simp only; omega)⟩, ⟨⟨_, _, rfl, rfl, by first | omega | (simp only; omega)⟩, ⟨⟨_, _, rfl, rfl, by first | omega | (simp only; omega)⟩, ⟨⟨_, _, rfl, rfl, by first | omega | (simp only; omega)⟩, trivial⟩⟩⟩⟩)
            · have hk : w 30 = w 31 := hR (1, [30, 31], []) (List.mem_of_getElem? (i := 72) rfl)
              exact zpLc1r5_ gh hg w hR ws0 u ls st ws H locs (zref hG ⟨⟨_, rfl, zin1 (by omega) (by omega)⟩, ⟨⟨_, rfl, zin1 (by omega) (by omega)⟩, ⟨⟨_, rfl, zin1 (by omega) (by omega)⟩, ⟨⟨_, rfl, zin1 (by omega) (by omega)⟩, trivial⟩⟩⟩⟩ ⟨⟨_, _, rfl, rfl, by first | omega | (simp only; omega)⟩, ⟨⟨_, _, rfl, rfl, by first | omega | (simp only; omega)⟩, ⟨⟨_, _, rfl, rfl, by first | omega | (simp only; omega)⟩, ⟨⟨_, _, rfl, rfl, by first | omega | (simp only; omega)⟩, trivial⟩⟩⟩⟩)
            · have hk : w 32 = w 33 := hR (1, [32, 33], []) (List.mem_of_getElem? (i := 73) rfl)
              exact zpLc1r6_ gh hg w hR ws0 u ls st ws H locs (zref hG ⟨⟨_, rfl, zin1 (by omega) (by omega)⟩, ⟨⟨_, rfl, zin1 (by omega) (by omega)⟩, ⟨⟨_, rfl, zin1 (by omega) (by omega)⟩, ⟨⟨_, rfl, zin1 (by omega) (by omega)⟩, trivial⟩⟩⟩⟩ ⟨⟨_, _, rfl, rfl, by first | omega | (simp only; omega)⟩, ⟨⟨_, _, rfl, rfl, by first | omega | (simp only; omega)⟩, ⟨⟨_, _, rfl, rfl, by first | omega | (simp only; omega)⟩, ⟨⟨_, _, rfl, rfl, by first | omega | (simp only; omega)⟩, trivial⟩⟩⟩⟩)
            · have hk : w 34 = w 35 := hR (1, [34, 35], []) (List.mem_of_getElem? (i := 74) rfl)
              exact zpLc1r7_ gh hg w hR ws0 u ls st ws H locs (zref hG ⟨⟨_, rfl, zin1 (by omega) (by omega)⟩, ⟨⟨_, rfl, zin1 (by omega) (by omega)⟩, ⟨⟨_, rfl, zin1 (by omega) (by omega)⟩, ⟨⟨_, rfl, zin1 (by omega) (by omega)⟩, trivial⟩⟩⟩⟩ ⟨⟨_, _, rfl, rfl, by first | omega | (simp only; omega)⟩, ⟨⟨_, _, rfl, rfl, by first | omega | (simp only; omega)⟩, ⟨⟨_, _, rfl, rfl, by first | omega | (simp only; omega)⟩, ⟨⟨_, _, rfl, rfl, by first | omega | (simp only; omega)⟩, trivial⟩⟩⟩⟩)
            · have hk : w 36 = w 37 := hR (1, [36, 37], []) (List.mem_of_getElem? (i := 75) rfl)
              exact zpLc1r8_ gh hg w hR ws0 u ls st ws H locs (zref hG ⟨⟨_, rfl, zin1 (by omega) (by omega)⟩, ⟨⟨_, rfl, zin1 (by omega) (by omega)⟩, ⟨⟨_, rfl, zin1 (by omega) (by omega)⟩, ⟨⟨_, rfl, zin1 (by omega) (by omega)⟩, trivial⟩⟩⟩⟩ ⟨⟨_, _, rfl, rfl, by first | omega | (simp only; omega)⟩, ⟨⟨_, _, rfl, rfl, by first | omega | (simp only; omega)⟩, ⟨⟨_, _, rfl, rfl, by first | omega | (simp only; omega)⟩, ⟨⟨_, _, rfl, rfl, by first | omega | (simp only; omega)⟩, trivial⟩⟩⟩⟩)
            · have hk : w 38 = w 39 := hR (1, [38, 39], []) (List.mem_of_getElem? (i := 76) rfl)
              exact zpLc1r9_ gh hg w hR ws0 u ls st ws H locs (zref hG ⟨⟨_, rfl, zin1 (by omega) (by omega)⟩, ⟨⟨_, rfl, zin1 (by omega) (by omega)⟩, ⟨⟨_, rfl, zin1 (by omega) (by omega)⟩, ⟨⟨_, rfl, zin1 (by omega) (by omega)⟩, trivial⟩⟩⟩⟩ ⟨⟨_, _, rfl, rfl, by first | omega | (simp only; omega)⟩, ⟨⟨_, _, rfl, rfl, by first | omega | (simp only; omega)⟩, ⟨⟨_, _, rfl, rfl, by first | omega | (simp only; omega)⟩, ⟨⟨_, _, rfl, rfl, by first | omega | (simp only; omega)⟩, trivial⟩⟩⟩⟩)
            · have hk : w 40 = w 41 := hR (1, [40, 41], []) (List.mem_of_getElem? (i := 77) rfl)
              exact zpLc1r10_ gh hg w hR ws0 u ls st ws H locs (zref hG ⟨⟨_, rfl, zin1 (by omega) (by omega)⟩, ⟨⟨_, rfl, zin1 (by omega) (by omega)⟩, ⟨⟨_, rfl, zin1 (by omega) (by omega)⟩, ⟨⟨_, rfl, zin1 (by omega) (by omega)⟩, trivial⟩⟩⟩⟩ ⟨⟨_, _, rfl, rfl, by first | omega | (simp only; omega)⟩, ⟨⟨_, _, rfl, rfl, by first | omega | (simp only; omega)⟩, ⟨⟨_, _, rfl, rfl, by first | omega | (simp only; omega)⟩, ⟨⟨_, _, rfl, rfl, by first | omega | (simp only; omega)⟩, trivial⟩⟩⟩⟩)
            · have hk : w 42 = w 43 := hR (1, [42, 43], []) (List.mem_of_getElem? (i := 78) rfl)
              exact zpLc1r11_ gh hg w hR ws0 u ls st ws H locs (zref hG ⟨⟨_, rfl, zin1 (by omega) (by omega)⟩, ⟨⟨_, rfl, zin1 (by omega) (by omega)⟩, ⟨⟨_, rfl, zin1 (by omega) (by omega)⟩, ⟨⟨_, rfl, zin1 (by omega) (by omega)⟩, trivial⟩⟩⟩⟩ ⟨⟨_, _, rfl, rfl, by first | omega | (simp only; omega)⟩, ⟨⟨_, _, rfl, rfl, by first | omega | (simp only; omega)⟩, ⟨⟨_, _, rfl, rfl, by first | omega | (simp only; omega)⟩, ⟨⟨_, _, rfl, rfl, by first | omega | (simp only; omega)⟩, trivial⟩⟩⟩⟩)
            · have hk : w 44 = w 45 := hR (1, [44, 45], []) (List.mem_of_getElem? (i := 79) rfl)
              exact zpLc1r12_ gh hg w hR ws0 u ls st ws H locs (zref hG ⟨⟨_, rfl, zin1 (by omega) (by omega)⟩, ⟨⟨_, rfl, zin1 (by omega) (by omega)⟩, ⟨⟨_, rfl, zin1 (by omega) (by omega)⟩, ⟨⟨_, rfl, zin1 (by omega) (by omega)⟩, trivial⟩⟩⟩⟩ ⟨⟨_, _, rfl, rfl, by first | omega | (simp only; omega)⟩, ⟨⟨_, _, rfl, rfl, by first | omega | (simp only; omega)⟩, ⟨⟨_, _, rfl, rfl, by first | omega | (simp only; omega)⟩, ⟨⟨_, _, rfl, rfl, by first | omega | (simp only; omega)⟩, trivial⟩⟩⟩⟩)
            · have hk : w 46 = w 47 := hR (1, [46, 47], []) (List.mem_of_getElem? (i := 80) rfl)
              exact zpLc1r13_ gh hg w hR ws0 u ls st ws H locs (zref hG ⟨⟨_, rfl, zin1 (by omega) (by omega)⟩, ⟨⟨_, rfl, zin1 (by omega) (by omega)⟩, ⟨⟨_, rfl, zin1 (by omega) (by omega)⟩, ⟨⟨_, rfl, zin1 (by omega) (by omega)⟩, trivial⟩⟩⟩⟩ ⟨⟨_, _, rfl, rfl, by first | omega | (simp only; omega)⟩, ⟨⟨_, _, rfl, rfl, by first | omega | (simp only; omega)⟩, ⟨⟨_, _, rfl, rfl, by first | omega | (simp only; omega)⟩, ⟨⟨_, _, rfl, rfl, by first | omega | (simp only; omega)⟩, trivial⟩⟩⟩⟩)
            · have hk : w 48 = w 49 := hR (1, [48, 49], []) (List.mem_of_getElem? (i := 81) rfl)
              exact zpLc1r14_ gh hg w hR ws0 u ls st ws H locs (zref hG ⟨⟨_, rfl, zin1 (by omega) (by omega)⟩, ⟨⟨_, rfl, zin1 (by omega) (by omega)⟩, ⟨⟨_, rfl, zin1 (by omega) (by omega)⟩, ⟨⟨_, rfl, zin1 (by omega) (by omega)⟩, trivial⟩⟩⟩⟩ ⟨⟨_, _, rfl, rfl, by first | omega | (simp only; omega)⟩, ⟨⟨_, _, rfl, rfl, by first | omega | (simp only; omega)⟩, ⟨⟨_, _, rfl, rfl, by first | omega | (simp only; omega)⟩, ⟨⟨_, _, rfl, rfl, by first | omega | (simp only; omega)⟩, trivial⟩⟩⟩⟩)
            · have hk : w 50 = w 51 := hR (1, [50, 51], []) (List.mem_of_getElem? (i := 82) rfl)
              exact zpLc1r15_ gh hg w hR ws0 u ls st ws H locs (zref hG ⟨⟨_, rfl, zin1 (by omega) (by omega)⟩, ⟨⟨_, rfl, zin1 (by omega) (by omega)⟩, ⟨⟨_, rfl, zin1 (by omega) (by omega)⟩, ⟨⟨_, rfl, zin1 (by omega) (by omega)⟩, trivial⟩⟩⟩⟩ ⟨⟨_, _, rfl, rfl, by first | omega | (simp only; omega)⟩, ⟨⟨_, _, rfl, rfl, by first | omega | (simp only; omega)⟩, ⟨⟨_, _, rfl, rfl, by first | omega | (simp only; omega)⟩, ⟨⟨_, _, rfl, rfl, by first | omega | (simp only; omega)⟩, trivial⟩⟩⟩⟩)
            · have hk : w 52 = w 53 := hR (1, [52, 53], []) (List.mem_of_getElem? (i := 83) rfl)
              exact zpLc1r16_ gh hg w hR ws0 u ls st ws H locs (zref hG ⟨⟨_, rfl, zin1 (by omega) (by omega)⟩, ⟨⟨_, rfl, zin1 (by omega) (by omega)⟩, ⟨⟨_, rfl, zin1 (by omega) (by omega)⟩, ⟨⟨_, rfl, zin1 (by omega) (by omega)⟩, trivial⟩⟩⟩⟩ ⟨⟨_, _, rfl, rfl, by first | omega | (simp only; omega)⟩, ⟨⟨_, _, rfl, rfl, by first | omega | (simp only; omega)⟩, ⟨⟨_, _, rfl, rfl, by first | omega | (simp only; omega)⟩, ⟨⟨_, _, rfl, rfl, by first | omega | (simp only; omega)⟩, trivial⟩⟩⟩⟩)
            · have hk : w 54 = w 55 := hR (1, [54, 55], []) (List.mem_of_getElem? (i := 84) rfl)
              exact zpLc1r17_ gh hg w hR ws0 u ls st ws H locs (zref hG ⟨⟨_, rfl, zin1 (by omega) (by omega)⟩, ⟨⟨_, rfl, zin1 (by omega) (by omega)⟩, ⟨⟨_, rfl, zin1 (by omega) (by omega)⟩, ⟨⟨_, rfl, zin1 (by omega) (by omega)⟩, trivial⟩⟩⟩⟩ ⟨⟨_, _, rfl, rfl, by first | omega | (simp only; omega)⟩, ⟨⟨_, _, rfl, rfl, by first | omega | (simp only; omega)⟩, ⟨⟨_, _, rfl, rfl, by first | omega | (simp only; omega)⟩, ⟨⟨_, _, rfl, rfl, by first | omega | (simp only; omega)⟩, trivial⟩⟩⟩⟩)
            · have hk : w 56 = w 57 := hR (1, [56, 57], []) (List.mem_of_getElem? (i := 85) rfl)
              exact zpLc1r18_ gh hg w hR ws0 u ls st ws H locs (zref hG ⟨⟨_, rfl, zin1 (by omega) (by omega)⟩, ⟨⟨_, rfl, zin1 (by omega) (by omega)⟩, ⟨⟨_, rfl, zin1 (by omega) (by omega)⟩, ⟨⟨_, rfl, zin1 (by omega) (by omega)⟩, trivial⟩⟩⟩⟩ ⟨⟨_, _, rfl, rfl, by first | omega | (simp only; omega)⟩, ⟨⟨_, _, rfl, rfl, by first | omega | (simp only; omega)⟩, ⟨⟨_, _, rfl, rfl, by first | omega | (simp only; omega)⟩, ⟨⟨_, _, rfl, rfl, by first | omega | (simp only; omega)⟩, trivial⟩⟩⟩⟩)
            · have hk : w 58 = w 59 := hR (1, [58, 59], []) (List.mem_of_getElem? (i := 86) rfl)
              exact zpLc1r19_ gh hg w hR ws0 u ls st ws H locs (zref hG ⟨⟨_, rfl, zin1 (by omega) (by omega)⟩, ⟨⟨_, rfl, zin1 (by omega) (by omega)⟩, ⟨⟨_, rfl, zin1 (by omega) (by omega)⟩, ⟨⟨_, rfl, zin1 (by omega) (by omega)⟩, trivial⟩⟩⟩⟩ ⟨⟨_, _, rfl, rfl, by first | omega | (simp only; omega)⟩, ⟨⟨_, _, rfl, rfl, by first | omega | (simp only; omega)⟩, ⟨⟨_, _, rfl, rfl, by first | omega | (simp only; omega)⟩, ⟨⟨_, _, rfl, rfl, by first | omega | (simp only; omega)⟩, trivial⟩⟩⟩⟩)
          · exact zpLc1row_ gh hg w hR ws0 u ls st ws H locs (zref hG ⟨⟨_, rfl, zin1 (by omega) (by omega)⟩, ⟨⟨_, rfl, zin1 (by omega) (by omega)⟩, ⟨⟨_, rfl, zin1 (by omega) (by omega)⟩, trivial⟩⟩⟩ trivial)
        · have h9 : zR3 (w 0) (w 8) (w 9) (w 10) := hR (3, [0, 8, 9, 10], []) (List.mem_of_getElem? (i := 63) rfl)
          rcases h9 with h9 | h9 | h9
          · exact zpLc2no_ gh hg w hR ws0 u ls st ws H locs (zref hG ⟨⟨_, rfl, zin1 (by omega) (by omega)⟩, ⟨⟨_, rfl, zin1 (by omega) (by omega)⟩, ⟨⟨_, rfl, zin1 (by omega) (by omega)⟩, trivial⟩⟩⟩ trivial)
          · have hb0 := zRi hR (k := 0) (List.mem_of_getElem? (i := 0) rfl)
            have hc : w 10 = 0 ∨ w 10 = 1 ∨ w 10 = 2 ∨ w 10 = 3 ∨ w 10 = 4 ∨ w 10 = 5 ∨ w 10 = 6 ∨ w 10 = 7 ∨ w 10 = 8 ∨ w 10 = 9 ∨ w 10 = 10 ∨ w 10 = 11 ∨ w 10 = 12 ∨ w 10 = 13 ∨ w 10 = 14 ∨ w 10 = 15 ∨ w 10 = 16 ∨ w 10 = 17 ∨ w 10 = 18 ∨ w 10 = 19 := by omega
            rcases hc with h8 | h8 | h8 | h8 | h8 | h8 | h8 | h8 | h8 | h8 | h8 | h8 | h8 | h8 | h8 | h8 | h8 | h8 | h8 | h8
            · have hk : w 20 = w 21 := hR (1, [20, 21], []) (List.mem_of_getElem? (i := 67) rfl)
              exact zpLc2r0_ gh hg w hR ws0 u ls st ws H locs (zref hG ⟨⟨_, rfl, zin1 (by omega) (by omega)⟩, ⟨⟨_, rfl, zin1 (by omega) (by omega)⟩, ⟨⟨_, rfl, zin1 (by omega) (by omega)⟩, ⟨⟨_, rfl, zin1 (by omega) (by omega)⟩, trivial⟩⟩⟩⟩ ⟨⟨_, _, rfl, rfl, by first | omega | (simp only; omega)⟩, ⟨⟨_, _, rfl, rfl, by first | omega | (simp only; omega)⟩, ⟨⟨_, _, rfl, rfl, by first | omega | (simp only; omega)⟩, ⟨⟨_, _, rfl, rfl, by first | omega | (simp only; omega)⟩, trivial⟩⟩⟩⟩)
            · have hk : w 22 = w 23 := hR (1, [22, 23], []) (List.mem_of_getElem? (i := 68) rfl)
              exact zpLc2r1_ gh hg w hR ws0 u ls st ws H locs (zref hG ⟨⟨_, rfl, zin1 (by omega) (by omega)⟩, ⟨⟨_, rfl, zin1 (by omega) (by omega)⟩, ⟨⟨_, rfl, zin1 (by omega) (by omega)⟩, ⟨⟨_, rfl, zin1 (by omega) (by omega)⟩, trivial⟩⟩⟩⟩ ⟨⟨_, _, rfl, rfl, by first | omega | (simp only; omega)⟩, ⟨⟨_, _, rfl, rfl, by first | omega | (simp only; omega)⟩, ⟨⟨_, _, rfl, rfl, by first | omega | (simp only; omega)⟩, ⟨⟨_, _, rfl, rfl, by first | omega | (simp only; omega)⟩, trivial⟩⟩⟩⟩)
            · have hk : w 24 = w 25 := hR (1, [24, 25], []) (List.mem_of_getElem? (i := 69) rfl)
              exact zpLc2r2_ gh hg w hR ws0 u ls st ws H locs (zref hG ⟨⟨_, rfl, zin1 (by omega) (by omega)⟩, ⟨⟨_, rfl, zin1 (by omega) (by omega)⟩, ⟨⟨_, rfl, zin1 (by omega) (by omega)⟩, ⟨⟨_, rfl, zin1 (by omega) (by omega)⟩, trivial⟩⟩⟩⟩ ⟨⟨_, _, rfl, rfl, by first | omega | (simp only; omega)⟩, ⟨⟨_, _, rfl, rfl, by first | omega | (simp only; omega)⟩, ⟨⟨_, _, rfl, rfl, by first | omega | (simp only; omega)⟩, ⟨⟨_, _, rfl, rfl, by first | omega | (simp only; omega)⟩, trivial⟩⟩⟩⟩)
            · have hk : w 26 = w 27 := hR (1, [26, 27], []) (List.mem_of_getElem? (i := 70) rfl)
              exact zpLc2r3_ gh hg w hR ws0 u ls st ws H locs (zref hG ⟨⟨_, rfl, zin1 (by omega) (by omega)⟩, ⟨⟨_, rfl, zin1 (by omega) (by omega)⟩, ⟨⟨_, rfl, zin1 (by omega) (by omega)⟩, ⟨⟨_, rfl, zin1 (by omega) (by omega)⟩, trivial⟩⟩⟩⟩ ⟨⟨_, _, rfl, rfl, by first | omega | (simp only; omega)⟩, ⟨⟨_, _, rfl, rfl, by first | omega | (simp only; omega)⟩, ⟨⟨_, _, rfl, rfl, by first | omega | (simp only; omega)⟩, ⟨⟨_, _, rfl, rfl, by first | omega | (simp only; omega)⟩, trivial⟩⟩⟩⟩)
            · have hk : w 28 = w 29 := hR (1, [28, 29], []) (List.mem_of_getElem? (i := 71) rfl)
              exact zpLc2r4_ gh hg w hR ws0 u ls st ws H locs (zref hG ⟨⟨_, rfl, zin1 (by omega) (by omega)⟩, ⟨⟨_, rfl, zin1 (by omega) (by omega)⟩, ⟨⟨_, rfl, zin1 (by omega) (by omega)⟩, ⟨⟨_, rfl, zin1 (by omega) (by omega)⟩, trivial⟩⟩⟩⟩ ⟨⟨_, _, rfl, rfl, by first | omega | (simp only; omega)⟩, ⟨⟨_, _, rfl, rfl, by first | omega | (simp only; omega)⟩, ⟨⟨_, _, rfl, rfl, by first | omega | (simp only; omega)⟩, ⟨⟨_, _, rfl, rfl, by first | omega | (simp only; omega)⟩, trivial⟩⟩⟩⟩)
            · have hk : w 30 = w 31 := hR (1, [30, 31], []) (List.mem_of_getElem? (i := 72) rfl)
              exact zpLc2r5_ gh hg w hR ws0 u ls st ws H locs (zref hG ⟨⟨_, rfl, zin1 (by omega) (by omega)⟩, ⟨⟨_, rfl, zin1 (by omega) (by omega)⟩, ⟨⟨_, rfl, zin1 (by omega) (by omega)⟩, ⟨⟨_, rfl, zin1 (by omega) (by omega)⟩, trivial⟩⟩⟩⟩ ⟨⟨_, _, rfl, rfl, by first | omega | (simp only; omega)⟩, ⟨⟨_, _, rfl, rfl, by first | omega | (simp only; omega)⟩, ⟨⟨_, _, rfl, rfl, by first | omega | (simp only; omega)⟩, ⟨⟨_, _, rfl, rfl, by first | omega | (simp only; omega)⟩, trivial⟩⟩⟩⟩)
            · have hk : w 32 = w 33 := hR (1, [32, 33], []) (List.mem_of_getElem? (i := 73) rfl)
              exact zpLc2r6_ gh hg w hR ws0 u ls st ws H locs (zref hG ⟨⟨_, rfl, zin1 (by omega) (by omega)⟩, ⟨⟨_, rfl, zin1 (by omega) (by omega)⟩, ⟨⟨_, rfl, zin1 (by omega) (by omega)⟩, ⟨⟨_, rfl, zin1 (by omega) (by omega)⟩, trivial⟩⟩⟩⟩ ⟨⟨_, _, rfl, rfl, by first | omega | (simp only; omega)⟩, ⟨⟨_, _, rfl, rfl, by first | omega | (simp only; omega)⟩, ⟨⟨_, _, rfl, rfl, by first | omega | (simp only; omega)⟩, ⟨⟨_, _, rfl, rfl, by first | omega | (simp only; omega)⟩, trivial⟩⟩⟩⟩)
            · have hk : w 34 = w 35 := hR (1, [34, 35], []) (List.mem_of_getElem? (i := 74) rfl)
              exact zpLc2r7_ gh hg w hR ws0 u ls st ws H locs (zref hG ⟨⟨_, rfl, zin1 (by omega) (by omega)⟩, ⟨⟨_, rfl, zin1 (by omega) (by omega)⟩, ⟨⟨_, rfl, zin1 (by omega) (by omega)⟩, ⟨⟨_, rfl, zin1 (by omega) (by omega)⟩, trivial⟩⟩⟩⟩ ⟨⟨_, _, rfl, rfl, by first | omega | (simp only; omega)⟩, ⟨⟨_, _, rfl, rfl, by first | omega | (simp only; omega)⟩, ⟨⟨_, _, rfl, rfl, by first | omega | (simp only; omega)⟩, ⟨⟨_, _, rfl, rfl, by first | omega | (simp only; omega)⟩, trivial⟩⟩⟩⟩)
            · have hk : w 36 = w 37 := hR (1, [36, 37], []) (List.mem_of_getElem? (i := 75) rfl)
              exact zpLc2r8_ gh hg w hR ws0 u ls st ws H locs (zref hG ⟨⟨_, rfl, zin1 (by omega) (by omega)⟩, ⟨⟨_, rfl, zin1 (by omega) (by omega)⟩, ⟨⟨_, rfl, zin1 (by omega) (by omega)⟩, ⟨⟨_, rfl, zin1 (by omega) (by omega)⟩, trivial⟩⟩⟩⟩ ⟨⟨_, _, rfl, rfl, by first | omega | (simp only; omega)⟩, ⟨⟨_, _, rfl, rfl, by first | omega | (simp only; omega)⟩, ⟨⟨_, _, rfl, rfl, by first | omega | (simp only; omega)⟩, ⟨⟨_, _, rfl, rfl, by first | omega | (simp only; omega)⟩, trivial⟩⟩⟩⟩)
            · have hk : w 38 = w 39 := hR (1, [38, 39], []) (List.mem_of_getElem? (i := 76) rfl)
              exact zpLc2r9_ gh hg w hR ws0 u ls st ws H locs (zref hG ⟨⟨_, rfl, zin1 (by omega) (by omega)⟩, ⟨⟨_, rfl, zin1 (by omega) (by omega)⟩, ⟨⟨_, rfl, zin1 (by omega) (by omega)⟩, ⟨⟨_, rfl, zin1 (by omega) (by omega)⟩, trivial⟩⟩⟩⟩ ⟨⟨_, _, rfl, rfl, by first | omega | (simp only; omega)⟩, ⟨⟨_, _, rfl, rfl, by first | omega | (simp only; omega)⟩, ⟨⟨_, _, rfl, rfl, by first | omega | (simp only; omega)⟩, ⟨⟨_, _, rfl, rfl, by first | omega | (simp only; omega)⟩, trivial⟩⟩⟩⟩)
            · have hk : w 40 = w 41 := hR (1, [40, 41], []) (List.mem_of_getElem? (i := 77) rfl)
              exact zpLc2r10_ gh hg w hR ws0 u ls st ws H locs (zref hG ⟨⟨_, rfl, zin1 (by omega) (by omega)⟩, ⟨⟨_, rfl, zin1 (by omega) (by omega)⟩, ⟨⟨_, rfl, zin1 (by omega) (by omega)⟩, ⟨⟨_, rfl, zin1 (by omega) (by omega)⟩, trivial⟩⟩⟩⟩ ⟨⟨_, _, rfl, rfl, by first | omega | (simp only; omega)⟩, ⟨⟨_, _, rfl, rfl, by first | omega | (simp only; omega)⟩, ⟨⟨_, _, rfl, rfl, by first | omega | (simp only; omega)⟩, ⟨⟨_, _, rfl, rfl, by first | omega | (simp only; omega)⟩, trivial⟩⟩⟩⟩)
            · have hk : w 42 = w 43 := hR (1, [42, 43], []) (List.mem_of_getElem? (i := 78) rfl)
              exact zpLc2r11_ gh hg w hR ws0 u ls st ws H locs (zref hG ⟨⟨_, rfl, zin1 (by omega) (by omega)⟩, ⟨⟨_, rfl, zin1 (by omega) (by omega)⟩, ⟨⟨_, rfl, zin1 (by omega) (by omega)⟩, ⟨⟨_, rfl, zin1 (by omega) (by omega)⟩, trivial⟩⟩⟩⟩ ⟨⟨_, _, rfl, rfl, by first | omega | (simp only; omega)⟩, ⟨⟨_, _, rfl, rfl, by first | omega | (simp only; omega)⟩, ⟨⟨_, _, rfl, rfl, by first | omega | (simp only; omega)⟩, ⟨⟨_, _, rfl, rfl, by first | omega | (simp only; omega)⟩, trivial⟩⟩⟩⟩)
            · have hk : w 44 = w 45 := hR (1, [44, 45], []) (List.mem_of_getElem? (i := 79) rfl)
              exact zpLc2r12_ gh hg w hR ws0 u ls st ws H locs (zref hG ⟨⟨_, rfl, zin1 (by omega) (by omega)⟩, ⟨⟨_, rfl, zin1 (by omega) (by omega)⟩, ⟨⟨_, rfl, zin1 (by omega) (by omega)⟩, ⟨⟨_, rfl, zin1 (by omega) (by omega)⟩, trivial⟩⟩⟩⟩ ⟨⟨_, _, rfl, rfl, by first | omega | (simp only; omega)⟩, ⟨⟨_, _, rfl, rfl, by first | omega | (simp only; omega)⟩, ⟨⟨_, _, rfl, rfl, by first | omega | (simp only; omega)⟩, ⟨⟨_, _, rfl, rfl, by first | omega | (simp only; omega)⟩, trivial⟩⟩⟩⟩)
            · have hk : w 46 = w 47 := hR (1, [46, 47], []) (List.mem_of_getElem? (i := 80) rfl)
              exact zpLc2r13_ gh hg w hR ws0 u ls st ws H locs (zref hG ⟨⟨_, rfl, zin1 (by omega) (by omega)⟩, ⟨⟨_, rfl, zin1 (by omega) (by omega)⟩, ⟨⟨_, rfl, zin1 (by omega) (by omega)⟩, ⟨⟨_, rfl, zin1 (by omega) (by omega)⟩, trivial⟩⟩⟩⟩ ⟨⟨_, _, rfl, rfl, by first | omega | (simp only; omega)⟩, ⟨⟨_, _, rfl, rfl, by first | omega | (simp only; omega)⟩, ⟨⟨_, _, rfl, rfl, by first | omega | (simp only; omega)⟩, ⟨⟨_, _, rfl, rfl, by first | omega | (simp only; omega)⟩, trivial⟩⟩⟩⟩)
            · have hk : w 48 = w 49 := hR (1, [48, 49], []) (List.mem_of_getElem? (i := 81) rfl)
              exact zpLc2r14_ gh hg w hR ws0 u ls st ws H locs (zref hG ⟨⟨_, rfl, zin1 (by omega) (by omega)⟩, ⟨⟨_, rfl, zin1 (by omega) (by omega)⟩, ⟨⟨_, rfl, zin1 (by omega) (by omega)⟩, ⟨⟨_, rfl, zin1 (by omega) (by omega)⟩, trivial⟩⟩⟩⟩ ⟨⟨_, _, rfl, rfl, by first | omega | (simp only; omega)⟩, ⟨⟨_, _, rfl, rfl, by first | omega | (simp only; omega)⟩, ⟨⟨_, _, rfl, rfl, by first | omega | (simp only; omega)⟩, ⟨⟨_, _, rfl, rfl, by first | omega | (simp only; omega)⟩, trivial⟩⟩⟩⟩)
            · have hk : w 50 = w 51 := hR (1, [50, 51], []) (List.mem_of_getElem? (i := 82) rfl)
              exact zpLc2r15_ gh hg w hR ws0 u ls st ws H locs (zref hG ⟨⟨_, rfl, zin1 (by omega) (by omega)⟩, ⟨⟨_, rfl, zin1 (by omega) (by omega)⟩, ⟨⟨_, rfl, zin1 (by omega) (by omega)⟩, ⟨⟨_, rfl, zin1 (by omega) (by omega)⟩, trivial⟩⟩⟩⟩ ⟨⟨_, _, rfl, rfl, by first | omega | (simp only; omega)⟩, ⟨⟨_, _, rfl, rfl, by first | omega | (simp only; omega)⟩, ⟨⟨_, _, rfl, rfl, by first | omega | (simp only; omega)⟩, ⟨⟨_, _, rfl, rfl, by first | omega | (simp only; omega)⟩, trivial⟩⟩⟩⟩)
            · have hk : w 52 = w 53 := hR (1, [52, 53], []) (List.mem_of_getElem? (i := 83) rfl)
              exact zpLc2r16_ gh hg w hR ws0 u ls st ws H locs (zref hG ⟨⟨_, rfl, zin1 (by omega) (by omega)⟩, ⟨⟨_, rfl, zin1 (by omega) (by omega)⟩, ⟨⟨_, rfl, zin1 (by omega) (by omega)⟩, ⟨⟨_, rfl, zin1 (by omega) (by omega)⟩, trivial⟩⟩⟩⟩ ⟨⟨_, _, rfl, rfl, by first | omega | (simp only; omega)⟩, ⟨⟨_, _, rfl, rfl, by first | omega | (simp only; omega)⟩, ⟨⟨_, _, rfl, rfl, by first | omega | (simp only; omega)⟩, ⟨⟨_, _, rfl, rfl, by first | omega | (simp only; omega)⟩, trivial⟩⟩⟩⟩)
            · have hk : w 54 = w 55 := hR (1, [54, 55], []) (List.mem_of_getElem? (i := 84) rfl)
              exact zpLc2r17_ gh hg w hR ws0 u ls st ws H locs (zref hG ⟨⟨_, rfl, zin1 (by omega) (by omega)⟩, ⟨⟨_, rfl, zin1 (by omega) (by omega)⟩, ⟨⟨_, rfl, zin1 (by omega) (by omega)⟩, ⟨⟨_, rfl, zin1 (by omega) (by omega)⟩, trivial⟩⟩⟩⟩ ⟨⟨_, _, rfl, rfl, by first | omega | (simp only; omega)⟩, ⟨⟨_, _, rfl, rfl, by first | omega | (simp only; omega)⟩, ⟨⟨_, _, rfl, rfl, by first | omega | (simp only; omega)⟩, ⟨⟨_, _, rfl, rfl, by first | omega | (simp only; omega)⟩, trivial⟩⟩⟩⟩)
            · have hk : w 56 = w 57 := hR (1, [56, 57], []) (List.mem_of_getElem? (i := 85) rfl)
              exact zpLc2r18_ gh hg w hR ws0 u ls st ws H locs (zref hG ⟨⟨_, rfl, zin1 (by omega) (by omega)⟩, ⟨⟨_, rfl, zin1 (by omega) (by omega)⟩, ⟨⟨_, rfl, zin1 (by omega) (by omega)⟩, ⟨⟨_, rfl, zin1 (by omega) (by omega)⟩, trivial⟩⟩⟩⟩ ⟨⟨_, _, rfl, rfl, by first | omega | (simp only; omega)⟩, ⟨⟨_, _, rfl, rfl, by first | omega | (simp only; omega)⟩, ⟨⟨_, _, rfl, rfl, by first | omega | (simp only; omega)⟩, ⟨⟨_, _, rfl, rfl, by first | omega | (simp only; omega)⟩, trivial⟩⟩⟩⟩)
            · have hk : w 58 = w 59 := hR (1, [58, 59], []) (List.mem_of_getElem? (i := 86) rfl)
              exact zpLc2r19_ gh hg w hR ws0 u ls st ws H locs (zref hG ⟨⟨_, rfl, zin1 (by omega) (by omega)⟩, ⟨⟨_, rfl, zin1 (by omega) (by omega)⟩, ⟨⟨_, rfl, zin1 (by omega) (by omega)⟩, ⟨⟨_, rfl, zin1 (by omega) (by omega)⟩, trivial⟩⟩⟩⟩ ⟨⟨_, _, rfl, rfl, by first | omega | (simp only; omega)⟩, ⟨⟨_, _, rfl, rfl, by first | omega | (simp only; omega)⟩, ⟨⟨_, _, rfl, rfl, by first | omega | (simp only; omega)⟩, ⟨⟨_, _, rfl, rfl, by first | omega | (simp only; omega)⟩, trivial⟩⟩⟩⟩)
          · exact zpLc2row_ gh hg w hR ws0 u ls st ws H locs (zref hG ⟨⟨_, rfl, zin1 (by omega) (by omega)⟩, ⟨⟨_, rfl, zin1 (by omega) (by omega)⟩, ⟨⟨_, rfl, zin1 (by omega) (by omega)⟩, trivial⟩⟩⟩ trivial)
        · have h9 : zR3 (w 0) (w 11) (w 12) (w 13) := hR (3, [0, 11, 12, 13], []) (List.mem_of_getElem? (i := 64) rfl)
          rcases h9 with h9 | h9 | h9
          · exact zpLc3no_ gh hg w hR ws0 u ls st ws H locs (zref hG ⟨⟨_, rfl, zin1 (by omega) (by omega)⟩, ⟨⟨_, rfl, zin1 (by omega) (by omega)⟩, ⟨⟨_, rfl, zin1 (by omega) (by omega)⟩, trivial⟩⟩⟩ trivial)
          · have hb0 := zRi hR (k := 0) (List.mem_of_getElem? (i := 0) rfl)
            have hc : w 13 = 0 ∨ w 13 = 1 ∨ w 13 = 2 ∨ w 13 = 3 ∨ w 13 = 4 ∨ w 13 = 5 ∨ w 13 = 6 ∨ w 13 = 7 ∨ w 13 = 8 ∨ w 13 = 9 ∨ w 13 = 10 ∨ w 13 = 11 ∨ w 13 = 12 ∨ w 13 = 13 ∨ w 13 = 14 ∨ w 13 = 15 ∨ w 13 = 16 ∨ w 13 = 17 ∨ w 13 = 18 ∨ w 13 = 19 := by omega
            rcases hc with h8 | h8 | h8 | h8 | h8 | h8 | h8 | h8 | h8 | h8 | h8 | h8 | h8 | h8 | h8 | h8 | h8 | h8 | h8 | h8
            · have hk : w 20 = w 21 := hR (1, [20, 21], []) (List.mem_of_getElem? (i := 67) rfl)
              exact zpLc3r0_ gh hg w hR ws0 u ls st ws H locs (zref hG ⟨⟨_, rfl, zin1 (by omega) (by omega)⟩, ⟨⟨_, rfl, zin1 (by omega) (by omega)⟩, ⟨⟨_, rfl, zin1 (by omega) (by omega)⟩, ⟨⟨_, rfl, zin1 (by omega) (by omega)⟩, trivial⟩⟩⟩⟩ ⟨⟨_, _, rfl, rfl, by first | omega | (simp only; omega)⟩, ⟨⟨_, _, rfl, rfl, by first | omega | (simp only; omega)⟩, ⟨⟨_, _, rfl, rfl, by first | omega | (simp only; omega)⟩, ⟨⟨_, _, rfl, rfl, by first | omega | (simp only; omega)⟩, trivial⟩⟩⟩⟩)
            · have hk : w 22 = w 23 := hR (1, [22, 23], []) (List.mem_of_getElem? (i := 68) rfl)
              exact zpLc3r1_ gh hg w hR ws0 u ls st ws H locs (zref hG ⟨⟨_, rfl, zin1 (by omega) (by omega)⟩, ⟨⟨_, rfl, zin1 (by omega) (by omega)⟩, ⟨⟨_, rfl, zin1 (by omega) (by omega)⟩, ⟨⟨_, rfl, zin1 (by omega) (by omega)⟩, trivial⟩⟩⟩⟩ ⟨⟨_, _, rfl, rfl, by first | omega | (simp only; omega)⟩, ⟨⟨_, _, rfl, rfl, by first | omega | (simp only; omega)⟩, ⟨⟨_, _, rfl, rfl, by first | omega | (simp only; omega)⟩, ⟨⟨_, _, rfl, rfl, by first | omega | (simp only; omega)⟩, trivial⟩⟩⟩⟩)
            · have hk : w 24 = w 25 := hR (1, [24, 25], []) (List.mem_of_getElem? (i := 69) rfl)
              exact zpLc3r2_ gh hg w hR ws0 u ls st ws H locs (zref hG ⟨⟨_, rfl, zin1 (by omega) (by omega)⟩, ⟨⟨_, rfl, zin1 (by omega) (by omega)⟩, ⟨⟨_, rfl, zin1 (by omega) (by omega)⟩, ⟨⟨_, rfl, zin1 (by omega) (by omega)⟩, trivial⟩⟩⟩⟩ ⟨⟨_, _, rfl, rfl, by first | omega | (simp only; omega)⟩, ⟨⟨_, _, rfl, rfl, by first | omega | (simp only; omega)⟩, ⟨⟨_, _, rfl, rfl, by first | omega | (simp only; omega)⟩, ⟨⟨_, _, rfl, rfl, by first | omega | (simp only; omega)⟩, trivial⟩⟩⟩⟩)
            · have hk : w 26 = w 27 := hR (1, [26, 27], []) (List.mem_of_getElem? (i := 70) rfl)
              exact zpLc3r3_ gh hg w hR ws0 u ls st ws H locs (zref hG ⟨⟨_, rfl, zin1 (by omega) (by omega)⟩, ⟨⟨_, rfl, zin1 (by omega) (by omega)⟩, ⟨⟨_, rfl, zin1 (by omega) (by omega)⟩, ⟨⟨_, rfl, zin1 (by omega) (by omega)⟩, trivial⟩⟩⟩⟩ ⟨⟨_, _, rfl, rfl, by first | omega | (simp only; omega)⟩, ⟨⟨_, _, rfl, rfl, by first | omega | (simp only; omega)⟩, ⟨⟨_, _, rfl, rfl, by first | omega | (simp only; omega)⟩, ⟨⟨_, _, rfl, rfl, by first | omega | (simp only; omega)⟩, trivial⟩⟩⟩⟩)
            · have hk : w 28 = w 29 := hR (1, [28, 29], []) (List.mem_of_getElem? (i := 71) rfl)
              exact zpLc3r4_ gh hg w hR ws0 u ls st ws H locs (zref hG ⟨⟨_, rfl, zin1 (by omega) (by omega)⟩, ⟨⟨_, rfl, zin1 (by omega) (by omega)⟩, ⟨⟨_, rfl, zin1 (by omega) (by omega)⟩, ⟨⟨_, rfl, zin1 (by omega) (by omega)⟩, trivial⟩⟩⟩⟩ ⟨⟨_, _, rfl, rfl, by first | omega | (simp only; omega)⟩, ⟨⟨_, _, rfl, rfl, by first | omega | (simp only; omega)⟩, ⟨⟨_, _, rfl, rfl, by first | omega | (simp only; omega)⟩, ⟨⟨_, _, rfl, rfl, by first | omega | (simp only; omega)⟩, trivial⟩⟩⟩⟩)
            · have hk : w 30 = w 31 := hR (1, [30, 31], []) (List.mem_of_getElem? (i := 72) rfl)
              exact zpLc3r5_ gh hg w hR ws0 u ls st ws H locs (zref hG ⟨⟨_, rfl, zin1 (by omega) (by omega)⟩, ⟨⟨_, rfl, zin1 (by omega) (by omega)⟩, ⟨⟨_, rfl, zin1 (by omega) (by omega)⟩, ⟨⟨_, rfl, zin1 (by omega) (by omega)⟩, trivial⟩⟩⟩⟩ ⟨⟨_, _, rfl, rfl, by first | omega | (simp only; omega)⟩, ⟨⟨_, _, rfl, rfl, by first | omega | (simp only; omega)⟩, ⟨⟨_, _, rfl, rfl, by first | omega | (simp only; omega)⟩, ⟨⟨_, _, rfl, rfl, by first | omega | (simp only; omega)⟩, trivial⟩⟩⟩⟩)
            · have hk : w 32 = w 33 := hR (1, [32, 33], []) (List.mem_of_getElem? (i := 73) rfl)
              exact zpLc3r6_ gh hg w hR ws0 u ls st ws H locs (zref hG ⟨⟨_, rfl, zin1 (by omega) (by omega)⟩, ⟨⟨_, rfl, zin1 (by omega) (by omega)⟩, ⟨⟨_, rfl, zin1 (by omega) (by omega)⟩, ⟨⟨_, rfl, zin1 (by omega) (by omega)⟩, trivial⟩⟩⟩⟩ ⟨⟨_, _, rfl, rfl, by first | omega | (simp only; omega)⟩, ⟨⟨_, _, rfl, rfl, by first | omega | (simp only; omega)⟩, ⟨⟨_, _, rfl, rfl, by first | omega | (simp only; omega)⟩, ⟨⟨_, _, rfl, rfl, by first | omega | (simp only; omega)⟩, trivial⟩⟩⟩⟩)
            · have hk : w 34 = w 35 := hR (1, [34, 35], []) (List.mem_of_getElem? (i := 74) rfl)
              exact zpLc3r7_ gh hg w hR ws0 u ls st ws H locs (zref hG ⟨⟨_, rfl, zin1 (by omega) (by omega)⟩, ⟨⟨_, rfl, zin1 (by omega) (by omega)⟩, ⟨⟨_, rfl, zin1 (by omega) (by omega)⟩, ⟨⟨_, rfl, zin1 (by omega) (by omega)⟩, trivial⟩⟩⟩⟩ ⟨⟨_, _, rfl, rfl, by first | omega | (simp only; omega)⟩, ⟨⟨_, _, rfl, rfl, by first | omega | (simp only; omega)⟩, ⟨⟨_, _, rfl, rfl, by first | omega | (simp only; omega)⟩, ⟨⟨_, _, rfl, rfl, by first | omega | (simp only; omega)⟩, trivial⟩⟩⟩⟩)
            · have hk : w 36 = w 37 := hR (1, [36, 37], []) (List.mem_of_getElem? (i := 75) rfl)
              exact zpLc3r8_ gh hg w hR ws0 u ls st ws H locs (zref hG ⟨⟨_, rfl, zin1 (by omega) (by omega)⟩, ⟨⟨_, rfl, zin1 (by omega) (by omega)⟩, ⟨⟨_, rfl, zin1 (by omega) (by omega)⟩, ⟨⟨_, rfl, zin1 (by omega) (by omega)⟩, trivial⟩⟩⟩⟩ ⟨⟨_, _, rfl, rfl, by first | omega | (simp only; omega)⟩, ⟨⟨_, _, rfl, rfl, by first | omega | (simp only; omega)⟩, ⟨⟨_, _, rfl, rfl, by first | omega | (simp only; omega)⟩, ⟨⟨_, _, rfl, rfl, by first | omega | (simp only; omega)⟩, trivial⟩⟩⟩⟩)
            · have hk : w 38 = w 39 := hR (1, [38, 39], []) (List.mem_of_getElem? (i := 76) rfl)
              exact zpLc3r9_ gh hg w hR ws0 u ls st ws H locs (zref hG ⟨⟨_, rfl, zin1 (by omega) (by omega)⟩, ⟨⟨_, rfl, zin1 (by omega) (by omega)⟩, ⟨⟨_, rfl, zin1 (by omega) (by omega)⟩, ⟨⟨_, rfl, zin1 (by omega) (by omega)⟩, trivial⟩⟩⟩⟩ ⟨⟨_, _, rfl, rfl, by first | omega | (simp only; omega)⟩, ⟨⟨_, _, rfl, rfl, by first | omega | (simp only; omega)⟩, ⟨⟨_, _, rfl, rfl, by first | omega | (simp only; omega)⟩, ⟨⟨_, _, rfl, rfl, by first | omega | (simp only; omega)⟩, trivial⟩⟩⟩⟩)
            · have hk : w 40 = w 41 := hR (1, [40, 41], []) (List.mem_of_getElem? (i := 77) rfl)
              exact zpLc3r10_ gh hg w hR ws0 u ls st ws H locs (zref hG ⟨⟨_, rfl, zin1 (by omega) (by omega)⟩, ⟨⟨_, rfl, zin1 (by omega) (by omega)⟩, ⟨⟨_, rfl, zin1 (by omega) (by omega)⟩, ⟨⟨_, rfl, zin1 (by omega) (by omega)⟩, trivial⟩⟩⟩⟩ ⟨⟨_, _, rfl, rfl, by first | omega | (simp only; omega)⟩, ⟨⟨_, _, rfl, rfl, by first | omega | (simp only; omega)⟩, ⟨⟨_, _, rfl, rfl, by first | omega | (simp only; omega)⟩, ⟨⟨_, _, rfl, rfl, by first | omega | (simp only; omega)⟩, trivial⟩⟩⟩⟩)
            · have hk : w 42 = w 43 := hR (1, [42, 43], []) (List.mem_of_getElem? (i := 78) rfl)
              exact zpLc3r11_ gh hg w hR ws0 u ls st ws H locs (zref hG ⟨⟨_, rfl, zin1 (by omega) (by omega)⟩, ⟨⟨_, rfl, zin1 (by omega) (by omega)⟩, ⟨⟨_, rfl, zin1 (by omega) (by omega)⟩, ⟨⟨_, rfl, zin1 (by omega) (by omega)⟩, trivial⟩⟩⟩⟩ ⟨⟨_, _, rfl, rfl, by first | omega | (simp only; omega)⟩, ⟨⟨_, _, rfl, rfl, by first | omega | (simp only; omega)⟩, ⟨⟨_, _, rfl, rfl, by first | omega | (simp only; omega)⟩, ⟨⟨_, _, rfl, rfl, by first | omega | (simp only; omega)⟩, trivial⟩⟩⟩⟩)
            · have hk : w 44 = w 45 := hR (1, [44, 45], []) (List.mem_of_getElem? (i := 79) rfl)
              exact zpLc3r12_ gh hg w hR ws0 u ls st ws H locs (zref hG ⟨⟨_, rfl, zin1 (by omega) (by omega)⟩, ⟨⟨_, rfl, zin1 (by omega) (by omega)⟩, ⟨⟨_, rfl, zin1 (by omega) (by omega)⟩, ⟨⟨_, rfl, zin1 (by omega) (by omega)⟩, trivial⟩⟩⟩⟩ ⟨⟨_, _, rfl, rfl, by first | omega | (simp only; omega)⟩, ⟨⟨_, _, rfl, rfl, by first | omega | (simp only; omega)⟩, ⟨⟨_, _, rfl, rfl, by first | omega | (simp only; omega)⟩, ⟨⟨_, _, rfl, rfl, by first | omega | (simp only; omega)⟩, trivial⟩⟩⟩⟩)
            · have hk : w 46 = w 47 := hR (1, [46, 47], []) (List.mem_of_getElem? (i := 80) rfl)
              exact zpLc3r13_ gh hg w hR ws0 u ls st ws H locs (zref hG ⟨⟨_, rfl, zin1 (by omega) (by omega)⟩, ⟨⟨_, rfl, zin1 (by omega) (by omega)⟩, ⟨⟨_, rfl, zin1 (by omega) (by omega)⟩, ⟨⟨_, rfl, zin1 (by omega) (by omega)⟩, trivial⟩⟩⟩⟩ ⟨⟨_, _, rfl, rfl, by first | omega | (simp only; omega)⟩, ⟨⟨_, _, rfl, rfl, by first | omega | (simp only; omega)⟩, ⟨⟨_, _, rfl, rfl, by first | omega | (simp only; omega)⟩, ⟨⟨_, _, rfl, rfl, by first | omega | (simp only; omega)⟩, trivial⟩⟩⟩⟩)
            · have hk : w 48 = w 49 := hR (1, [48, 49], []) (List.mem_of_getElem? (i := 81) rfl)
              exact zpLc3r14_ gh hg w hR ws0 u ls st ws H locs (zref hG ⟨⟨_, rfl, zin1 (by omega) (by omega)⟩, ⟨⟨_, rfl, zin1 (by omega) (by omega)⟩, ⟨⟨_, rfl, zin1 (by omega) (by omega)⟩, ⟨⟨_, rfl, zin1 (by omega) (by omega)⟩, trivial⟩⟩⟩⟩ ⟨⟨_, _, rfl, rfl, by first | omega | (simp only; omega)⟩, ⟨⟨_, _, rfl, rfl, by first | omega | (simp only; omega)⟩, ⟨⟨_, _, rfl, rfl, by first | omega | (simp only; omega)⟩, ⟨⟨_, _, rfl, rfl, by first | omega | (simp only; omega)⟩, trivial⟩⟩⟩⟩)
            · have hk : w 50 = w 51 := hR (1, [50, 51], []) (List.mem_of_getElem? (i := 82) rfl)
              exact zpLc3r15_ gh hg w hR ws0 u ls st ws H locs (zref hG ⟨⟨_, rfl, zin1 (by omega) (by omega)⟩, ⟨⟨_, rfl, zin1 (by omega) (by omega)⟩, ⟨⟨_, rfl, zin1 (by omega) (by omega)⟩, ⟨⟨_, rfl, zin1 (by omega) (by omega)⟩, trivial⟩⟩⟩⟩ ⟨⟨_, _, rfl, rfl, by first | omega | (simp only; omega)⟩, ⟨⟨_, _, rfl, rfl, by first | omega | (simp only; omega)⟩, ⟨⟨_, _, rfl, rfl, by first | omega | (simp only; omega)⟩, ⟨⟨_, _, rfl, rfl, by first | omega | (simp only; omega)⟩, trivial⟩⟩⟩⟩)
            · have hk : w 52 = w 53 := hR (1, [52, 53], []) (List.mem_of_getElem? (i := 83) rfl)
              exact zpLc3r16_ gh hg w hR ws0 u ls st ws H locs (zref hG ⟨⟨_, rfl, zin1 (by omega) (by omega)⟩, ⟨⟨_, rfl, zin1 (by omega) (by omega)⟩, ⟨⟨_, rfl, zin1 (by omega) (by omega)⟩, ⟨⟨_, rfl, zin1 (by omega) (by omega)⟩, trivial⟩⟩⟩⟩ ⟨⟨_, _, rfl, rfl, by first | omega | (simp only; omega)⟩, ⟨⟨_, _, rfl, rfl, by first | omega | (simp only; omega)⟩, ⟨⟨_, _, rfl, rfl, by first | omega | (simp only; omega)⟩, ⟨⟨_, _, rfl, rfl, by first | omega | (simp only; omega)⟩, trivial⟩⟩⟩⟩)
            · have hk : w 54 = w 55 := hR (1, [54, 55], []) (List.mem_of_getElem? (i := 84) rfl)
              exact zpLc3r17_ gh hg w hR ws0 u ls st ws H locs (zref hG ⟨⟨_, rfl, zin1 (by omega) (by omega)⟩, ⟨⟨_, rfl, zin1 (by omega) (by omega)⟩, ⟨⟨_, rfl, zin1 (by omega) (by omega)⟩, ⟨⟨_, rfl, zin1 (by omega) (by omega)⟩, trivial⟩⟩⟩⟩ ⟨⟨_, _, rfl, rfl, by first | omega | (simp only; omega)⟩, ⟨⟨_, _, rfl, rfl, by first | omega | (simp only; omega)⟩, ⟨⟨_, _, rfl, rfl, by first | omega | (simp only; omega)⟩, ⟨⟨_, _, rfl, rfl, by first | omega | (simp only; omega)⟩, trivial⟩⟩⟩⟩)
            · have hk : w 56 = w 57 := hR (1, [56, 57], []) (List.mem_of_getElem? (i := 85) rfl)
              exact zpLc3r18_ gh hg w hR ws0 u ls st ws H locs (zref hG ⟨⟨_, rfl, zin1 (by omega) (by omega)⟩, ⟨⟨_, rfl, zin1 (by omega) (by omega)⟩, ⟨⟨_, rfl, zin1 (by omega) (by omega)⟩, ⟨⟨_, rfl, zin1 (by omega) (by omega)⟩, trivial⟩⟩⟩⟩ ⟨⟨_, _, rfl, rfl, by first | omega | (simp only; omega)⟩, ⟨⟨_, _, rfl, rfl, by first | omega | (simp only; omega)⟩, ⟨⟨_, _, rfl, rfl, by first | omega | (simp only; omega)⟩, ⟨⟨_, _, rfl, rfl, by first | omega | (simp only; omega)⟩, trivial⟩⟩⟩⟩)
            · have hk : w 58 = w 59 := hR (1, [58, 59], []) (List.mem_of_getElem? (i := 86) rfl)
              exact zpLc3r19_ gh hg w hR ws0 u ls st ws H locs (zref hG ⟨⟨_, rfl, zin1 (by omega) (by omega)⟩, ⟨⟨_, rfl, zin1 (by omega) (by omega)⟩, ⟨⟨_, rfl, zin1 (by omega) (by omega)⟩, ⟨⟨_, rfl, zin1 (by omega) (by omega)⟩, trivial⟩⟩⟩⟩ ⟨⟨_, _, rfl, rfl, by first | omega | (simp only; omega)⟩, ⟨⟨_, _, rfl, rfl, by first | omega | (simp only; omega)⟩, ⟨⟨_, _, rfl, rfl, by first | omega | (simp only; omega)⟩, ⟨⟨_, _, rfl, rfl, by first | omega | (simp only; omega)⟩, trivial⟩⟩⟩⟩)
          · exact zpLc3row_ gh hg w hR ws0 u ls st ws H locs (zref hG ⟨⟨_, rfl, zin1 (by omega) (by omega)⟩, ⟨⟨_, rfl, zin1 (by omega) (by omega)⟩, ⟨⟨_, rfl, zin1 (by omega) (by omega)⟩, trivial⟩⟩⟩ trivial)
        · have h9 : zR3 (w 0) (w 14) (w 15) (w 16) := hR (3, [0, 14, 15, 16], []) (List.mem_of_getElem? (i := 65) rfl)
          rcases h9 with h9 | h9 | h9
          · exact zpLc4no_ gh hg w hR ws0 u ls st ws H locs (zref hG ⟨⟨_, rfl, zin1 (by omega) (by omega)⟩, ⟨⟨_, rfl, zin1 (by omega) (by omega)⟩, ⟨⟨_, rfl, zin1 (by omega) (by omega)⟩, trivial⟩⟩⟩ trivial)
          · have hb0 := zRi hR (k := 0) (List.mem_of_getElem? (i := 0) rfl)
            have hc : w 16 = 0 ∨ w 16 = 1 ∨ w 16 = 2 ∨ w 16 = 3 ∨ w 16 = 4 ∨ w 16 = 5 ∨ w 16 = 6 ∨ w 16 = 7 ∨ w 16 = 8 ∨ w 16 = 9 ∨ w 16 = 10 ∨ w 16 = 11 ∨ w 16 = 12 ∨ w 16 = 13 ∨ w 16 = 14 ∨ w 16 = 15 ∨ w 16 = 16 ∨ w 16 = 17 ∨ w 16 = 18 ∨ w 16 = 19 := by omega
            rcases hc with h8 | h8 | h8 | h8 | h8 | h8 | h8 | h8 | h8 | h8 | h8 | h8 | h8 | h8 | h8 | h8 | h8 | h8 | h8 | h8
            · have hk : w 20 = w 21 := hR (1, [20, 21], []) (List.mem_of_getElem? (i := 67) rfl)
              exact zpLc4r0_ gh hg w hR ws0 u ls st ws H locs (zref hG ⟨⟨_, rfl, zin1 (by omega) (by omega)⟩, ⟨⟨_, rfl, zin1 (by omega) (by omega)⟩, ⟨⟨_, rfl, zin1 (by omega) (by omega)⟩, ⟨⟨_, rfl, zin1 (by omega) (by omega)⟩, trivial⟩⟩⟩⟩ ⟨⟨_, _, rfl, rfl, by first | omega | (simp only; omega)⟩, ⟨⟨_, _, rfl, rfl, by first | omega | (simp only; omega)⟩, ⟨⟨_, _, rfl, rfl, by first | omega | (simp only; omega)⟩, ⟨⟨_, _, rfl, rfl, by first | omega | (simp only; omega)⟩, trivial⟩⟩⟩⟩)
            · have hk : w 22 = w 23 := hR (1, [22, 23], []) (List.mem_of_getElem? (i := 68) rfl)
              exact zpLc4r1_ gh hg w hR ws0 u ls st ws H locs (zref hG ⟨⟨_, rfl, zin1 (by omega) (by omega)⟩, ⟨⟨_, rfl, zin1 (by omega) (by omega)⟩, ⟨⟨_, rfl, zin1 (by omega) (by omega)⟩, ⟨⟨_, rfl, zin1 (by omega) (by omega)⟩, trivial⟩⟩⟩⟩ ⟨⟨_, _, rfl, rfl, by first | omega | (simp only; omega)⟩, ⟨⟨_, _, rfl, rfl, by first | omega | (simp only; omega)⟩, ⟨⟨_, _, rfl, rfl, by first | omega | (simp only; omega)⟩, ⟨⟨_, _, rfl, rfl, by first | omega | (simp only; omega)⟩, trivial⟩⟩⟩⟩)
            · have hk : w 24 = w 25 := hR (1, [24, 25], []) (List.mem_of_getElem? (i := 69) rfl)
              exact zpLc4r2_ gh hg w hR ws0 u ls st ws H locs (zref hG ⟨⟨_, rfl, zin1 (by omega) (by omega)⟩, ⟨⟨_, rfl, zin1 (by omega) (by omega)⟩, ⟨⟨_, rfl, zin1 (by omega) (by omega)⟩, ⟨⟨_, rfl, zin1 (by omega) (by omega)⟩, trivial⟩⟩⟩⟩ ⟨⟨_, _, rfl, rfl, by first | omega | (simp only; omega)⟩, ⟨⟨_, _, rfl, rfl, by first | omega | (simp only; omega)⟩, ⟨⟨_, _, rfl, rfl, by first | omega | (simp only; omega)⟩, ⟨⟨_, _, rfl, rfl, by first | omega | (simp only; omega)⟩, trivial⟩⟩⟩⟩)
            · have hk : w 26 = w 27 := hR (1, [26, 27], []) (List.mem_of_getElem? (i := 70) rfl)
              exact zpLc4r3_ gh hg w hR ws0 u ls st ws H locs (zref hG ⟨⟨_, rfl, zin1 (by omega) (by omega)⟩, ⟨⟨_, rfl, zin1 (by omega) (by omega)⟩, ⟨⟨_, rfl, zin1 (by omega) (by omega)⟩, ⟨⟨_, rfl, zin1 (by omega) (by omega)⟩, trivial⟩⟩⟩⟩ ⟨⟨_, _, rfl, rfl, by first | omega | (simp only; omega)⟩, ⟨⟨_, _, rfl, rfl, by first | omega | (simp only; omega)⟩, ⟨⟨_, _, rfl, rfl, by first | omega | (simp only; omega)⟩, ⟨⟨_, _, rfl, rfl, by first | omega | (simp only; omega)⟩, trivial⟩⟩⟩⟩)
            · have hk : w 28 = w 29 := hR (1, [28, 29], []) (List.mem_of_getElem? (i := 71) rfl)
              exact zpLc4r4_ gh hg w hR ws0 u ls st ws H locs (zref hG ⟨⟨_, rfl, zin1 (by omega) (by omega)⟩, ⟨⟨_, rfl, zin1 (by omega) (by omega)⟩, ⟨⟨_, rfl, zin1 (by omega) (by omega)⟩, ⟨⟨_, rfl, zin1 (by omega) (by omega)⟩, trivial⟩⟩⟩⟩ ⟨⟨_, _, rfl, rfl, by first | omega | (simp only; omega)⟩, ⟨⟨_, _, rfl, rfl, by first | omega | (simp only; omega)⟩, ⟨⟨_, _, rfl, rfl, by first | omega | (simp only; omega)⟩, ⟨⟨_, _, rfl, rfl, by first | omega | (simp only; omega)⟩, trivial⟩⟩⟩⟩)
            · have hk : w 30 = w 31 := hR (1, [30, 31], []) (List.mem_of_getElem? (i := 72) rfl)
              exact zpLc4r5_ gh hg w hR ws0 u ls st ws H locs (zref hG ⟨⟨_, rfl, zin1 (by omega) (by omega)⟩, ⟨⟨_, rfl, zin1 (by omega) (by omega)⟩, ⟨⟨_, rfl, zin1 (by omega) (by omega)⟩, ⟨⟨_, rfl, zin1 (by omega) (by omega)⟩, trivial⟩⟩⟩⟩ ⟨⟨_, _, rfl, rfl, by first | omega | (simp only; omega)⟩, ⟨⟨_, _, rfl, rfl, by first | omega | (simp only; omega)⟩, ⟨⟨_, _, rfl, rfl, by first | omega | (simp only; omega)⟩, ⟨⟨_, _, rfl, rfl, by first | omega | (simp only; omega)⟩, trivial⟩⟩⟩⟩)
            · have hk : w 32 = w 33 := hR (1, [32, 33], []) (List.mem_of_getElem? (i := 73) rfl)
              exact zpLc4r6_ gh hg w hR ws0 u ls st ws H locs (zref hG ⟨⟨_, rfl, zin1 (by omega) (by omega)⟩, ⟨⟨_, rfl, zin1 (by omega) (by omega)⟩, ⟨⟨_, rfl, zin1 (by omega) (by omega)⟩, ⟨⟨_, rfl, zin1 (by omega) (by omega)⟩, trivial⟩⟩⟩⟩ ⟨⟨_, _, rfl, rfl, by first | omega | (simp only; omega)⟩, ⟨⟨_, _, rfl, rfl, by first | omega | (simp only; omega)⟩, ⟨⟨_, _, rfl, rfl, by first | omega | (simp only; omega)⟩, ⟨⟨_, _, rfl, rfl, by first | omega | (simp only; omega)⟩, trivial⟩⟩⟩⟩)
            · have hk : w 34 = w 35 := hR (1, [34, 35], []) (List.mem_of_getElem? (i := 74) rfl)
              exact zpLc4r7_ gh hg w hR ws0 u ls st ws H locs (zref hG ⟨⟨_, rfl, zin1 (by omega) (by omega)⟩, ⟨⟨_, rfl, zin1 (by omega) (by omega)⟩, ⟨⟨_, rfl, zin1 (by omega) (by omega)⟩, ⟨⟨_, rfl, zin1 (by omega) (by omega)⟩, trivial⟩⟩⟩⟩ ⟨⟨_, _, rfl, rfl, by first | omega | (simp only; omega)⟩, ⟨⟨_, _, rfl, rfl, by first | omega | (simp only; omega)⟩, ⟨⟨_, _, rfl, rfl, by first | omega | (simp only; omega)⟩, ⟨⟨_, _, rfl, rfl, by first | omega | (simp only; omega)⟩, trivial⟩⟩⟩⟩)
            · have hk : w 36 = w 37 := hR (1, [36, 37], []) (List.mem_of_getElem? (i := 75) rfl)
              exact zpLc4r8_ gh hg w hR ws0 u ls st ws H locs (zref hG ⟨⟨_, rfl, zin1 (by omega) (by omega)⟩, ⟨⟨_, rfl, zin1 (by omega) (by omega)⟩, ⟨⟨_, rfl, zin1 (by omega) (by omega)⟩, ⟨⟨_, rfl, zin1 (by omega) (by omega)⟩, trivial⟩⟩⟩⟩ ⟨⟨_, _, rfl, rfl, by first | omega | (simp only; omega)⟩, ⟨⟨_, _, rfl, rfl, by first | omega | (simp only; omega)⟩, ⟨⟨_, _, rfl, rfl, by first | omega | (simp only; omega)⟩, ⟨⟨_, _, rfl, rfl, by first | omega | (simp only; omega)⟩, trivial⟩⟩⟩⟩)
            · have hk : w 38 = w 39 := hR (1, [38, 39], []) (List.mem_of_getElem? (i := 76) rfl)
              exact zpLc4r9_ gh hg w hR ws0 u ls st ws H locs (zref hG ⟨⟨_, rfl, zin1 (by omega) (by omega)⟩, ⟨⟨_, rfl, zin1 (by omega) (by omega)⟩, ⟨⟨_, rfl, zin1 (by omega) (by omega)⟩, ⟨⟨_, rfl, zin1 (by omega) (by omega)⟩, trivial⟩⟩⟩⟩ ⟨⟨_, _, rfl, rfl, by first | omega | (simp only; omega)⟩, ⟨⟨_, _, rfl, rfl, by first | omega | (simp only; omega)⟩, ⟨⟨_, _, rfl, rfl, by first | omega | (simp only; omega)⟩, ⟨⟨_, _, rfl, rfl, by first | omega | (simp only; omega)⟩, trivial⟩⟩⟩⟩)
            · have hk : w 40 = w 41 := hR (1, [40, 41], []) (List.mem_of_getElem? (i := 77) rfl)
              exact zpLc4r10_ gh hg w hR ws0 u ls st ws H locs (zref hG ⟨⟨_, rfl, zin1 (by omega) (by omega)⟩, ⟨⟨_, rfl, zin1 (by omega) (by omega)⟩, ⟨⟨_, rfl, zin1 (by omega) (by omega)⟩, ⟨⟨_, rfl, zin1 (by omega) (by omega)⟩, trivial⟩⟩⟩⟩ ⟨⟨_, _, rfl, rfl, by first | omega | (simp only; omega)⟩, ⟨⟨_, _, rfl, rfl, by first | omega | (simp only; omega)⟩, ⟨⟨_, _, rfl, rfl, by first | omega | (simp only; omega)⟩, ⟨⟨_, _, rfl, rfl, by first | omega | (simp only; omega)⟩, trivial⟩⟩⟩⟩)
            · have hk : w 42 = w 43 := hR (1, [42, 43], []) (List.mem_of_getElem? (i := 78) rfl)
              exact zpLc4r11_ gh hg w hR ws0 u ls st ws H locs (zref hG ⟨⟨_, rfl, zin1 (by omega) (by omega)⟩, ⟨⟨_, rfl, zin1 (by omega) (by omega)⟩, ⟨⟨_, rfl, zin1 (by omega) (by omega)⟩, ⟨⟨_, rfl, zin1 (by omega) (by omega)⟩, trivial⟩⟩⟩⟩ ⟨⟨_, _, rfl, rfl, by first | omega | (simp only; omega)⟩, ⟨⟨_, _, rfl, rfl, by first | omega | (simp only; omega)⟩, ⟨⟨_, _, rfl, rfl, by first | omega | (simp only; omega)⟩, ⟨⟨_, _, rfl, rfl, by first | omega | (simp only; omega)⟩, trivial⟩⟩⟩⟩)
            · have hk : w 44 = w 45 := hR (1, [44, 45], []) (List.mem_of_getElem? (i := 79) rfl)
              exact zpLc4r12_ gh hg w hR ws0 u ls st ws H locs (zref hG ⟨⟨_, rfl, zin1 (by omega) (by omega)⟩, ⟨⟨_, rfl, zin1 (by omega) (by omega)⟩, ⟨⟨_, rfl, zin1 (by omega) (by omega)⟩, ⟨⟨_, rfl, zin1 (by omega) (by omega)⟩, trivial⟩⟩⟩⟩ ⟨⟨_, _, rfl, rfl, by first | omega | (simp only; omega)⟩, ⟨⟨_, _, rfl, rfl, by first | omega | (simp only; omega)⟩, ⟨⟨_, _, rfl, rfl, by first | omega | (simp only; omega)⟩, ⟨⟨_, _, rfl, rfl, by first | omega | (simp only; omega)⟩, trivial⟩⟩⟩⟩)
            · have hk : w 46 = w 47 := hR (1, [46, 47], []) (List.mem_of_getElem? (i := 80) rfl)
              exact zpLc4r13_ gh hg w hR ws0 u ls st ws H locs (zref hG ⟨⟨_, rfl, zin1 (by omega) (by omega)⟩, ⟨⟨_, rfl, zin1 (by omega) (by omega)⟩, ⟨⟨_, rfl, zin1 (by omega) (by omega)⟩, ⟨⟨_, rfl, zin1 (by omega) (by omega)⟩, trivial⟩⟩⟩⟩ ⟨⟨_, _, rfl, rfl, by first | omega | (simp only; omega)⟩, ⟨⟨_, _, rfl, rfl, by first | omega | (simp only; omega)⟩, ⟨⟨_, _, rfl, rfl, by first | omega | (simp only; omega)⟩, ⟨⟨_, _, rfl, rfl, by first | omega | (simp only; omega)⟩, trivial⟩⟩⟩⟩)
            · have hk : w 48 = w 49 := hR (1, [48, 49], []) (List.mem_of_getElem? (i := 81) rfl)
              exact zpLc4r14_ gh hg w hR ws0 u ls st ws H locs (zref hG ⟨⟨_, rfl, zin1 (by omega) (by omega)⟩, ⟨⟨_, rfl, zin1 (by omega) (by omega)⟩, ⟨⟨_, rfl, zin1 (by omega) (by omega)⟩, ⟨⟨_, rfl, zin1 (by omega) (by omega)⟩, trivial⟩⟩⟩⟩ ⟨⟨_, _, rfl, rfl, by first | omega | (simp only; omega)⟩, ⟨⟨_, _, rfl, rfl, by first | omega | (simp only; omega)⟩, ⟨⟨_, _, rfl, rfl, by first | omega | (simp only; omega)⟩, ⟨⟨_, _, rfl, rfl, by first | omega | (simp only; omega)⟩, trivial⟩⟩⟩⟩)
            · have hk : w 50 = w 51 := hR (1, [50, 51], []) (List.mem_of_getElem? (i := 82) rfl)
              exact zpLc4r15_ gh hg w hR ws0 u ls st ws H locs (zref hG ⟨⟨_, rfl, zin1 (by omega) (by omega)⟩, ⟨⟨_, rfl, zin1 (by omega) (by omega)⟩, ⟨⟨_, rfl, zin1 (by omega) (by omega)⟩, ⟨⟨_, rfl, zin1 (by omega) (by omega)⟩, trivial⟩⟩⟩⟩ ⟨⟨_, _, rfl, rfl, by first | omega | (simp only; omega)⟩, ⟨⟨_, _, rfl, rfl, by first | omega | (simp only; omega)⟩, ⟨⟨_, _, rfl, rfl, by first | omega | (simp only; omega)⟩, ⟨⟨_, _, rfl, rfl, by first | omega | (simp only; omega)⟩, trivial⟩⟩⟩⟩)
            · have hk : w 52 = w 53 := hR (1, [52, 53], []) (List.mem_of_getElem? (i := 83) rfl)
              exact zpLc4r16_ gh hg w hR ws0 u ls st ws H locs (zref hG ⟨⟨_, rfl, zin1 (by omega) (by omega)⟩, ⟨⟨_, rfl, zin1 (by omega) (by omega)⟩, ⟨⟨_, rfl, zin1 (by omega) (by omega)⟩, ⟨⟨_, rfl, zin1 (by omega) (by omega)⟩, trivial⟩⟩⟩⟩ ⟨⟨_, _, rfl, rfl, by first | omega | (simp only; omega)⟩, ⟨⟨_, _, rfl, rfl, by first | omega | (simp only; omega)⟩, ⟨⟨_, _, rfl, rfl, by first | omega | (simp only; omega)⟩, ⟨⟨_, _, rfl, rfl, by first | omega | (simp only; omega)⟩, trivial⟩⟩⟩⟩)
            · have hk : w 54 = w 55 := hR (1, [54, 55], []) (List.mem_of_getElem? (i := 84) rfl)
              exact zpLc4r17_ gh hg w hR ws0 u ls st ws H locs (zref hG ⟨⟨_, rfl, zin1 (by omega) (by omega)⟩, ⟨⟨_, rfl, zin1 (by omega) (by omega)⟩, ⟨⟨_, rfl, zin1 (by omega) (by omega)⟩, ⟨⟨_, rfl, zin1 (by omega) (by omega)⟩, trivial⟩⟩⟩⟩ ⟨⟨_, _, rfl, rfl, by first | omega | (simp only; omega)⟩, ⟨⟨_, _, rfl, rfl, by first | omega | (simp only; omega)⟩, ⟨⟨_, _, rfl, rfl, by first | omega | (simp only; omega)⟩, ⟨⟨_, _, rfl, rfl, by first | omega | (simp only; omega)⟩, trivial⟩⟩⟩⟩)
            · have hk : w 56 = w 57 := hR (1, [56, 57], []) (List.mem_of_getElem? (i := 85) rfl)
              exact zpLc4r18_ gh hg w hR ws0 u ls st ws H locs (zref hG ⟨⟨_, rfl, zin1 (by omega) (by omega)⟩, ⟨⟨_, rfl, zin1 (by omega) (by omega)⟩, ⟨⟨_, rfl, zin1 (by omega) (by omega)⟩, ⟨⟨_, rfl, zin1 (by omega) (by omega)⟩, trivial⟩⟩⟩⟩ ⟨⟨_, _, rfl, rfl, by first | omega | (simp only; omega)⟩, ⟨⟨_, _, rfl, rfl, by first | omega | (simp only; omega)⟩, ⟨⟨_, _, rfl, rfl, by first | omega | (simp only; omega)⟩, ⟨⟨_, _, rfl, rfl, by first | omega | (simp only; omega)⟩, trivial⟩⟩⟩⟩)
            · have hk : w 58 = w 59 := hR (1, [58, 59], []) (List.mem_of_getElem? (i := 86) rfl)
              exact zpLc4r19_ gh hg w hR ws0 u ls st ws H locs (zref hG ⟨⟨_, rfl, zin1 (by omega) (by omega)⟩, ⟨⟨_, rfl, zin1 (by omega) (by omega)⟩, ⟨⟨_, rfl, zin1 (by omega) (by omega)⟩, ⟨⟨_, rfl, zin1 (by omega) (by omega)⟩, trivial⟩⟩⟩⟩ ⟨⟨_, _, rfl, rfl, by first | omega | (simp only; omega)⟩, ⟨⟨_, _, rfl, rfl, by first | omega | (simp only; omega)⟩, ⟨⟨_, _, rfl, rfl, by first | omega | (simp only; omega)⟩, ⟨⟨_, _, rfl, rfl, by first | omega | (simp only; omega)⟩, trivial⟩⟩⟩⟩)
          · exact zpLc4row_ gh hg w hR ws0 u ls st ws H locs (zref hG ⟨⟨_, rfl, zin1 (by omega) (by omega)⟩, ⟨⟨_, rfl, zin1 (by omega) (by omega)⟩, ⟨⟨_, rfl, zin1 (by omega) (by omega)⟩, trivial⟩⟩⟩ trivial)
        · have h9 : zR3 (w 0) (w 17) (w 18) (w 19) := hR (3, [0, 17, 18, 19], []) (List.mem_of_getElem? (i := 66) rfl)
          rcases h9 with h9 | h9 | h9
          · exact zpLc5no_ gh hg w hR ws0 u ls st ws H locs (zref hG ⟨⟨_, rfl, zin1 (by omega) (by omega)⟩, ⟨⟨_, rfl, zin1 (by omega) (by omega)⟩, ⟨⟨_, rfl, zin1 (by omega) (by omega)⟩, trivial⟩⟩⟩ trivial)
          · have hb0 := zRi hR (k := 0) (List.mem_of_getElem? (i := 0) rfl)
            have hc : w 19 = 0 ∨ w 19 = 1 ∨ w 19 = 2 ∨ w 19 = 3 ∨ w 19 = 4 ∨ w 19 = 5 ∨ w 19 = 6 ∨ w 19 = 7 ∨ w 19 = 8 ∨ w 19 = 9 ∨ w 19 = 10 ∨ w 19 = 11 ∨ w 19 = 12 ∨ w 19 = 13 ∨ w 19 = 14 ∨ w 19 = 15 ∨ w 19 = 16 ∨ w 19 = 17 ∨ w 19 = 18 ∨ w 19 = 19 := by omega
            rcases hc with h8 | h8 | h8 | h8 | h8 | h8 | h8 | h8 | h8 | h8 | h8 | h8 | h8 | h8 | h8 | h8 | h8 | h8 | h8 | h8
            · have hk : w 20 = w 21 := hR (1, [20, 21], []) (List.mem_of_getElem? (i := 67) rfl)
              exact zpLc5r0_ gh hg w hR ws0 u ls st ws H locs (zref hG ⟨⟨_, rfl, zin1 (by omega) (by omega)⟩, ⟨⟨_, rfl, zin1 (by omega) (by omega)⟩, ⟨⟨_, rfl, zin1 (by omega) (by omega)⟩, ⟨⟨_, rfl, zin1 (by omega) (by omega)⟩, trivial⟩⟩⟩⟩ ⟨⟨_, _, rfl, rfl, by first | omega | (simp only; omega)⟩, ⟨⟨_, _, rfl, rfl, by first | omega | (simp only; omega)⟩, ⟨⟨_, _, rfl, rfl, by first | omega | (simp only; omega)⟩, ⟨⟨_, _, rfl, rfl, by first | omega | (simp only; omega)⟩, trivial⟩⟩⟩⟩)
            · have hk : w 22 = w 23 := hR (1, [22, 23], []) (List.mem_of_getElem? (i := 68) rfl)
              exact zpLc5r1_ gh hg w hR ws0 u ls st ws H locs (zref hG ⟨⟨_, rfl, zin1 (by omega) (by omega)⟩, ⟨⟨_, rfl, zin1 (by omega) (by omega)⟩, ⟨⟨_, rfl, zin1 (by omega) (by omega)⟩, ⟨⟨_, rfl, zin1 (by omega) (by omega)⟩, trivial⟩⟩⟩⟩ ⟨⟨_, _, rfl, rfl, by first | omega | (simp only; omega)⟩, ⟨⟨_, _, rfl, rfl, by first | omega | (simp only; omega)⟩, ⟨⟨_, _, rfl, rfl, by first | omega | (simp only; omega)⟩, ⟨⟨_, _, rfl, rfl, by first | omega | (simp only; omega)⟩, trivial⟩⟩⟩⟩)
            · have hk : w 24 = w 25 := hR (1, [24, 25], []) (List.mem_of_getElem? (i := 69) rfl)
              exact zpLc5r2_ gh hg w hR ws0 u ls st ws H locs (zref hG ⟨⟨_, rfl, zin1 (by omega) (by omega)⟩, ⟨⟨_, rfl, zin1 (by omega) (by omega)⟩, ⟨⟨_, rfl, zin1 (by omega) (by omega)⟩, ⟨⟨_, rfl, zin1 (by omega) (by omega)⟩, trivial⟩⟩⟩⟩ ⟨⟨_, _, rfl, rfl, by first | omega | (simp only; omega)⟩, ⟨⟨_, _, rfl, rfl, by first | omega | (simp only; omega)⟩, ⟨⟨_, _, rfl, rfl, by first | omega | (simp only; omega)⟩, ⟨⟨_, _, rfl, rfl, by first | omega | (simp only; omega)⟩, trivial⟩⟩⟩⟩)
            · have hk : w 26 = w 27 := hR (1, [26, 27], []) (List.mem_of_getElem? (i := 70) rfl)
              exact zpLc5r3_ gh hg w hR ws0 u ls st ws H locs (zref hG ⟨⟨_, rfl, zin1 (by omega) (by omega)⟩, ⟨⟨_, rfl, zin1 (by omega) (by omega)⟩, ⟨⟨_, rfl, zin1 (by omega) (by omega)⟩, ⟨⟨_, rfl, zin1 (by omega) (by omega)⟩, trivial⟩⟩⟩⟩ ⟨⟨_, _, rfl, rfl, by first | omega | (simp only; omega)⟩, ⟨⟨_, _, rfl, rfl, by first | omega | (simp only; omega)⟩, ⟨⟨_, _, rfl, rfl, by first | omega | (simp only; omega)⟩, ⟨⟨_, _, rfl, rfl, by first | omega | (simp only; omega)⟩, trivial⟩⟩⟩⟩)
            · have hk : w 28 = w 29 := hR (1, [28, 29], []) (List.mem_of_getElem? (i := 71) rfl)
              exact zpLc5r4_ gh hg w hR ws0 u ls st ws H locs (zref hG ⟨⟨_, rfl, zin1 (by omega) (by omega)⟩, ⟨⟨_, rfl, zin1 (by omega) (by omega)⟩, ⟨⟨_, rfl, zin1 (by omega) (by omega)⟩, ⟨⟨_, rfl, zin1 (by omega) (by omega)⟩, trivial⟩⟩⟩⟩ ⟨⟨_, _, rfl, rfl, by first | omega | (simp only; omega)⟩, ⟨⟨_, _, rfl, rfl, by first | omega | (simp only; omega)⟩, ⟨⟨_, _, rfl, rfl, by first | omega | (simp only; omega)⟩, ⟨⟨_, _, rfl, rfl, by first | omega | (simp only; omega)⟩, trivial⟩⟩⟩⟩)
            · have hk : w 30 = w 31 := hR (1, [30, 31], []) (List.mem_of_getElem? (i := 72) rfl)
              exact zpLc5r5_ gh hg w hR ws0 u ls st ws H locs (zref hG ⟨⟨_, rfl, zin1 (by omega) (by omega)⟩, ⟨⟨_, rfl, zin1 (by omega) (by omega)⟩, ⟨⟨_, rfl, zin1 (by omega) (by omega)⟩, ⟨⟨_, rfl, zin1 (by omega) (by omega)⟩, trivial⟩⟩⟩⟩ ⟨⟨_, _, rfl, rfl, by first | omega | (simp only; omega)⟩, ⟨⟨_, _, rfl, rfl, by first | omega | (simp only; omega)⟩, ⟨⟨_, _, rfl, rfl, by first | omega | (simp only; omega)⟩, ⟨⟨_, _, rfl, rfl, by first | omega | (simp only; omega)⟩, trivial⟩⟩⟩⟩)
            · have hk : w 32 = w 33 := hR (1, [32, 33], []) (List.mem_of_getElem? (i := 73) rfl)
              exact zpLc5r6_ gh hg w hR ws0 u ls st ws H locs (zref hG ⟨⟨_, rfl, zin1 (by omega) (by omega)⟩, ⟨⟨_, rfl, zin1 (by omega) (by omega)⟩, ⟨⟨_, rfl, zin1 (by omega) (by omega)⟩, ⟨⟨_, rfl, zin1 (by omega) (by omega)⟩, trivial⟩⟩⟩⟩ ⟨⟨_, _, rfl, rfl, by first | omega | (simp only; omega)⟩, ⟨⟨_, _, rfl, rfl, by first | omega | (simp only; omega)⟩, ⟨⟨_, _, rfl, rfl, by first | omega | (simp only; omega)⟩, ⟨⟨_, _, rfl, rfl, by first | omega | (simp only; omega)⟩, trivial⟩⟩⟩⟩)
            · have hk : w 34 = w 35 := hR (1, [34, 35], []) (List.mem_of_getElem? (i := 74) rfl)
              exact zpLc5r7_ gh hg w hR ws0 u ls st ws H locs (zref hG ⟨⟨_, rfl, zin1 (by omega) (by omega)⟩, ⟨⟨_, rfl, zin1 (by omega) (by omega)⟩, ⟨⟨_, rfl, zin1 (by omega) (by omega)⟩, ⟨⟨_, rfl, zin1 (by omega) (by omega)⟩, trivial⟩⟩⟩⟩ ⟨⟨_, _, rfl, rfl, by first | omega | (simp only; omega)⟩, ⟨⟨_, _, rfl, rfl, by first | omega | (simp only; omega)⟩, ⟨⟨_, _, rfl, rfl, by first | omega | (simp only; omega)⟩, ⟨⟨_, _, rfl, rfl, by first | omega | (simp only; omega)⟩, trivial⟩⟩⟩⟩)
            · have hk : w 36 = w 37 := hR (1, [36, 37], []) (List.mem_of_getElem? (i := 75) rfl)
              exact zpLc5r8_ gh hg w hR ws0 u ls st ws H locs (zref hG ⟨⟨_, rfl, zin1 (by omega) (by omega)⟩, ⟨⟨_, rfl, zin1 (by omega) (by omega)⟩, ⟨⟨_, rfl, zin1 (by omega) (by omega)⟩, ⟨⟨_, rfl, zin1 (by omega) (by omega)⟩, trivial⟩⟩⟩⟩ ⟨⟨_, _, rfl, rfl, by first | omega | (simp only; omega)⟩, ⟨⟨_, _, rfl, rfl, by first | omega | (simp only; omega)⟩, ⟨⟨_, _, rfl, rfl, by first | omega | (simp only; omega)⟩, ⟨⟨_, _, rfl, rfl, by first | omega | (simp only; omega)⟩, trivial⟩⟩⟩⟩)
            · have hk : w 38 = w 39 := hR (1, [38, 39], []) (List.mem_of_getElem? (i := 76) rfl)
              exact zpLc5r9_ gh hg w hR ws0 u ls st ws H locs (zref hG ⟨⟨_, rfl, zin1 (by omega) (by omega)⟩, ⟨⟨_, rfl, zin1 (by omega) (by omega)⟩, ⟨⟨_, rfl, zin1 (by omega) (by omega)⟩, ⟨⟨_, rfl, zin1 (by omega) (by omega)⟩, trivial⟩⟩⟩⟩ ⟨⟨_, _, rfl, rfl, by first | omega | (simp only; omega)⟩, ⟨⟨_, _, rfl, rfl, by first | omega | (simp only; omega)⟩, ⟨⟨_, _, rfl, rfl, by first | omega | (simp only; omega)⟩, ⟨⟨_, _, rfl, rfl, by first | omega | (simp only; omega)⟩, trivial⟩⟩⟩⟩)
            · have hk : w 40 = w 41 := hR (1, [40, 41], []) (List.mem_of_getElem? (i := 77) rfl)
              exact zpLc5r10_ gh hg w hR ws0 u ls st ws H locs (zref hG ⟨⟨_, rfl, zin1 (by omega) (by omega)⟩, ⟨⟨_, rfl, zin1 (by omega) (by omega)⟩, ⟨⟨_, rfl, zin1 (by omega) (by omega)⟩, ⟨⟨_, rfl, zin1 (by omega) (by omega)⟩, trivial⟩⟩⟩⟩ ⟨⟨_, _, rfl, rfl, by first | omega | (simp only; omega)⟩, ⟨⟨_, _, rfl, rfl, by first | omega | (simp only; omega)⟩, ⟨⟨_, _, rfl, rfl, by first | omega | (simp only; omega)⟩, ⟨⟨_, _, rfl, rfl, by first | omega | (simp only; omega)⟩, trivial⟩⟩⟩⟩)
            · have hk : w 42 = w 43 := hR (1, [42, 43], []) (List.mem_of_getElem? (i := 78) rfl)
              exact zpLc5r11_ gh hg w hR ws0 u ls st ws H locs (zref hG ⟨⟨_, rfl, zin1 (by omega) (by omega)⟩, ⟨⟨_, rfl, zin1 (by omega) (by omega)⟩, ⟨⟨_, rfl, zin1 (by omega) (by omega)⟩, ⟨⟨_, rfl, zin1 (by omega) (by omega)⟩, trivial⟩⟩⟩⟩ ⟨⟨_, _, rfl, rfl, by first | omega | (simp only; omega)⟩, ⟨⟨_, _, rfl, rfl, by first | omega | (simp only; omega)⟩, ⟨⟨_, _, rfl, rfl, by first | omega | (simp only; omega)⟩, ⟨⟨_, _, rfl, rfl, by first | omega | (simp only; omega)⟩, trivial⟩⟩⟩⟩)
            · have hk : w 44 = w 45 := hR (1, [44, 45], []) (List.mem_of_getElem? (i := 79) rfl)
              exact zpLc5r12_ gh hg w hR ws0 u ls st ws H locs (zref hG ⟨⟨_, rfl, zin1 (by omega) (by omega)⟩, ⟨⟨_, rfl, zin1 (by omega) (by omega)⟩, ⟨⟨_, rfl, zin1 (by omega) (by omega)⟩, ⟨⟨_, rfl, zin1 (by omega) (by omega)⟩, trivial⟩⟩⟩⟩ ⟨⟨_, _, rfl, rfl, by first | omega | (simp only; omega)⟩, ⟨⟨_, _, rfl, rfl, by first | omega | (simp only; omega)⟩, ⟨⟨_, _, rfl, rfl, by first | omega | (simp only; omega)⟩, ⟨⟨_, _, rfl, rfl, by first | omega | (simp only; omega)⟩, trivial⟩⟩⟩⟩)
            · have hk : w 46 = w 47 := hR (1, [46, 47], []) (List.mem_of_getElem? (i := 80) rfl)
              exact zpLc5r13_ gh hg w hR ws0 u ls st ws H locs (zref hG ⟨⟨_, rfl, zin1 (by omega) (by omega)⟩, ⟨⟨_, rfl, zin1 (by omega) (by omega)⟩, ⟨⟨_, rfl, zin1 (by omega) (by omega)⟩, ⟨⟨_, rfl, zin1 (by omega) (by omega)⟩, trivial⟩⟩⟩⟩ ⟨⟨_, _, rfl, rfl, by first | omega | (simp only; omega)⟩, ⟨⟨_, _, rfl, rfl, by first | omega | (simp only; omega)⟩, ⟨⟨_, _, rfl, rfl, by first | omega | (simp only; omega)⟩, ⟨⟨_, _, rfl, rfl, by first | omega | (simp only; omega)⟩, trivial⟩⟩⟩⟩)
            · have hk : w 48 = w 49 := hR (1, [48, 49], []) (List.mem_of_getElem? (i := 81) rfl)
              exact zpLc5r14_ gh hg w hR ws0 u ls st ws H locs (zref hG ⟨⟨_, rfl, zin1 (by omega) (by omega)⟩, ⟨⟨_, rfl, zin1 (by omega) (by omega)⟩, ⟨⟨_, rfl, zin1 (by omega) (by omega)⟩, ⟨⟨_, rfl, zin1 (by omega) (by omega)⟩, trivial⟩⟩⟩⟩ ⟨⟨_, _, rfl, rfl, by first | omega | (simp only; omega)⟩, ⟨⟨_, _, rfl, rfl, by first | omega | (simp only; omega)⟩, ⟨⟨_, _, rfl, rfl, by first | omega | (simp only; omega)⟩, ⟨⟨_, _, rfl, rfl, by first | omega | (simp only; omega)⟩, trivial⟩⟩⟩⟩)
            · have hk : w 50 = w 51 := hR (1, [50, 51], []) (List.mem_of_getElem? (i := 82) rfl)
              exact zpLc5r15_ gh hg w hR ws0 u ls st ws H locs (zref hG ⟨⟨_, rfl, zin1 (by omega) (by omega)⟩, ⟨⟨_, rfl, zin1 (by omega) (by omega)⟩, ⟨⟨_, rfl, zin1 (by omega) (by omega)⟩, ⟨⟨_, rfl, zin1 (by omega) (by omega)⟩, trivial⟩⟩⟩⟩ ⟨⟨_, _, rfl, rfl, by first | omega | (simp only; omega)⟩, ⟨⟨_, _, rfl, rfl, by first | omega | (simp only; omega)⟩, ⟨⟨_, _, rfl, rfl, by first | omega | (simp only; omega)⟩, ⟨⟨_, _, rfl, rfl, by first | omega | (simp only; omega)⟩, trivial⟩⟩⟩⟩)
            · have hk : w 52 = w 53 := hR (1, [52, 53], []) (List.mem_of_getElem? (i := 83) rfl)
              exact zpLc5r16_ gh hg w hR ws0 u ls st ws H locs (zref hG ⟨⟨_, rfl, zin1 (by omega) (by omega)⟩, ⟨⟨_, rfl, zin1 (by omega) (by omega)⟩, ⟨⟨_, rfl, zin1 (by omega) (by omega)⟩, ⟨⟨_, rfl, zin1 (by omega) (by omega)⟩, trivial⟩⟩⟩⟩ ⟨⟨_, _, rfl, rfl, by first | omega | (simp only; omega)⟩, ⟨⟨_, _, rfl, rfl, by first | omega | (simp only; omega)⟩, ⟨⟨_, _, rfl, rfl, by first | omega | (simp only; omega)⟩, ⟨⟨_, _, rfl, rfl, by first | omega | (simp only; omega)⟩, trivial⟩⟩⟩⟩)
            · have hk : w 54 = w 55 := hR (1, [54, 55], []) (List.mem_of_getElem? (i := 84) rfl)
              exact zpLc5r17_ gh hg w hR ws0 u ls st ws H locs (zref hG ⟨⟨_, rfl, zin1 (by omega) (by omega)⟩, ⟨⟨_, rfl, zin1 (by omega) (by omega)⟩, ⟨⟨_, rfl, zin1 (by omega) (by omega)⟩, ⟨⟨_, rfl, zin1 (by omega) (by omega)⟩, trivial⟩⟩⟩⟩ ⟨⟨_, _, rfl, rfl, by first | omega | (simp only; omega)⟩, ⟨⟨_, _, rfl, rfl, by first | omega | (simp only; omega)⟩, ⟨⟨_, _, rfl, rfl, by first | omega | (simp only; omega)⟩, ⟨⟨_, _, rfl, rfl, by first | omega | (simp only; omega)⟩, trivial⟩⟩⟩⟩)
            · have hk : w 56 = w 57 := hR (1, [56, 57], []) (List.mem_of_getElem? (i := 85) rfl)
              exact zpLc5r18_ gh hg w hR ws0 u ls st ws H locs (zref hG ⟨⟨_, rfl, zin1 (by omega) (by omega)⟩, ⟨⟨_, rfl, zin1 (by omega) (by omega)⟩, ⟨⟨_, rfl, zin1 (by omega) (by omega)⟩, ⟨⟨_, rfl, zin1 (by omega) (by omega)⟩, trivial⟩⟩⟩⟩ ⟨⟨_, _, rfl, rfl, by first | omega | (simp only; omega)⟩, ⟨⟨_, _, rfl, rfl, by first | omega | (simp only; omega)⟩, ⟨⟨_, _, rfl, rfl, by first | omega | (simp only; omega)⟩, ⟨⟨_, _, rfl, rfl, by first | omega | (simp only; omega)⟩, trivial⟩⟩⟩⟩)
            · have hk : w 58 = w 59 := hR (1, [58, 59], []) (List.mem_of_getElem? (i := 86) rfl)
              exact zpLc5r19_ gh hg w hR ws0 u ls st ws H locs (zref hG ⟨⟨_, rfl, zin1 (by omega) (by omega)⟩, ⟨⟨_, rfl, zin1 (by omega) (by omega)⟩, ⟨⟨_, rfl, zin1 (by omega) (by omega)⟩, ⟨⟨_, rfl, zin1 (by omega) (by omega)⟩, trivial⟩⟩⟩⟩ ⟨⟨_, _, rfl, rfl, by first | omega | (simp only; omega)⟩, ⟨⟨_, _, rfl, rfl, by first | omega | (simp only; omega)⟩, ⟨⟨_, _, rfl, rfl, by first | omega | (simp only; omega)⟩, ⟨⟨_, _, rfl, rfl, by first | omega | (simp only; omega)⟩, trivial⟩⟩⟩⟩)
          · exact zpLc5row_ gh hg w hR ws0 u ls st ws H locs (zref hG ⟨⟨_, rfl, zin1 (by omega) (by omega)⟩, ⟨⟨_, rfl, zin1 (by omega) (by omega)⟩, ⟨⟨_, rfl, zin1 (by omega) (by omega)⟩, trivial⟩⟩⟩ trivial)
      have sY : ∀ a ∈ zpLY, zStop p l e s m below meth c b L xs D tys A ad (lw_Z below #[Value.ref b] s) ce sl i a.1 a.2.1.2 := List.forall_mem_cons.mpr ⟨sa0, List.forall_mem_cons.mpr ⟨sa1, List.forall_mem_cons.mpr ⟨sa2, List.forall_mem_cons.mpr ⟨sa3, List.forall_mem_cons.mpr ⟨sa4, List.forall_mem_cons.mpr ⟨sa5, List.forall_mem_cons.mpr ⟨sa6, List.forall_mem_cons.mpr ⟨sa7, List.forall_mem_cons.mpr ⟨sa8, List.forall_mem_cons.mpr ⟨sa9, List.forall_mem_cons.mpr ⟨sa10, List.forall_mem_cons.mpr ⟨sa11, List.forall_mem_cons.mpr ⟨sa12, List.forall_mem_cons.mpr ⟨sa13, List.forall_mem_cons.mpr ⟨sa14, List.forall_mem_cons.mpr ⟨sa15, List.forall_mem_cons.mpr ⟨sa16, List.forall_mem_cons.mpr ⟨sa17, List.forall_mem_cons.mpr ⟨sa18, List.forall_mem_cons.mpr ⟨sa19, List.forall_mem_cons.mpr ⟨sa20, List.forall_mem_cons.mpr ⟨sa21, List.forall_mem_cons.mpr ⟨sa22, List.forall_mem_cons.mpr ⟨sa23, List.forall_mem_cons.mpr ⟨sa24, List.forall_mem_cons.mpr ⟨sa25, List.forall_mem_cons.mpr ⟨sa26, List.forall_mem_cons.mpr ⟨sa27, List.forall_mem_cons.mpr ⟨sa28, List.forall_mem_cons.mpr ⟨sa29, List.forall_mem_cons.mpr ⟨sa30, List.forall_mem_cons.mpr ⟨sa31, List.forall_mem_cons.mpr ⟨sa32, List.forall_mem_cons.mpr ⟨sa33, List.forall_mem_cons.mpr ⟨sa34, List.forall_mem_cons.mpr ⟨sa35, List.forall_mem_cons.mpr ⟨sa36, List.forall_mem_cons.mpr ⟨sa37, List.forall_mem_cons.mpr ⟨sE zpLS List.mem_cons_self, fun _ h => absurd h List.not_mem_nil⟩⟩⟩⟩⟩⟩⟩⟩⟩⟩⟩⟩⟩⟩⟩⟩⟩⟩⟩⟩⟩⟩⟩⟩⟩⟩⟩⟩⟩⟩⟩⟩⟩⟩⟩⟩⟩⟩⟩
      have s27 := zseg (p := p) (l := l) (e := e) (below := below) (Q := lw_Z below #[Value.ref b] s) C0 hK hro had hbA hL hi5 hcs' zmets_nil zpLs sY
      obtain ⟨hD0, w, hwt, hR⟩ := hDK
      obtain ⟨u, hG⟩ := zstop_G (D := D) (tys := tys) (A := A) (s := s) (xs := xs) hg had hL hi5 hl hP hD hS hW hD0 hwt hR
      exact s27 gh hg w hR ws u ls [] ws H locs hG
end ZLP
