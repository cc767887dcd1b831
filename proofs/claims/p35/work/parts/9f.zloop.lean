/-! THE LAW'S LOOP, with watched numbers -/
def zgok (gh : Nat → Int) : Prop := gh 0 = 0 ∧ (0 ≤ gh 1 ∧ gh 1 ≤ 40) ∧ gh 2 = -1 ∧ gh 3 = 10
def znuL (gh : Nat → Int) (L i : Nat) (xs : Nat → Int32) : List Int := [gh 0, gh 1, gh 2, gh 3, (L : Int), (i : Int), (xs (i + 0)).toInt, (xs (i + 1)).toInt, (xs (i + 2)).toInt, (xs (i + 3)).toInt, (xs (i + 4)).toInt, (xs (i + 5)).toInt]
def zDK0 (ws : va_W) : Prop := ∃ dn kp : Int32, zfv ws 90 5 = some (.int dn) ∧ zfv ws 90 4 = some (.int kp) ∧ 0 ≤ dn.toInt ∧ dn.toInt ≤ kp.toInt ∧ kp.toInt ≤ 40
def zwv (w : Nat → Int) : List Int := [w 0, w 1, w 2, w 3, w 4, w 5, w 6, w 7, w 8, w 9, w 10, w 11, w 12, w 13, w 14, w 15, w 16, w 17, w 18, w 19, w 20, w 21, w 22, w 23, w 24, w 25]
abbrev zR2 (h ln s mn : Int) : Prop := (h = -1 ∧ s = -1) ∨ (h = -2 ∧ 0 ≤ s ∧ s ≤ 19) ∨ (0 ≤ h ∧ h ≤ 4 ∧ s = h + 20 ∧ ln = mn)
abbrev zR3 (z h rl s : Int) : Prop := (h = -1 ∧ s = -1) ∨ (h = -2 ∧ rl = s ∧ 0 ≤ s ∧ s ≤ z - 1) ∨ (0 ≤ h ∧ h ≤ 4 ∧ 20 ≤ s ∧ s ≤ 24)
/-- the clauses: between two ends; the same; a place of rows; a place of rules; the same as far as a count goes -/
def zQk (n : Nat) (ps vs : List Int) : Prop := match n, ps, vs with
  | 0, [lo, hi], [v] => lo ≤ v ∧ v ≤ hi
  | 1, [], [a, b] => a = b
  | 2, [], [h, ln, s, mn] => zR2 h ln s mn
  | 3, [], [z, h, rl, s] => zR3 z h rl s
  | 4, [j], [n, a, b] => j < n → a = b
  | _, _, _ => False
def zR (w : Nat → Int) : Prop := ∀ c ∈ zpCl, zQk c.1 c.2.2 (c.2.1.map w)
theorem zR3_up {z h rl s : Int} (h9 : zR3 z h rl s) : zR3 (z + 1) h rl s := by
  rcases h9 with h9 | h9 | h9
  · exact Or.inl h9
  · exact Or.inr (Or.inl ⟨h9.1, h9.2.1, h9.2.2.1, by have h8 := h9.2.2.2; omega⟩)
  · exact Or.inr (Or.inr h9)
theorem zRi {w : Nat → Int} (hR : zR w) {k : Nat} {lo hi : Int} (h : (0, [k], [lo, hi]) ∈ zpCl) : lo ≤ w k ∧ w k ≤ hi := hR _ h
theorem zpClN : ∀ c ∈ zpCl, ∀ k ∈ c.2.1, k < 26 := by decide +kernel
theorem zR_of {w w2 : Nat → Int} (ch : List Nat) (hs : ∀ k : Nat, k < 26 → ch.contains k = false → w2 k = w k) (hR : zR w) (hc : ∀ c ∈ zpCl.filter (fun c => c.2.1.any (fun k => ch.contains k)), zQk c.1 c.2.2 (c.2.1.map w2)) : zR w2 := by
  intro c hcl
  cases h : c.2.1.any (fun k => ch.contains k) with
  | true => exact hc c (List.mem_filter.mpr ⟨hcl, h⟩)
  | false =>
    have e : c.2.1.map w2 = c.2.1.map w := List.map_congr_left (fun k hk => hs k (zpClN c hcl k hk) (by
      cases h9 : ch.contains k with
      | false => rfl
      | true =>
        have h8 : c.2.1.any (fun k => ch.contains k) = true := List.any_eq_true.mpr ⟨k, hk, h9⟩
        rw [h] at h8
        cases h8))
    rw [e]
    exact hR c hcl
def zWt (w : Nat → Int) (ws : va_W) : Prop := ∀ q ∈ zpWt, ∃ x : Int32, zfv ws q.2.1 q.2.2 = some (.int x) ∧ x.toInt = w q.1
def zDK (ws : va_W) : Prop := zDK0 ws ∧ ∃ w : Nat → Int, zWt w ws ∧ zR w
theorem zfullI (x : Int32) : zInIv x.toInt [(-2147483648, 2147483647)] := zFull_in x
def zSetP (nu : List Int) : List (Nat × zIv) → Prop
  | [] => True
  | q :: r => (∃ a, nu[q.1]? = some a ∧ zInIv a q.2) ∧ zSetP nu r
def zCdP (nu : List Int) : List zCd → Prop
  | [] => True
  | q :: r => (∃ x y, nu[q.1]? = some x ∧ nu[q.2.1]? = some y ∧ x ≤ y + q.2.2) ∧ zCdP nu r
theorem zsets_ok {nu : List Int} : ∀ (q : List (Nat × zIv)) (e : List zIv), zEnv e nu → zSetP nu q → zEnv (zsets q e) nu
  | [], _, h, _ => h
  | x :: r, e, h, ⟨⟨a, h1, h2⟩, h3⟩ => zsets_ok r (e.set x.1 x.2) (h.set (fun b hb => by
      rw [h1] at hb
      cases hb
      exact h2)) h3
theorem zcdp_ok {nu : List Int} : ∀ (q : List zCd), zCdP nu q → zCds q nu
  | [], _ => fun q hq => by cases hq
  | x :: r, ⟨h1, h2⟩ => fun q hq => by
    rcases List.mem_cons.mp hq with rfl | hq
    · exact h1
    · exact zcdp_ok r h2 q hq
/-- the watched numbers behind a state's facts -/
def zw2 (nu : List Int) (fa : List zFa) (k : Nat) : Int := match fa[k + 2]? with
  | some f => (nu[f.2.2.2.2.1]?).getD 0 + f.2.2.2.2.2.1
  | none => 0
def zwT (gh : Nat → Int) (L i : Nat) (xs : Nat → Int32) (w : Nat → Int) (u : List Int) (T : zS) : Nat → Int := zw2 (znuL gh L i xs ++ zwv w ++ u) T.2.2.2.2.1
theorem zwv_eq (w : Nat → Int) : zwv w = (List.range 26).map w := rfl
theorem znu_get {gh : Nat → Int} {L i : Nat} {xs : Nat → Int32} {w : Nat → Int} {u : List Int} {k : Nat} (hk : k < 26) : (znuL gh L i xs ++ zwv w ++ u)[12 + k]? = some (w k) := by
  have h12 : (znuL gh L i xs).length = 12 := rfl
  rw [List.append_assoc, List.getElem?_append_right (by rw [h12]; omega), h12, Nat.add_sub_cancel_left, List.getElem?_append_left (by rw [zwv_eq, List.length_map, List.length_range]; exact hk), zwv_eq, List.getElem?_map, List.getElem?_range hk]
  rfl
def zsmB (T : zS) (ch : List Nat) : Bool := (List.range 26).all (fun k => ch.contains k || (match T.2.2.2.2.1[k + 2]? with
  | some f => f.2.2.2.2.1 == 12 + k && decide (f.2.2.2.2.2.1 = 0)
  | none => false))
theorem zsame {T : zS} {ch : List Nat} (hB : zsmB T ch = true) {gh : Nat → Int} {L i : Nat} {xs : Nat → Int32} {w : Nat → Int} {u : List Int} : ∀ k : Nat, k < 26 → ch.contains k = false → zwT gh L i xs w u T k = w k := by
  intro k hk hc
  have h1 : (ch.contains k || (match T.2.2.2.2.1[k + 2]? with
    | some f => f.2.2.2.2.1 == 12 + k && decide (f.2.2.2.2.2.1 = 0)
    | none => false)) = true := List.all_eq_true.mp hB k (List.mem_range.mpr hk)
  rw [hc, Bool.false_or] at h1
  unfold zwT zw2
  cases hf : T.2.2.2.2.1[k + 2]? with
  | none =>
    rw [hf] at h1
    cases h1
  | some f =>
    rw [hf] at h1
    simp only [Bool.and_eq_true, beq_iff_eq, decide_eq_true_eq] at h1
    show ((znuL gh L i xs ++ zwv w ++ u)[f.2.2.2.2.1]?).getD 0 + f.2.2.2.2.2.1 = w k
    rw [h1.1, h1.2, znu_get hk]
    exact Int.add_zero _
def zf1B (o : Option zFa) (q : Int) (j n : Nat) : Bool := match o with
  | some f => f.1 == 0 && (decide (f.2.1 = q) && (f.2.2.1 == j && decide (f.2.2.2 = (1, n, 0, 0, 0))))
  | none => false
theorem zf1B_ok {o : Option zFa} {q : Int} {j n : Nat} (h : zf1B o q j n = true) : o = some (0, q, j, (1, n, 0, 0, 0)) := by
  unfold zf1B at h
  split at h
  · rename_i f
    obtain ⟨a, b, c, d⟩ := f
    simp only [Bool.and_eq_true, beq_iff_eq, decide_eq_true_eq] at h
    obtain ⟨h1, h2, h3, h4⟩ := h
    rw [h1, h2, h3, h4]
  · cases h
def zTokB (T : zS) : Bool := decide ((38, 39, 0) ∈ T.2.1) && (decide (T.2.2.1 = zpLS.2.2.1) && (decide (T.2.2.2.1 = []) && (zf1B T.2.2.2.2.1[0]? 90 5 38 && (zf1B T.2.2.2.2.1[1]? 90 4 39 && (decide (zlo T.1 38 = 0) && (decide (zhi T.1 39 = 40) && zpWt.all (fun q => match T.2.2.2.2.1[q.1 + 2]? with
  | some f => f.1 == 0 && (decide (f.2.1 = (q.2.1 : Int)) && (f.2.2.1 == q.2.2 && f.2.2.2.1 == 1))
  | none => false)))))))
section ZLP
variable {p : Program} {l : Launch} {e : Env} {s : State} {m : MethodId} {below : List Frame} {meth : Method} {c : Code} {b L : Nat} {xs : Nat → Int32} {D : va_G} {tys : List (ClassId × FieldType)} {A : Nat → Prop} {ad : Nat → Nat} {Q : State → Prop} {ce sl : Nat}
theorem zlawX (C0 : lw_At p s m meth c b L xs) (hK : va_K D zpcl tys s) (hro : zpRO ad A s s.heap) {CS : List zC} (hCS : ∀ C ∈ CS, zMet l zpTs zpcl zpZ zpRO (zKof zpMT C)) {gh : Nat → Int} (h0 : gh 0 = 0) {nuE : List Int} (hlen : nuE.length = 38) (hcs : ce ≤ room_1.cells ∧ sl ≤ room_1.slots) (ws0 : va_W) : zCtx p l e room_1 s m #[Value.ref b] below meth c code "PushedInLaw" 4 zpTs zpRO zpcl zpZ zpRS zpPL zpMT CS zpLC D tys A ad gh ws0 nuE s.heap ce sl Q := by
  obtain ⟨hx, hb, hr, hml, hown, hts0, hX, hbl, hlocks, -⟩ := C0
  have hts : ∀ w ∈ zpTs, w.before #[Value.ref b] s = true := fun w hw => hts0 w (List.mem_filter.mp hw).1
  obtain ⟨q1, q2, q3, q4, q5, q6⟩ := zpKL
  refine ⟨⟨hx, hb, ⟨by decide, h0⟩, hml, rfl, hown⟩, ⟨hts, zTs_good, hK, zROx_ok, hro, zpDj, hlocks⟩, ⟨hlen.symm, ⟨Nat.le_refl _, Nat.le_refl _⟩⟩, ⟨fun f hf => ?_, fun f hf h2 => ?_, fun q hq => ⟨(q2 q hq).1, (q2 q hq).2.1, hts _ (q2 q hq).2.2⟩, fun q hq => ⟨(q3 q hq).1, (q3 q hq).2.1, hts _ (q3 q hq).2.2⟩, fun q hq => ?_⟩, fun q hq pc H locs ls rest hd hS kk => ?_, fun q hq pc H locs ls rest hd hS kk => ?_, fun q hq h3 => absurd h3 ((by decide : ∀ q ∈ zpPL.2.2.2.1, q.2.1 ≠ 3) q hq), fun i tb hi pc H locs ls rest x hd hS hin kk => ?_, hCS, hcs, fun nu0 rc2 pc len sg su hE2 hz d0 d1 d2 => by rw [zpLC, zi_ret_nil] at hz; cases hz⟩
  · cases hf
  · cases hf
  · obtain ⟨g1, g2, g3, -, g4⟩ := q4 q hq
    refine ⟨g1, g2, fun z Cc hCc => ?_, g4⟩
    obtain ⟨k1, host, k2⟩ := g3 z Cc hCc
    exact ⟨k1, host, k2 ad A s s.heap hro⟩
  · exact q5 q hq p l e _ s m _ below meth c _ _ A ad pc H locs ls rest _ _ hx hb hown hts hro hd hS kk
  · exact q6 q hq p l e _ s m _ below meth c _ _ A ad pc H locs ls rest _ _ hx hb hown hts hro hd hS kk
  · exact zpHyp.2.2.1 i tb hi p l e _ s m _ below meth c _ _ A ad pc H locs ls rest _ _ x hx hb hro hd hS hin kk
/-- from a stop on -/
def zStop (p : Program) (l : Launch) (e : Env) (s : State) (m : MethodId) (below : List Frame) (meth : Method) (c : Code) (b L : Nat) (xs : Nat → Int32) (D : va_G) (tys : List (ClassId × FieldType)) (A : Nat → Prop) (ad : Nat → Nat) (Q : State → Prop) (ce sl i pc : Nat) (T : zS) : Prop := ∀ (gh : Nat → Int), zgok gh → ∀ (w : Nat → Int), zR w → ∀ (ws0 : va_W) (u : List Int) (ls : Array Slot) (st : List Value) (ws : va_W) (H : Heap) (locs : List Loc), zG zpZ D zpcl tys A ad gh zpLW s.heap ws0 (znuL gh L i xs ++ zwv w ++ u) 4 T (znuL gh L i xs ++ zwv w ++ u) ls st ws H locs → W p l e room_1 s m #[Value.ref b] below meth c H locs ce sl Q (F0 m pc ls st)
theorem zseg (C0 : lw_At p s m meth c b L xs) (hK : va_K D zpcl tys s) (hro : zpRO ad A s s.heap) (had : ad 3000 = b) (hbA : ¬ A b) (hL : L ≤ 384) {i : Nat} (hi : i + 5 < L) (hcs : ce ≤ room_1.cells ∧ sl ≤ room_1.slots) {CS : List zC} (hCS : ∀ C ∈ CS, zMet l zpTs zpcl zpZ zpRO (zKof zpMT C)) {ann : zAnn} {f pc : Nat} {T : zS} (hr : zrunL zpZ zpRS zpPL zpMT CS zpLC code ann f pc T = true) (hann : ∀ a ∈ ann, zStop p l e s m below meth c b L xs D tys A ad Q ce sl i a.1 a.2.1.2) : zStop p l e s m below meth c b L xs D tys A ad Q ce sl i pc T := by
  intro gh hg w hR ws0 u ls st ws H locs hG
  have X := zlawX (p := p) (l := l) (e := e) (below := below) (Q := Q) (CS := CS) C0 hK hro hCS (gh := gh) hg.1 (nuE := znuL gh L i xs ++ zwv w) rfl hcs ws0
  obtain ⟨hx, hb, hr', hml, hown, hts0, hX, hbl, hlocks, -⟩ := C0
  have hGE : ∀ g, g < zpZ.2.2 → (znuL gh L i xs ++ zwv w)[g]? = some (gh g) := fun g h4 => by
    have h4 : g < 4 := h4
    match g, h4 with
    | 0, _ => rfl
    | 1, _ => rfl
    | 2, _ => rfl
    | 3, _ => rfl
  refine zrunL_ok X hGE ⟨u, rfl⟩ (fun a ha nu' hE _ ls st ws H locs hG => ?_) (Ln := L) (i0 := i) (xs := xs) (by rw [had]; exact hX) (by rw [had]; exact hbl) (by rw [had]; exact hbA) rfl hi hL (fun k hk => ?_) f pc _ hr _ ls st ws H locs hG
  · obtain ⟨u', rfl⟩ := hE
    exact hann a ha gh hg w hR ws0 u' ls st ws H locs hG
  · match k, hk with
    | 0, _ => rfl
    | 1, _ => rfl
    | 2, _ => rfl
    | 3, _ => rfl
    | 4, _ => rfl
    | 5, _ => rfl
/-- a case of the watched numbers -/
theorem zref {q : List (Nat × zIv)} {cd : List zCd} {gh : Nat → Int} {ws0 ws : va_W} {nu0 nu : List Int} {ls : Array Slot} {st : List Value} {H : Heap} {locs : List Loc} (hG : zG zpZ D zpcl tys A ad gh zpLW s.heap ws0 nu0 4 zpLS nu ls st ws H locs) (h1 : zSetP nu q) (h2 : zCdP nu cd) : zG zpZ D zpcl tys A ad gh zpLW s.heap ws0 nu0 4 (zpLr q cd) nu ls st ws H locs := by
  obtain ⟨hH, ⟨n1, n2, n3, n4⟩, hL, hS, hF, hM⟩ := hG
  refine ⟨hH, ⟨zsets_ok q _ n1 h1, fun x hx => ?_, n3, n4⟩, hL, hS, hF, hM⟩
  rcases List.mem_append.mp hx with h | h
  · exact zcdp_ok cd h2 x h
  · exact n2 x h
/-- the stop's state, out of the world -/
theorem zstop_G {gh : Nat → Int} (hg : zgok gh) (had : ad 3000 = b) (hL : L ≤ 384) {i : Nat} (hi : i + 5 < L) {ls : Array Slot} {ws : va_W} {H : Heap} {locs : List Loc} (hl : lv_has ls 4 [(3, .int (Int32.ofNat i)), (2, .ref (ad 90)), (1, .ref (ad 0)), (0, .ref b)]) (hP : va_P D zpcl ws H) (hD : va_D A ws) (hS : va_S A s.heap H locs) (hW : zW zpZ ad gh tys ws) (hD0 : zDK0 ws) {w : Nat → Int} (hwt : zWt w ws) (hR : zR w) : ∃ u, zG zpZ D zpcl tys A ad gh zpLW s.heap ws (znuL gh L i xs ++ zwv w ++ u) 4 zpLS (znuL gh L i xs ++ zwv w ++ u) ls [] ws H locs := by
  obtain ⟨dn, kp, k1, k2, k3, k4, k5⟩ := hD0
  obtain ⟨g0, g1, g2, g3⟩ := hg
  have hi3 : (Int32.ofNat i).toInt = (i : Int) := Int32.toInt_ofNat_of_lt (by omega)
  refine ⟨[dn.toInt, kp.toInt], ⟨hP, hD, hS, hW, fun _ _ _ => rfl⟩, ⟨⟨rfl, fun j iv hj => ?_⟩, fun q hq => ?_, fun g h4 => ?_, ⟨[], by rw [List.append_nil]⟩⟩, ⟨hl.1, rfl, hl.2.1, fun j a hj ha => ?_⟩, trivial, fun f hf => ?_, fun q hq => by cases hq⟩
  · match j, hj with
    | 0, hj => cases hj; exact ⟨_, rfl, zin1 (by omega) (by omega)⟩
    | 1, hj => cases hj; exact ⟨_, rfl, zin1 (by omega) (by omega)⟩
    | 2, hj => cases hj; exact ⟨_, rfl, zin1 (by omega) (by omega)⟩
    | 3, hj => cases hj; exact ⟨_, rfl, zin1 (by omega) (by omega)⟩
    | 4, hj => cases hj; exact ⟨_, rfl, zin1 (by omega) (by omega)⟩
    | 5, hj => cases hj; exact ⟨_, rfl, zin1 (by omega) (by omega)⟩
    | 6, hj => cases hj; exact ⟨_, rfl, zfullI _⟩
    | 7, hj => cases hj; exact ⟨_, rfl, zfullI _⟩
    | 8, hj => cases hj; exact ⟨_, rfl, zfullI _⟩
    | 9, hj => cases hj; exact ⟨_, rfl, zfullI _⟩
    | 10, hj => cases hj; exact ⟨_, rfl, zfullI _⟩
    | 11, hj => cases hj; exact ⟨_, rfl, zfullI _⟩
    | 12, hj => cases hj; exact ⟨_, rfl, zin1 (zRi hR (k := 0) (List.mem_of_getElem? (i := 0) rfl)).1 (zRi hR (k := 0) (List.mem_of_getElem? (i := 0) rfl)).2⟩
    | 13, hj => cases hj; exact ⟨_, rfl, zin1 (zRi hR (k := 1) (List.mem_of_getElem? (i := 1) rfl)).1 (zRi hR (k := 1) (List.mem_of_getElem? (i := 1) rfl)).2⟩
    | 14, hj => cases hj; exact ⟨_, rfl, zin1 (zRi hR (k := 2) (List.mem_of_getElem? (i := 2) rfl)).1 (zRi hR (k := 2) (List.mem_of_getElem? (i := 2) rfl)).2⟩
    | 15, hj => cases hj; exact ⟨_, rfl, zin1 (zRi hR (k := 3) (List.mem_of_getElem? (i := 3) rfl)).1 (zRi hR (k := 3) (List.mem_of_getElem? (i := 3) rfl)).2⟩
    | 16, hj => cases hj; exact ⟨_, rfl, zin1 (zRi hR (k := 4) (List.mem_of_getElem? (i := 4) rfl)).1 (zRi hR (k := 4) (List.mem_of_getElem? (i := 4) rfl)).2⟩
    | 17, hj => cases hj; exact ⟨_, rfl, zin1 (zRi hR (k := 5) (List.mem_of_getElem? (i := 5) rfl)).1 (zRi hR (k := 5) (List.mem_of_getElem? (i := 5) rfl)).2⟩
    | 18, hj => cases hj; exact ⟨_, rfl, zin1 (zRi hR (k := 6) (List.mem_of_getElem? (i := 6) rfl)).1 (zRi hR (k := 6) (List.mem_of_getElem? (i := 6) rfl)).2⟩
    | 19, hj => cases hj; exact ⟨_, rfl, zin1 (zRi hR (k := 7) (List.mem_of_getElem? (i := 7) rfl)).1 (zRi hR (k := 7) (List.mem_of_getElem? (i := 7) rfl)).2⟩
    | 20, hj => cases hj; exact ⟨_, rfl, zin1 (zRi hR (k := 8) (List.mem_of_getElem? (i := 8) rfl)).1 (zRi hR (k := 8) (List.mem_of_getElem? (i := 8) rfl)).2⟩
    | 21, hj => cases hj; exact ⟨_, rfl, zin1 (zRi hR (k := 9) (List.mem_of_getElem? (i := 9) rfl)).1 (zRi hR (k := 9) (List.mem_of_getElem? (i := 9) rfl)).2⟩
    | 22, hj => cases hj; exact ⟨_, rfl, zin1 (zRi hR (k := 10) (List.mem_of_getElem? (i := 10) rfl)).1 (zRi hR (k := 10) (List.mem_of_getElem? (i := 10) rfl)).2⟩
    | 23, hj => cases hj; exact ⟨_, rfl, zin1 (zRi hR (k := 11) (List.mem_of_getElem? (i := 11) rfl)).1 (zRi hR (k := 11) (List.mem_of_getElem? (i := 11) rfl)).2⟩
    | 24, hj => cases hj; exact ⟨_, rfl, zin1 (zRi hR (k := 12) (List.mem_of_getElem? (i := 12) rfl)).1 (zRi hR (k := 12) (List.mem_of_getElem? (i := 12) rfl)).2⟩
    | 25, hj => cases hj; exact ⟨_, rfl, zin1 (zRi hR (k := 13) (List.mem_of_getElem? (i := 13) rfl)).1 (zRi hR (k := 13) (List.mem_of_getElem? (i := 13) rfl)).2⟩
    | 26, hj => cases hj; exact ⟨_, rfl, zin1 (zRi hR (k := 14) (List.mem_of_getElem? (i := 14) rfl)).1 (zRi hR (k := 14) (List.mem_of_getElem? (i := 14) rfl)).2⟩
    | 27, hj => cases hj; exact ⟨_, rfl, zin1 (zRi hR (k := 15) (List.mem_of_getElem? (i := 15) rfl)).1 (zRi hR (k := 15) (List.mem_of_getElem? (i := 15) rfl)).2⟩
    | 28, hj => cases hj; exact ⟨_, rfl, zin1 (zRi hR (k := 16) (List.mem_of_getElem? (i := 16) rfl)).1 (zRi hR (k := 16) (List.mem_of_getElem? (i := 16) rfl)).2⟩
    | 29, hj => cases hj; exact ⟨_, rfl, zin1 (zRi hR (k := 17) (List.mem_of_getElem? (i := 17) rfl)).1 (zRi hR (k := 17) (List.mem_of_getElem? (i := 17) rfl)).2⟩
    | 30, hj => cases hj; exact ⟨_, rfl, zin1 (zRi hR (k := 18) (List.mem_of_getElem? (i := 18) rfl)).1 (zRi hR (k := 18) (List.mem_of_getElem? (i := 18) rfl)).2⟩
    | 31, hj => cases hj; exact ⟨_, rfl, zin1 (zRi hR (k := 19) (List.mem_of_getElem? (i := 19) rfl)).1 (zRi hR (k := 19) (List.mem_of_getElem? (i := 19) rfl)).2⟩
    | 32, hj => cases hj; exact ⟨_, rfl, zin1 (zRi hR (k := 20) (List.mem_of_getElem? (i := 20) rfl)).1 (zRi hR (k := 20) (List.mem_of_getElem? (i := 20) rfl)).2⟩
    | 33, hj => cases hj; exact ⟨_, rfl, zin1 (zRi hR (k := 21) (List.mem_of_getElem? (i := 21) rfl)).1 (zRi hR (k := 21) (List.mem_of_getElem? (i := 21) rfl)).2⟩
    | 34, hj => cases hj; exact ⟨_, rfl, zin1 (zRi hR (k := 22) (List.mem_of_getElem? (i := 22) rfl)).1 (zRi hR (k := 22) (List.mem_of_getElem? (i := 22) rfl)).2⟩
    | 35, hj => cases hj; exact ⟨_, rfl, zin1 (zRi hR (k := 23) (List.mem_of_getElem? (i := 23) rfl)).1 (zRi hR (k := 23) (List.mem_of_getElem? (i := 23) rfl)).2⟩
    | 36, hj => cases hj; exact ⟨_, rfl, zin1 (zRi hR (k := 24) (List.mem_of_getElem? (i := 24) rfl)).1 (zRi hR (k := 24) (List.mem_of_getElem? (i := 24) rfl)).2⟩
    | 37, hj => cases hj; exact ⟨_, rfl, zin1 (zRi hR (k := 25) (List.mem_of_getElem? (i := 25) rfl)).1 (zRi hR (k := 25) (List.mem_of_getElem? (i := 25) rfl)).2⟩
    | 38, hj => cases hj; exact ⟨_, rfl, zin1 (by omega) (by omega)⟩
    | 39, hj => cases hj; exact ⟨_, rfl, zin1 (by omega) (by omega)⟩
    | n + 40, hj => cases hj
  · cases List.mem_singleton.mp hq
    exact ⟨dn.toInt, kp.toInt, rfl, rfl, by show dn.toInt ≤ kp.toInt + 0; omega⟩
  · have h4 : g < 4 := h4
    match g, h4 with
    | 0, _ => rfl
    | 1, _ => rfl
    | 2, _ => rfl
    | 3, _ => rfl
  · match j, hj with
    | 0, hj => cases hj; exact ⟨_, lv_at hl 3 rfl, 3000, by rw [had], gh 0, rfl, by rw [g0]; rfl⟩
    | 1, hj => cases hj; exact ⟨_, lv_at hl 2 rfl, 0, rfl, gh 0, rfl, by rw [g0]; rfl⟩
    | 2, hj => cases hj; exact ⟨_, lv_at hl 1 rfl, 90, rfl, gh 0, rfl, by rw [g0]; rfl⟩
    | 3, hj => cases hj; exact ⟨_, lv_at hl 0 rfl, _, rfl, (i : Int), rfl, by rw [hi3]; omega⟩
    | n + 4, hj => cases hj
  · rcases List.mem_cons.mp hf with rfl | hf
    · exact ⟨90, .int dn, ⟨gh 0, rfl, by rw [g0]; rfl⟩, k1, dn, rfl, dn.toInt, rfl, by omega⟩
    rcases List.mem_cons.mp hf with rfl | hf
    · exact ⟨90, .int kp, ⟨gh 0, rfl, by rw [g0]; rfl⟩, k2, kp, rfl, kp.toInt, rfl, by omega⟩
    rcases List.mem_cons.mp hf with rfl | hf
    · obtain ⟨x, x1, x2⟩ := hwt (0, 6, 8) (List.mem_of_getElem? (i := 0) rfl)
      exact ⟨6, .int x, ⟨gh 0, rfl, by rw [g0]; rfl⟩, x1, x, rfl, w 0, rfl, by simp only at x2; omega⟩
    rcases List.mem_cons.mp hf with rfl | hf
    · obtain ⟨x, x1, x2⟩ := hwt (1, 90, 38) (List.mem_of_getElem? (i := 1) rfl)
      exact ⟨90, .int x, ⟨gh 0, rfl, by rw [g0]; rfl⟩, x1, x, rfl, w 1, rfl, by simp only at x2; omega⟩
    rcases List.mem_cons.mp hf with rfl | hf
    · obtain ⟨x, x1, x2⟩ := hwt (2, 40, 0) (List.mem_of_getElem? (i := 2) rfl)
      exact ⟨40, .int x, ⟨gh 0, rfl, by rw [g0]; rfl⟩, x1, x, rfl, w 2, rfl, by simp only at x2; omega⟩
    rcases List.mem_cons.mp hf with rfl | hf
    · obtain ⟨x, x1, x2⟩ := hwt (3, 42, 0) (List.mem_of_getElem? (i := 3) rfl)
      exact ⟨42, .int x, ⟨gh 0, rfl, by rw [g0]; rfl⟩, x1, x, rfl, w 3, rfl, by simp only at x2; omega⟩
    rcases List.mem_cons.mp hf with rfl | hf
    · obtain ⟨x, x1, x2⟩ := hwt (4, 121, 0) (List.mem_of_getElem? (i := 4) rfl)
      exact ⟨121, .int x, ⟨gh 0, rfl, by rw [g0]; rfl⟩, x1, x, rfl, w 4, rfl, by simp only at x2; omega⟩
    rcases List.mem_cons.mp hf with rfl | hf
    · obtain ⟨x, x1, x2⟩ := hwt (5, 122, 0) (List.mem_of_getElem? (i := 5) rfl)
      exact ⟨122, .int x, ⟨gh 0, rfl, by rw [g0]; rfl⟩, x1, x, rfl, w 5, rfl, by simp only at x2; omega⟩
    rcases List.mem_cons.mp hf with rfl | hf
    · obtain ⟨x, x1, x2⟩ := hwt (6, 40, 1) (List.mem_of_getElem? (i := 6) rfl)
      exact ⟨40, .int x, ⟨gh 0, rfl, by rw [g0]; rfl⟩, x1, x, rfl, w 6, rfl, by simp only at x2; omega⟩
    rcases List.mem_cons.mp hf with rfl | hf
    · obtain ⟨x, x1, x2⟩ := hwt (7, 42, 1) (List.mem_of_getElem? (i := 7) rfl)
      exact ⟨42, .int x, ⟨gh 0, rfl, by rw [g0]; rfl⟩, x1, x, rfl, w 7, rfl, by simp only at x2; omega⟩
    rcases List.mem_cons.mp hf with rfl | hf
    · obtain ⟨x, x1, x2⟩ := hwt (8, 121, 1) (List.mem_of_getElem? (i := 8) rfl)
      exact ⟨121, .int x, ⟨gh 0, rfl, by rw [g0]; rfl⟩, x1, x, rfl, w 8, rfl, by simp only at x2; omega⟩
    rcases List.mem_cons.mp hf with rfl | hf
    · obtain ⟨x, x1, x2⟩ := hwt (9, 122, 1) (List.mem_of_getElem? (i := 9) rfl)
      exact ⟨122, .int x, ⟨gh 0, rfl, by rw [g0]; rfl⟩, x1, x, rfl, w 9, rfl, by simp only at x2; omega⟩
    rcases List.mem_cons.mp hf with rfl | hf
    · obtain ⟨x, x1, x2⟩ := hwt (10, 40, 2) (List.mem_of_getElem? (i := 10) rfl)
      exact ⟨40, .int x, ⟨gh 0, rfl, by rw [g0]; rfl⟩, x1, x, rfl, w 10, rfl, by simp only at x2; omega⟩
    rcases List.mem_cons.mp hf with rfl | hf
    · obtain ⟨x, x1, x2⟩ := hwt (11, 42, 2) (List.mem_of_getElem? (i := 11) rfl)
      exact ⟨42, .int x, ⟨gh 0, rfl, by rw [g0]; rfl⟩, x1, x, rfl, w 11, rfl, by simp only at x2; omega⟩
    rcases List.mem_cons.mp hf with rfl | hf
    · obtain ⟨x, x1, x2⟩ := hwt (12, 121, 2) (List.mem_of_getElem? (i := 12) rfl)
      exact ⟨121, .int x, ⟨gh 0, rfl, by rw [g0]; rfl⟩, x1, x, rfl, w 12, rfl, by simp only at x2; omega⟩
    rcases List.mem_cons.mp hf with rfl | hf
    · obtain ⟨x, x1, x2⟩ := hwt (13, 122, 2) (List.mem_of_getElem? (i := 13) rfl)
      exact ⟨122, .int x, ⟨gh 0, rfl, by rw [g0]; rfl⟩, x1, x, rfl, w 13, rfl, by simp only at x2; omega⟩
    rcases List.mem_cons.mp hf with rfl | hf
    · obtain ⟨x, x1, x2⟩ := hwt (14, 40, 3) (List.mem_of_getElem? (i := 14) rfl)
      exact ⟨40, .int x, ⟨gh 0, rfl, by rw [g0]; rfl⟩, x1, x, rfl, w 14, rfl, by simp only at x2; omega⟩
    rcases List.mem_cons.mp hf with rfl | hf
    · obtain ⟨x, x1, x2⟩ := hwt (15, 42, 3) (List.mem_of_getElem? (i := 15) rfl)
      exact ⟨42, .int x, ⟨gh 0, rfl, by rw [g0]; rfl⟩, x1, x, rfl, w 15, rfl, by simp only at x2; omega⟩
    rcases List.mem_cons.mp hf with rfl | hf
    · obtain ⟨x, x1, x2⟩ := hwt (16, 121, 3) (List.mem_of_getElem? (i := 16) rfl)
      exact ⟨121, .int x, ⟨gh 0, rfl, by rw [g0]; rfl⟩, x1, x, rfl, w 16, rfl, by simp only at x2; omega⟩
    rcases List.mem_cons.mp hf with rfl | hf
    · obtain ⟨x, x1, x2⟩ := hwt (17, 122, 3) (List.mem_of_getElem? (i := 17) rfl)
      exact ⟨122, .int x, ⟨gh 0, rfl, by rw [g0]; rfl⟩, x1, x, rfl, w 17, rfl, by simp only at x2; omega⟩
    rcases List.mem_cons.mp hf with rfl | hf
    · obtain ⟨x, x1, x2⟩ := hwt (18, 40, 4) (List.mem_of_getElem? (i := 18) rfl)
      exact ⟨40, .int x, ⟨gh 0, rfl, by rw [g0]; rfl⟩, x1, x, rfl, w 18, rfl, by simp only at x2; omega⟩
    rcases List.mem_cons.mp hf with rfl | hf
    · obtain ⟨x, x1, x2⟩ := hwt (19, 42, 4) (List.mem_of_getElem? (i := 19) rfl)
      exact ⟨42, .int x, ⟨gh 0, rfl, by rw [g0]; rfl⟩, x1, x, rfl, w 19, rfl, by simp only at x2; omega⟩
    rcases List.mem_cons.mp hf with rfl | hf
    · obtain ⟨x, x1, x2⟩ := hwt (20, 121, 4) (List.mem_of_getElem? (i := 20) rfl)
      exact ⟨121, .int x, ⟨gh 0, rfl, by rw [g0]; rfl⟩, x1, x, rfl, w 20, rfl, by simp only at x2; omega⟩
    rcases List.mem_cons.mp hf with rfl | hf
    · obtain ⟨x, x1, x2⟩ := hwt (21, 122, 4) (List.mem_of_getElem? (i := 21) rfl)
      exact ⟨122, .int x, ⟨gh 0, rfl, by rw [g0]; rfl⟩, x1, x, rfl, w 21, rfl, by simp only at x2; omega⟩
    rcases List.mem_cons.mp hf with rfl | hf
    · obtain ⟨x, x1, x2⟩ := hwt (22, 40, 5) (List.mem_of_getElem? (i := 22) rfl)
      exact ⟨40, .int x, ⟨gh 0, rfl, by rw [g0]; rfl⟩, x1, x, rfl, w 22, rfl, by simp only at x2; omega⟩
    rcases List.mem_cons.mp hf with rfl | hf
    · obtain ⟨x, x1, x2⟩ := hwt (23, 42, 5) (List.mem_of_getElem? (i := 23) rfl)
      exact ⟨42, .int x, ⟨gh 0, rfl, by rw [g0]; rfl⟩, x1, x, rfl, w 23, rfl, by simp only at x2; omega⟩
    rcases List.mem_cons.mp hf with rfl | hf
    · obtain ⟨x, x1, x2⟩ := hwt (24, 121, 5) (List.mem_of_getElem? (i := 24) rfl)
      exact ⟨121, .int x, ⟨gh 0, rfl, by rw [g0]; rfl⟩, x1, x, rfl, w 24, rfl, by simp only at x2; omega⟩
    rcases List.mem_cons.mp hf with rfl | hf
    · obtain ⟨x, x1, x2⟩ := hwt (25, 122, 5) (List.mem_of_getElem? (i := 25) rfl)
      exact ⟨122, .int x, ⟨gh 0, rfl, by rw [g0]; rfl⟩, x1, x, rfl, w 25, rfl, by simp only at x2; omega⟩
    cases hf
/-- and back -/
theorem zstop_of {T : zS} (hT : zTokB T = true) {gh : Nat → Int} (hg : zgok gh) (had : ad 3000 = b) {i : Nat} (hi4 : i < 400) {ws0 ws : va_W} {w : Nat → Int} {u : List Int} {ls : Array Slot} {st : List Value} {H : Heap} {locs : List Loc} (hG : zG zpZ D zpcl tys A ad gh zpLW s.heap ws0 (znuL gh L i xs ++ zwv w ++ u) 4 T (znuL gh L i xs ++ zwv w ++ u) ls st ws H locs) : st = [] ∧ lv_has ls 4 [(3, .int (Int32.ofNat i)), (2, .ref (ad 90)), (1, .ref (ad 0)), (0, .ref b)] ∧ va_P D zpcl ws H ∧ va_D A ws ∧ va_S A s.heap H locs ∧ zW zpZ ad gh tys ws ∧ zDK0 ws ∧ zWt (zw2 (znuL gh L i xs ++ zwv w ++ u) T.2.2.2.2.1) ws := by
  obtain ⟨hH, hN, hL, hS, hF, hM⟩ := hG
  simp only [zTokB, Bool.and_eq_true, decide_eq_true_eq] at hT
  obtain ⟨t1, t2, t3, t4, t5, t6, t7, t8⟩ := hT
  rw [t3] at hS
  rw [t2] at hL
  have hst : st = [] := List.length_eq_zero_iff.mp hS.len.symm
  have z0' : ∀ (z : Int), (znuL gh L i xs ++ zwv w ++ u)[0]? = some z → z = 0 := fun z hz => by
    have hz : some (gh 0) = some z := hz
    rw [hg.1] at hz
    exact (Option.some.inj hz).symm
  have rf : ∀ (j : Nat) (k : Int), zpLS.2.2.1[j]? = some (3, 0, k, 0, 0) → 0 ≤ k → ls[j]? = some (.val (.ref (ad k.toNat))) := fun j k hj hk => by
    obtain ⟨v, v1, q, rfl, z, z1, z2⟩ := hL.2.2.2 j _ hj (by simp)
    have := z0' z z1
    rw [v1]
    congr 4
    omega
  obtain ⟨v3, v31, x3, rfl, z, z1, z2⟩ := hL.2.2.2 3 (1, 5, 0, 0, 0) rfl (by simp)
  have z1 : some (i : Int) = some z := z1
  cases z1
  have ex : x3 = Int32.ofNat i := Int32.toInt_inj.mp (by rw [Int32.toInt_ofNat_of_lt (by omega)]; omega)
  subst ex
  refine ⟨hst, ⟨hL.1, hL.2.2.1, fun q hq => ?_⟩, hH.1, hH.2.1, hH.2.2.1, hH.2.2.2.1, ?_, ?_⟩
  · simp only [List.mem_cons, List.not_mem_nil, or_false] at hq
    rcases hq with rfl | rfl | rfl | rfl
    · exact v31
    · exact rf 2 90 rfl (by decide)
    · exact rf 1 0 rfl (by decide)
    · have := rf 0 3000 rfl (by decide)
      rw [← had]
      exact this
  · obtain ⟨q1, v1, a1, a2, dn, rfl, a3⟩ := hF (0, 90, 5, (1, 38, 0, 0, 0)) (List.mem_of_getElem? (i := 0) (zf1B_ok t4))
    obtain ⟨q2, v2, b1, b2, kp, rfl, b3⟩ := hF (0, 90, 4, (1, 39, 0, 0, 0)) (List.mem_of_getElem? (i := 1) (zf1B_ok t5))
    have e1 : q1 = 90 := by
      obtain ⟨z, y1, y2⟩ := a1
      have := z0' z y1
      simp only at y2
      omega
    have e2 : q2 = 90 := by
      obtain ⟨z, y1, y2⟩ := b1
      have := z0' z y1
      simp only at y2
      omega
    subst e1
    subst e2
    have c1 := a3.bd hN.1
    have c2 := b3.bd hN.1
    simp only [t6] at c1
    simp only [t7] at c2
    obtain ⟨x, y, y1, y2, y3⟩ := hN.2.1 (38, 39, 0) t1
    obtain ⟨za, za1, za2⟩ := a3
    obtain ⟨zb, zb1, zb2⟩ := b3
    have u1 : za = x := Option.some.inj (za1.symm.trans y1)
    have u2 : zb = y := Option.some.inj (zb1.symm.trans y2)
    have y3 : x ≤ y + 0 := y3
    exact ⟨dn, kp, a2, b2, by omega, by omega, by omega⟩
  · intro q hq
    have hq8 := List.all_eq_true.mp t8 q hq
    cases hf : T.2.2.2.2.1[q.1 + 2]? with
    | none =>
      rw [hf] at hq8
      cases hq8
    | some f =>
      rw [hf] at hq8
      obtain ⟨f1, f2, f3, tg, n, k, n2, k2⟩ := f
      simp only [Bool.and_eq_true, beq_iff_eq, decide_eq_true_eq] at hq8
      obtain ⟨h1, h2, h3, h4⟩ := hq8
      subst h1
      subst h2
      subst h3
      subst h4
      obtain ⟨qq, v, a1, a2, x, rfl, z, z1, z2⟩ := hF _ (List.mem_of_getElem? hf)
      have e1 : qq = q.2.1 := by
        obtain ⟨z9, y1, y2⟩ := a1
        have := z0' z9 y1
        simp only at y2
        omega
      subst e1
      refine ⟨x, a2, ?_⟩
      unfold zw2
      rw [hf]
      show x.toInt = ((znuL gh L i xs ++ zwv w ++ u)[n]?).getD 0 + k
      rw [z1]
      exact z2

theorem zTR_zpLS {gh : Nat → Int} {w : Nat → Int} {i : Nat} {u : List Int} (hg : zgok gh) (hR : zR w) (hE : zEnv zpLS.1 (znuL gh L i xs ++ zwv w ++ u)) (hC : zCds zpLS.2.1 (znuL gh L i xs ++ zwv w ++ u)) : zR (zw2 (znuL gh L i xs ++ zwv w ++ u) zpLS.2.2.2.2.1) := by
  show zR (zwT gh L i xs w u zpLS)
  have g0 := hg.1
  have hs := zsame (T := zpLS) (ch := []) (by decide +kernel) (gh := gh) (L := L) (i := i) (xs := xs) (w := w) (u := u)
  generalize zwT gh L i xs w u zpLS = w2 at hs ⊢
  refine zR_of [] hs hR ?_
  have hf : zpCl.filter (fun c => c.2.1.any (fun k => ([] : List Nat).contains k)) = [] := by decide +kernel
  rw [hf]
  exact fun _ h => absurd h List.not_mem_nil
theorem zTR_zpTrl {gh : Nat → Int} {w : Nat → Int} {i : Nat} {u : List Int} (hg : zgok gh) (hR : zR w) (hE : zEnv zpTrl.1 (znuL gh L i xs ++ zwv w ++ u)) (hC : zCds zpTrl.2.1 (znuL gh L i xs ++ zwv w ++ u)) : zR (zw2 (znuL gh L i xs ++ zwv w ++ u) zpTrl.2.2.2.2.1) := by
  show zR (zwT gh L i xs w u zpTrl)
  have g0 := hg.1
  obtain ⟨y12, ya12, yb12⟩ := hE.2 12 [(0, 19)] rfl
  have yc12 := zin1' yb12
  have ya12 : some (w 0) = some y12 := ya12
  cases ya12
  obtain ⟨y13, ya13, yb13⟩ := hE.2 13 [(0, 19)] rfl
  have yc13 := zin1' yb13
  have ya13 : some (w 1) = some y13 := ya13
  cases ya13
  have hs := zsame (T := zpTrl) (ch := [0, 1]) (by decide +kernel) (gh := gh) (L := L) (i := i) (xs := xs) (w := w) (u := u)
  have e0 : zwT gh L i xs w u zpTrl 0 = w 0 + 1 := rfl
  have e1 : zwT gh L i xs w u zpTrl 1 = w 1 + 1 := rfl
  have o26 : w 0 = w 1 := hR (1, [0, 1], []) (List.mem_of_getElem? (i := 26) rfl)
  generalize zwT gh L i xs w u zpTrl = w2 at hs e0 e1 ⊢
  refine zR_of [0, 1] hs hR ?_
  have hf : zpCl.filter (fun c => c.2.1.any (fun k => ([0, 1] : List Nat).contains k)) = [(0, [0], [0, 20]), (0, [1], [0, 20]), (1, [0, 1], [])] := by decide +kernel
  rw [hf]
  exact List.forall_mem_cons.mpr ⟨(show 0 ≤ w2 0 ∧ w2 0 ≤ 20 from ⟨by omega, by omega⟩), List.forall_mem_cons.mpr ⟨(show 0 ≤ w2 1 ∧ w2 1 ≤ 20 from ⟨by omega, by omega⟩), List.forall_mem_cons.mpr ⟨(show w2 0 = w2 1 by omega), fun _ h => absurd h List.not_mem_nil⟩⟩⟩
theorem zTR_zpTno0 {gh : Nat → Int} {w : Nat → Int} {i : Nat} {u : List Int} (hg : zgok gh) (hR : zR w) (hE : zEnv zpTno0.1 (znuL gh L i xs ++ zwv w ++ u)) (hC : zCds zpTno0.2.1 (znuL gh L i xs ++ zwv w ++ u)) : zR (zw2 (znuL gh L i xs ++ zwv w ++ u) zpTno0.2.2.2.2.1) := by
  show zR (zwT gh L i xs w u zpTno0)
  have g0 := hg.1
  have hs := zsame (T := zpTno0) (ch := [2, 4, 5]) (by decide +kernel) (gh := gh) (L := L) (i := i) (xs := xs) (w := w) (u := u)
  have e2 : zwT gh L i xs w u zpTno0 2 = gh 0 + (-1) := rfl
  have e3 := hs 3 (by decide) (by decide)
  have e4 : zwT gh L i xs w u zpTno0 4 = gh 0 + (-1) := rfl
  have e5 : zwT gh L i xs w u zpTno0 5 = gh 0 + 0 := rfl
  generalize zwT gh L i xs w u zpTno0 = w2 at hs e2 e3 e4 e5 ⊢
  refine zR_of [2, 4, 5] hs hR ?_
  have hf : zpCl.filter (fun c => c.2.1.any (fun k => ([2, 4, 5] : List Nat).contains k)) = [(0, [2], [(-2), 4]), (0, [4], [(-1), 24]), (0, [5], [0, 60]), (2, [2, 3, 4, 5], [])] := by decide +kernel
  rw [hf]
  exact List.forall_mem_cons.mpr ⟨(show (-2) ≤ w2 2 ∧ w2 2 ≤ 4 from ⟨by omega, by omega⟩), List.forall_mem_cons.mpr ⟨(show (-1) ≤ w2 4 ∧ w2 4 ≤ 24 from ⟨by omega, by omega⟩), List.forall_mem_cons.mpr ⟨(show 0 ≤ w2 5 ∧ w2 5 ≤ 60 from ⟨by omega, by omega⟩), List.forall_mem_cons.mpr ⟨(show zR2 (w2 2) (w2 3) (w2 4) (w2 5) from Or.inl ⟨by omega, by omega⟩), fun _ h => absurd h List.not_mem_nil⟩⟩⟩⟩
theorem zTR_zpTru0 {gh : Nat → Int} {w : Nat → Int} {i : Nat} {u : List Int} (hg : zgok gh) (hR : zR w) (hE : zEnv zpTru0.1 (znuL gh L i xs ++ zwv w ++ u)) (hC : zCds zpTru0.2.1 (znuL gh L i xs ++ zwv w ++ u)) : zR (zw2 (znuL gh L i xs ++ zwv w ++ u) zpTru0.2.2.2.2.1) := by
  show zR (zwT gh L i xs w u zpTru0)
  have g0 := hg.1
  obtain ⟨y8, ya8, yb8⟩ := hE.2 8 [(0, 19)] rfl
  have yc8 := zin1' yb8
  have ya8 : some ((xs (i + 2)).toInt) = some y8 := ya8
  cases ya8
  have hs := zsame (T := zpTru0) (ch := [2, 4, 5]) (by decide +kernel) (gh := gh) (L := L) (i := i) (xs := xs) (w := w) (u := u)
  have e2 : zwT gh L i xs w u zpTru0 2 = gh 0 + (-2) := rfl
  have e3 := hs 3 (by decide) (by decide)
  have e4 : zwT gh L i xs w u zpTru0 4 = (xs (i + 2)).toInt + 0 := rfl
  have e5 : zwT gh L i xs w u zpTru0 5 = gh 0 + 0 := rfl
  generalize zwT gh L i xs w u zpTru0 = w2 at hs e2 e3 e4 e5 ⊢
  refine zR_of [2, 4, 5] hs hR ?_
  have hf : zpCl.filter (fun c => c.2.1.any (fun k => ([2, 4, 5] : List Nat).contains k)) = [(0, [2], [(-2), 4]), (0, [4], [(-1), 24]), (0, [5], [0, 60]), (2, [2, 3, 4, 5], [])] := by decide +kernel
  rw [hf]
  exact List.forall_mem_cons.mpr ⟨(show (-2) ≤ w2 2 ∧ w2 2 ≤ 4 from ⟨by omega, by omega⟩), List.forall_mem_cons.mpr ⟨(show (-1) ≤ w2 4 ∧ w2 4 ≤ 24 from ⟨by omega, by omega⟩), List.forall_mem_cons.mpr ⟨(show 0 ≤ w2 5 ∧ w2 5 ≤ 60 from ⟨by omega, by omega⟩), List.forall_mem_cons.mpr ⟨(show zR2 (w2 2) (w2 3) (w2 4) (w2 5) from Or.inr (Or.inl ⟨by omega, by omega, by omega⟩)), fun _ h => absurd h List.not_mem_nil⟩⟩⟩⟩
theorem zTR_zpTrw0 {gh : Nat → Int} {w : Nat → Int} {i : Nat} {u : List Int} (hg : zgok gh) (hR : zR w) (hE : zEnv zpTrw0.1 (znuL gh L i xs ++ zwv w ++ u)) (hC : zCds zpTrw0.2.1 (znuL gh L i xs ++ zwv w ++ u)) : zR (zw2 (znuL gh L i xs ++ zwv w ++ u) zpTrw0.2.2.2.2.1) := by
  show zR (zwT gh L i xs w u zpTrw0)
  have g0 := hg.1
  obtain ⟨y8, ya8, yb8⟩ := hE.2 8 [(0, 4)] rfl
  have yc8 := zin1' yb8
  have ya8 : some ((xs (i + 2)).toInt) = some y8 := ya8
  cases ya8
  obtain ⟨y9, ya9, yb9⟩ := hE.2 9 [(0, 60)] rfl
  have yc9 := zin1' yb9
  have ya9 : some ((xs (i + 3)).toInt) = some y9 := ya9
  cases ya9
  have hs := zsame (T := zpTrw0) (ch := [2, 3, 4, 5]) (by decide +kernel) (gh := gh) (L := L) (i := i) (xs := xs) (w := w) (u := u)
  have e2 : zwT gh L i xs w u zpTrw0 2 = (xs (i + 2)).toInt + 0 := rfl
  have e3 : zwT gh L i xs w u zpTrw0 3 = (xs (i + 3)).toInt + 0 := rfl
  have e4 : zwT gh L i xs w u zpTrw0 4 = (xs (i + 2)).toInt + 20 := rfl
  have e5 : zwT gh L i xs w u zpTrw0 5 = (xs (i + 3)).toInt + 0 := rfl
  generalize zwT gh L i xs w u zpTrw0 = w2 at hs e2 e3 e4 e5 ⊢
  refine zR_of [2, 3, 4, 5] hs hR ?_
  have hf : zpCl.filter (fun c => c.2.1.any (fun k => ([2, 3, 4, 5] : List Nat).contains k)) = [(0, [2], [(-2), 4]), (0, [3], [0, 60]), (0, [4], [(-1), 24]), (0, [5], [0, 60]), (2, [2, 3, 4, 5], [])] := by decide +kernel
  rw [hf]
  exact List.forall_mem_cons.mpr ⟨(show (-2) ≤ w2 2 ∧ w2 2 ≤ 4 from ⟨by omega, by omega⟩), List.forall_mem_cons.mpr ⟨(show 0 ≤ w2 3 ∧ w2 3 ≤ 60 from ⟨by omega, by omega⟩), List.forall_mem_cons.mpr ⟨(show (-1) ≤ w2 4 ∧ w2 4 ≤ 24 from ⟨by omega, by omega⟩), List.forall_mem_cons.mpr ⟨(show 0 ≤ w2 5 ∧ w2 5 ≤ 60 from ⟨by omega, by omega⟩), List.forall_mem_cons.mpr ⟨(show zR2 (w2 2) (w2 3) (w2 4) (w2 5) from Or.inr (Or.inr ⟨by omega, by omega, by omega, by omega⟩)), fun _ h => absurd h List.not_mem_nil⟩⟩⟩⟩⟩
theorem zTR_zpTno1 {gh : Nat → Int} {w : Nat → Int} {i : Nat} {u : List Int} (hg : zgok gh) (hR : zR w) (hE : zEnv zpTno1.1 (znuL gh L i xs ++ zwv w ++ u)) (hC : zCds zpTno1.2.1 (znuL gh L i xs ++ zwv w ++ u)) : zR (zw2 (znuL gh L i xs ++ zwv w ++ u) zpTno1.2.2.2.2.1) := by
  show zR (zwT gh L i xs w u zpTno1)
  have g0 := hg.1
  have hs := zsame (T := zpTno1) (ch := [6, 8, 9]) (by decide +kernel) (gh := gh) (L := L) (i := i) (xs := xs) (w := w) (u := u)
  have e6 : zwT gh L i xs w u zpTno1 6 = gh 0 + (-1) := rfl
  have e7 := hs 7 (by decide) (by decide)
  have e8 : zwT gh L i xs w u zpTno1 8 = gh 0 + (-1) := rfl
  have e9 : zwT gh L i xs w u zpTno1 9 = gh 0 + 0 := rfl
  generalize zwT gh L i xs w u zpTno1 = w2 at hs e6 e7 e8 e9 ⊢
  refine zR_of [6, 8, 9] hs hR ?_
  have hf : zpCl.filter (fun c => c.2.1.any (fun k => ([6, 8, 9] : List Nat).contains k)) = [(0, [6], [(-2), 4]), (0, [8], [(-1), 24]), (0, [9], [0, 60]), (2, [6, 7, 8, 9], [])] := by decide +kernel
  rw [hf]
  exact List.forall_mem_cons.mpr ⟨(show (-2) ≤ w2 6 ∧ w2 6 ≤ 4 from ⟨by omega, by omega⟩), List.forall_mem_cons.mpr ⟨(show (-1) ≤ w2 8 ∧ w2 8 ≤ 24 from ⟨by omega, by omega⟩), List.forall_mem_cons.mpr ⟨(show 0 ≤ w2 9 ∧ w2 9 ≤ 60 from ⟨by omega, by omega⟩), List.forall_mem_cons.mpr ⟨(show zR2 (w2 6) (w2 7) (w2 8) (w2 9) from Or.inl ⟨by omega, by omega⟩), fun _ h => absurd h List.not_mem_nil⟩⟩⟩⟩
theorem zTR_zpTru1 {gh : Nat → Int} {w : Nat → Int} {i : Nat} {u : List Int} (hg : zgok gh) (hR : zR w) (hE : zEnv zpTru1.1 (znuL gh L i xs ++ zwv w ++ u)) (hC : zCds zpTru1.2.1 (znuL gh L i xs ++ zwv w ++ u)) : zR (zw2 (znuL gh L i xs ++ zwv w ++ u) zpTru1.2.2.2.2.1) := by
  show zR (zwT gh L i xs w u zpTru1)
  have g0 := hg.1
  obtain ⟨y8, ya8, yb8⟩ := hE.2 8 [(0, 19)] rfl
  have yc8 := zin1' yb8
  have ya8 : some ((xs (i + 2)).toInt) = some y8 := ya8
  cases ya8
  have hs := zsame (T := zpTru1) (ch := [6, 8, 9]) (by decide +kernel) (gh := gh) (L := L) (i := i) (xs := xs) (w := w) (u := u)
  have e6 : zwT gh L i xs w u zpTru1 6 = gh 0 + (-2) := rfl
  have e7 := hs 7 (by decide) (by decide)
  have e8 : zwT gh L i xs w u zpTru1 8 = (xs (i + 2)).toInt + 0 := rfl
  have e9 : zwT gh L i xs w u zpTru1 9 = gh 0 + 0 := rfl
  generalize zwT gh L i xs w u zpTru1 = w2 at hs e6 e7 e8 e9 ⊢
  refine zR_of [6, 8, 9] hs hR ?_
  have hf : zpCl.filter (fun c => c.2.1.any (fun k => ([6, 8, 9] : List Nat).contains k)) = [(0, [6], [(-2), 4]), (0, [8], [(-1), 24]), (0, [9], [0, 60]), (2, [6, 7, 8, 9], [])] := by decide +kernel
  rw [hf]
  exact List.forall_mem_cons.mpr ⟨(show (-2) ≤ w2 6 ∧ w2 6 ≤ 4 from ⟨by omega, by omega⟩), List.forall_mem_cons.mpr ⟨(show (-1) ≤ w2 8 ∧ w2 8 ≤ 24 from ⟨by omega, by omega⟩), List.forall_mem_cons.mpr ⟨(show 0 ≤ w2 9 ∧ w2 9 ≤ 60 from ⟨by omega, by omega⟩), List.forall_mem_cons.mpr ⟨(show zR2 (w2 6) (w2 7) (w2 8) (w2 9) from Or.inr (Or.inl ⟨by omega, by omega, by omega⟩)), fun _ h => absurd h List.not_mem_nil⟩⟩⟩⟩
theorem zTR_zpTrw1 {gh : Nat → Int} {w : Nat → Int} {i : Nat} {u : List Int} (hg : zgok gh) (hR : zR w) (hE : zEnv zpTrw1.1 (znuL gh L i xs ++ zwv w ++ u)) (hC : zCds zpTrw1.2.1 (znuL gh L i xs ++ zwv w ++ u)) : zR (zw2 (znuL gh L i xs ++ zwv w ++ u) zpTrw1.2.2.2.2.1) := by
  show zR (zwT gh L i xs w u zpTrw1)
  have g0 := hg.1
  obtain ⟨y8, ya8, yb8⟩ := hE.2 8 [(0, 4)] rfl
  have yc8 := zin1' yb8
  have ya8 : some ((xs (i + 2)).toInt) = some y8 := ya8
  cases ya8
  obtain ⟨y9, ya9, yb9⟩ := hE.2 9 [(0, 60)] rfl
  have yc9 := zin1' yb9
  have ya9 : some ((xs (i + 3)).toInt) = some y9 := ya9
  cases ya9
  have hs := zsame (T := zpTrw1) (ch := [6, 7, 8, 9]) (by decide +kernel) (gh := gh) (L := L) (i := i) (xs := xs) (w := w) (u := u)
  have e6 : zwT gh L i xs w u zpTrw1 6 = (xs (i + 2)).toInt + 0 := rfl
  have e7 : zwT gh L i xs w u zpTrw1 7 = (xs (i + 3)).toInt + 0 := rfl
  have e8 : zwT gh L i xs w u zpTrw1 8 = (xs (i + 2)).toInt + 20 := rfl
  have e9 : zwT gh L i xs w u zpTrw1 9 = (xs (i + 3)).toInt + 0 := rfl
  generalize zwT gh L i xs w u zpTrw1 = w2 at hs e6 e7 e8 e9 ⊢
  refine zR_of [6, 7, 8, 9] hs hR ?_
  have hf : zpCl.filter (fun c => c.2.1.any (fun k => ([6, 7, 8, 9] : List Nat).contains k)) = [(0, [6], [(-2), 4]), (0, [7], [0, 60]), (0, [8], [(-1), 24]), (0, [9], [0, 60]), (2, [6, 7, 8, 9], [])] := by decide +kernel
  rw [hf]
  exact List.forall_mem_cons.mpr ⟨(show (-2) ≤ w2 6 ∧ w2 6 ≤ 4 from ⟨by omega, by omega⟩), List.forall_mem_cons.mpr ⟨(show 0 ≤ w2 7 ∧ w2 7 ≤ 60 from ⟨by omega, by omega⟩), List.forall_mem_cons.mpr ⟨(show (-1) ≤ w2 8 ∧ w2 8 ≤ 24 from ⟨by omega, by omega⟩), List.forall_mem_cons.mpr ⟨(show 0 ≤ w2 9 ∧ w2 9 ≤ 60 from ⟨by omega, by omega⟩), List.forall_mem_cons.mpr ⟨(show zR2 (w2 6) (w2 7) (w2 8) (w2 9) from Or.inr (Or.inr ⟨by omega, by omega, by omega, by omega⟩)), fun _ h => absurd h List.not_mem_nil⟩⟩⟩⟩⟩
theorem zTR_zpTno2 {gh : Nat → Int} {w : Nat → Int} {i : Nat} {u : List Int} (hg : zgok gh) (hR : zR w) (hE : zEnv zpTno2.1 (znuL gh L i xs ++ zwv w ++ u)) (hC : zCds zpTno2.2.1 (znuL gh L i xs ++ zwv w ++ u)) : zR (zw2 (znuL gh L i xs ++ zwv w ++ u) zpTno2.2.2.2.2.1) := by
  show zR (zwT gh L i xs w u zpTno2)
  have g0 := hg.1
  have hs := zsame (T := zpTno2) (ch := [10, 12, 13]) (by decide +kernel) (gh := gh) (L := L) (i := i) (xs := xs) (w := w) (u := u)
  have e10 : zwT gh L i xs w u zpTno2 10 = gh 0 + (-1) := rfl
  have e11 := hs 11 (by decide) (by decide)
  have e12 : zwT gh L i xs w u zpTno2 12 = gh 0 + (-1) := rfl
  have e13 : zwT gh L i xs w u zpTno2 13 = gh 0 + 0 := rfl
  generalize zwT gh L i xs w u zpTno2 = w2 at hs e10 e11 e12 e13 ⊢
  refine zR_of [10, 12, 13] hs hR ?_
  have hf : zpCl.filter (fun c => c.2.1.any (fun k => ([10, 12, 13] : List Nat).contains k)) = [(0, [10], [(-2), 4]), (0, [12], [(-1), 24]), (0, [13], [0, 60]), (2, [10, 11, 12, 13], [])] := by decide +kernel
  rw [hf]
  exact List.forall_mem_cons.mpr ⟨(show (-2) ≤ w2 10 ∧ w2 10 ≤ 4 from ⟨by omega, by omega⟩), List.forall_mem_cons.mpr ⟨(show (-1) ≤ w2 12 ∧ w2 12 ≤ 24 from ⟨by omega, by omega⟩), List.forall_mem_cons.mpr ⟨(show 0 ≤ w2 13 ∧ w2 13 ≤ 60 from ⟨by omega, by omega⟩), List.forall_mem_cons.mpr ⟨(show zR2 (w2 10) (w2 11) (w2 12) (w2 13) from Or.inl ⟨by omega, by omega⟩), fun _ h => absurd h List.not_mem_nil⟩⟩⟩⟩
theorem zTR_zpTru2 {gh : Nat → Int} {w : Nat → Int} {i : Nat} {u : List Int} (hg : zgok gh) (hR : zR w) (hE : zEnv zpTru2.1 (znuL gh L i xs ++ zwv w ++ u)) (hC : zCds zpTru2.2.1 (znuL gh L i xs ++ zwv w ++ u)) : zR (zw2 (znuL gh L i xs ++ zwv w ++ u) zpTru2.2.2.2.2.1) := by
  show zR (zwT gh L i xs w u zpTru2)
  have g0 := hg.1
  obtain ⟨y8, ya8, yb8⟩ := hE.2 8 [(0, 19)] rfl
  have yc8 := zin1' yb8
  have ya8 : some ((xs (i + 2)).toInt) = some y8 := ya8
  cases ya8
  have hs := zsame (T := zpTru2) (ch := [10, 12, 13]) (by decide +kernel) (gh := gh) (L := L) (i := i) (xs := xs) (w := w) (u := u)
  have e10 : zwT gh L i xs w u zpTru2 10 = gh 0 + (-2) := rfl
  have e11 := hs 11 (by decide) (by decide)
  have e12 : zwT gh L i xs w u zpTru2 12 = (xs (i + 2)).toInt + 0 := rfl
  have e13 : zwT gh L i xs w u zpTru2 13 = gh 0 + 0 := rfl
  generalize zwT gh L i xs w u zpTru2 = w2 at hs e10 e11 e12 e13 ⊢
  refine zR_of [10, 12, 13] hs hR ?_
  have hf : zpCl.filter (fun c => c.2.1.any (fun k => ([10, 12, 13] : List Nat).contains k)) = [(0, [10], [(-2), 4]), (0, [12], [(-1), 24]), (0, [13], [0, 60]), (2, [10, 11, 12, 13], [])] := by decide +kernel
  rw [hf]
  exact List.forall_mem_cons.mpr ⟨(show (-2) ≤ w2 10 ∧ w2 10 ≤ 4 from ⟨by omega, by omega⟩), List.forall_mem_cons.mpr ⟨(show (-1) ≤ w2 12 ∧ w2 12 ≤ 24 from ⟨by omega, by omega⟩), List.forall_mem_cons.mpr ⟨(show 0 ≤ w2 13 ∧ w2 13 ≤ 60 from ⟨by omega, by omega⟩), List.forall_mem_cons.mpr ⟨(show zR2 (w2 10) (w2 11) (w2 12) (w2 13) from Or.inr (Or.inl ⟨by omega, by omega, by omega⟩)), fun _ h => absurd h List.not_mem_nil⟩⟩⟩⟩
theorem zTR_zpTrw2 {gh : Nat → Int} {w : Nat → Int} {i : Nat} {u : List Int} (hg : zgok gh) (hR : zR w) (hE : zEnv zpTrw2.1 (znuL gh L i xs ++ zwv w ++ u)) (hC : zCds zpTrw2.2.1 (znuL gh L i xs ++ zwv w ++ u)) : zR (zw2 (znuL gh L i xs ++ zwv w ++ u) zpTrw2.2.2.2.2.1) := by
  show zR (zwT gh L i xs w u zpTrw2)
  have g0 := hg.1
  obtain ⟨y8, ya8, yb8⟩ := hE.2 8 [(0, 4)] rfl
  have yc8 := zin1' yb8
  have ya8 : some ((xs (i + 2)).toInt) = some y8 := ya8
  cases ya8
  obtain ⟨y9, ya9, yb9⟩ := hE.2 9 [(0, 60)] rfl
  have yc9 := zin1' yb9
  have ya9 : some ((xs (i + 3)).toInt) = some y9 := ya9
  cases ya9
  have hs := zsame (T := zpTrw2) (ch := [10, 11, 12, 13]) (by decide +kernel) (gh := gh) (L := L) (i := i) (xs := xs) (w := w) (u := u)
  have e10 : zwT gh L i xs w u zpTrw2 10 = (xs (i + 2)).toInt + 0 := rfl
  have e11 : zwT gh L i xs w u zpTrw2 11 = (xs (i + 3)).toInt + 0 := rfl
  have e12 : zwT gh L i xs w u zpTrw2 12 = (xs (i + 2)).toInt + 20 := rfl
  have e13 : zwT gh L i xs w u zpTrw2 13 = (xs (i + 3)).toInt + 0 := rfl
  generalize zwT gh L i xs w u zpTrw2 = w2 at hs e10 e11 e12 e13 ⊢
  refine zR_of [10, 11, 12, 13] hs hR ?_
  have hf : zpCl.filter (fun c => c.2.1.any (fun k => ([10, 11, 12, 13] : List Nat).contains k)) = [(0, [10], [(-2), 4]), (0, [11], [0, 60]), (0, [12], [(-1), 24]), (0, [13], [0, 60]), (2, [10, 11, 12, 13], [])] := by decide +kernel
  rw [hf]
  exact List.forall_mem_cons.mpr ⟨(show (-2) ≤ w2 10 ∧ w2 10 ≤ 4 from ⟨by omega, by omega⟩), List.forall_mem_cons.mpr ⟨(show 0 ≤ w2 11 ∧ w2 11 ≤ 60 from ⟨by omega, by omega⟩), List.forall_mem_cons.mpr ⟨(show (-1) ≤ w2 12 ∧ w2 12 ≤ 24 from ⟨by omega, by omega⟩), List.forall_mem_cons.mpr ⟨(show 0 ≤ w2 13 ∧ w2 13 ≤ 60 from ⟨by omega, by omega⟩), List.forall_mem_cons.mpr ⟨(show zR2 (w2 10) (w2 11) (w2 12) (w2 13) from Or.inr (Or.inr ⟨by omega, by omega, by omega, by omega⟩)), fun _ h => absurd h List.not_mem_nil⟩⟩⟩⟩⟩
theorem zTR_zpTno3 {gh : Nat → Int} {w : Nat → Int} {i : Nat} {u : List Int} (hg : zgok gh) (hR : zR w) (hE : zEnv zpTno3.1 (znuL gh L i xs ++ zwv w ++ u)) (hC : zCds zpTno3.2.1 (znuL gh L i xs ++ zwv w ++ u)) : zR (zw2 (znuL gh L i xs ++ zwv w ++ u) zpTno3.2.2.2.2.1) := by
  show zR (zwT gh L i xs w u zpTno3)
  have g0 := hg.1
  have hs := zsame (T := zpTno3) (ch := [14, 16, 17]) (by decide +kernel) (gh := gh) (L := L) (i := i) (xs := xs) (w := w) (u := u)
  have e14 : zwT gh L i xs w u zpTno3 14 = gh 0 + (-1) := rfl
  have e15 := hs 15 (by decide) (by decide)
  have e16 : zwT gh L i xs w u zpTno3 16 = gh 0 + (-1) := rfl
  have e17 : zwT gh L i xs w u zpTno3 17 = gh 0 + 0 := rfl
  generalize zwT gh L i xs w u zpTno3 = w2 at hs e14 e15 e16 e17 ⊢
  refine zR_of [14, 16, 17] hs hR ?_
  have hf : zpCl.filter (fun c => c.2.1.any (fun k => ([14, 16, 17] : List Nat).contains k)) = [(0, [14], [(-2), 4]), (0, [16], [(-1), 24]), (0, [17], [0, 60]), (2, [14, 15, 16, 17], [])] := by decide +kernel
  rw [hf]
  exact List.forall_mem_cons.mpr ⟨(show (-2) ≤ w2 14 ∧ w2 14 ≤ 4 from ⟨by omega, by omega⟩), List.forall_mem_cons.mpr ⟨(show (-1) ≤ w2 16 ∧ w2 16 ≤ 24 from ⟨by omega, by omega⟩), List.forall_mem_cons.mpr ⟨(show 0 ≤ w2 17 ∧ w2 17 ≤ 60 from ⟨by omega, by omega⟩), List.forall_mem_cons.mpr ⟨(show zR2 (w2 14) (w2 15) (w2 16) (w2 17) from Or.inl ⟨by omega, by omega⟩), fun _ h => absurd h List.not_mem_nil⟩⟩⟩⟩
theorem zTR_zpTru3 {gh : Nat → Int} {w : Nat → Int} {i : Nat} {u : List Int} (hg : zgok gh) (hR : zR w) (hE : zEnv zpTru3.1 (znuL gh L i xs ++ zwv w ++ u)) (hC : zCds zpTru3.2.1 (znuL gh L i xs ++ zwv w ++ u)) : zR (zw2 (znuL gh L i xs ++ zwv w ++ u) zpTru3.2.2.2.2.1) := by
  show zR (zwT gh L i xs w u zpTru3)
  have g0 := hg.1
  obtain ⟨y8, ya8, yb8⟩ := hE.2 8 [(0, 19)] rfl
  have yc8 := zin1' yb8
  have ya8 : some ((xs (i + 2)).toInt) = some y8 := ya8
  cases ya8
  have hs := zsame (T := zpTru3) (ch := [14, 16, 17]) (by decide +kernel) (gh := gh) (L := L) (i := i) (xs := xs) (w := w) (u := u)
  have e14 : zwT gh L i xs w u zpTru3 14 = gh 0 + (-2) := rfl
  have e15 := hs 15 (by decide) (by decide)
  have e16 : zwT gh L i xs w u zpTru3 16 = (xs (i + 2)).toInt + 0 := rfl
  have e17 : zwT gh L i xs w u zpTru3 17 = gh 0 + 0 := rfl
  generalize zwT gh L i xs w u zpTru3 = w2 at hs e14 e15 e16 e17 ⊢
  refine zR_of [14, 16, 17] hs hR ?_
  have hf : zpCl.filter (fun c => c.2.1.any (fun k => ([14, 16, 17] : List Nat).contains k)) = [(0, [14], [(-2), 4]), (0, [16], [(-1), 24]), (0, [17], [0, 60]), (2, [14, 15, 16, 17], [])] := by decide +kernel
  rw [hf]
  exact List.forall_mem_cons.mpr ⟨(show (-2) ≤ w2 14 ∧ w2 14 ≤ 4 from ⟨by omega, by omega⟩), List.forall_mem_cons.mpr ⟨(show (-1) ≤ w2 16 ∧ w2 16 ≤ 24 from ⟨by omega, by omega⟩), List.forall_mem_cons.mpr ⟨(show 0 ≤ w2 17 ∧ w2 17 ≤ 60 from ⟨by omega, by omega⟩), List.forall_mem_cons.mpr ⟨(show zR2 (w2 14) (w2 15) (w2 16) (w2 17) from Or.inr (Or.inl ⟨by omega, by omega, by omega⟩)), fun _ h => absurd h List.not_mem_nil⟩⟩⟩⟩
theorem zTR_zpTrw3 {gh : Nat → Int} {w : Nat → Int} {i : Nat} {u : List Int} (hg : zgok gh) (hR : zR w) (hE : zEnv zpTrw3.1 (znuL gh L i xs ++ zwv w ++ u)) (hC : zCds zpTrw3.2.1 (znuL gh L i xs ++ zwv w ++ u)) : zR (zw2 (znuL gh L i xs ++ zwv w ++ u) zpTrw3.2.2.2.2.1) := by
  show zR (zwT gh L i xs w u zpTrw3)
  have g0 := hg.1
  obtain ⟨y8, ya8, yb8⟩ := hE.2 8 [(0, 4)] rfl
  have yc8 := zin1' yb8
  have ya8 : some ((xs (i + 2)).toInt) = some y8 := ya8
  cases ya8
  obtain ⟨y9, ya9, yb9⟩ := hE.2 9 [(0, 60)] rfl
  have yc9 := zin1' yb9
  have ya9 : some ((xs (i + 3)).toInt) = some y9 := ya9
  cases ya9
  have hs := zsame (T := zpTrw3) (ch := [14, 15, 16, 17]) (by decide +kernel) (gh := gh) (L := L) (i := i) (xs := xs) (w := w) (u := u)
  have e14 : zwT gh L i xs w u zpTrw3 14 = (xs (i + 2)).toInt + 0 := rfl
  have e15 : zwT gh L i xs w u zpTrw3 15 = (xs (i + 3)).toInt + 0 := rfl
  have e16 : zwT gh L i xs w u zpTrw3 16 = (xs (i + 2)).toInt + 20 := rfl
  have e17 : zwT gh L i xs w u zpTrw3 17 = (xs (i + 3)).toInt + 0 := rfl
  generalize zwT gh L i xs w u zpTrw3 = w2 at hs e14 e15 e16 e17 ⊢
  refine zR_of [14, 15, 16, 17] hs hR ?_
  have hf : zpCl.filter (fun c => c.2.1.any (fun k => ([14, 15, 16, 17] : List Nat).contains k)) = [(0, [14], [(-2), 4]), (0, [15], [0, 60]), (0, [16], [(-1), 24]), (0, [17], [0, 60]), (2, [14, 15, 16, 17], [])] := by decide +kernel
  rw [hf]
  exact List.forall_mem_cons.mpr ⟨(show (-2) ≤ w2 14 ∧ w2 14 ≤ 4 from ⟨by omega, by omega⟩), List.forall_mem_cons.mpr ⟨(show 0 ≤ w2 15 ∧ w2 15 ≤ 60 from ⟨by omega, by omega⟩), List.forall_mem_cons.mpr ⟨(show (-1) ≤ w2 16 ∧ w2 16 ≤ 24 from ⟨by omega, by omega⟩), List.forall_mem_cons.mpr ⟨(show 0 ≤ w2 17 ∧ w2 17 ≤ 60 from ⟨by omega, by omega⟩), List.forall_mem_cons.mpr ⟨(show zR2 (w2 14) (w2 15) (w2 16) (w2 17) from Or.inr (Or.inr ⟨by omega, by omega, by omega, by omega⟩)), fun _ h => absurd h List.not_mem_nil⟩⟩⟩⟩⟩
theorem zTR_zpTno4 {gh : Nat → Int} {w : Nat → Int} {i : Nat} {u : List Int} (hg : zgok gh) (hR : zR w) (hE : zEnv zpTno4.1 (znuL gh L i xs ++ zwv w ++ u)) (hC : zCds zpTno4.2.1 (znuL gh L i xs ++ zwv w ++ u)) : zR (zw2 (znuL gh L i xs ++ zwv w ++ u) zpTno4.2.2.2.2.1) := by
  show zR (zwT gh L i xs w u zpTno4)
  have g0 := hg.1
  have hs := zsame (T := zpTno4) (ch := [18, 20, 21]) (by decide +kernel) (gh := gh) (L := L) (i := i) (xs := xs) (w := w) (u := u)
  have e18 : zwT gh L i xs w u zpTno4 18 = gh 0 + (-1) := rfl
  have e19 := hs 19 (by decide) (by decide)
  have e20 : zwT gh L i xs w u zpTno4 20 = gh 0 + (-1) := rfl
  have e21 : zwT gh L i xs w u zpTno4 21 = gh 0 + 0 := rfl
  generalize zwT gh L i xs w u zpTno4 = w2 at hs e18 e19 e20 e21 ⊢
  refine zR_of [18, 20, 21] hs hR ?_
  have hf : zpCl.filter (fun c => c.2.1.any (fun k => ([18, 20, 21] : List Nat).contains k)) = [(0, [18], [(-2), 4]), (0, [20], [(-1), 24]), (0, [21], [0, 60]), (2, [18, 19, 20, 21], [])] := by decide +kernel
  rw [hf]
  exact List.forall_mem_cons.mpr ⟨(show (-2) ≤ w2 18 ∧ w2 18 ≤ 4 from ⟨by omega, by omega⟩), List.forall_mem_cons.mpr ⟨(show (-1) ≤ w2 20 ∧ w2 20 ≤ 24 from ⟨by omega, by omega⟩), List.forall_mem_cons.mpr ⟨(show 0 ≤ w2 21 ∧ w2 21 ≤ 60 from ⟨by omega, by omega⟩), List.forall_mem_cons.mpr ⟨(show zR2 (w2 18) (w2 19) (w2 20) (w2 21) from Or.inl ⟨by omega, by omega⟩), fun _ h => absurd h List.not_mem_nil⟩⟩⟩⟩
theorem zTR_zpTru4 {gh : Nat → Int} {w : Nat → Int} {i : Nat} {u : List Int} (hg : zgok gh) (hR : zR w) (hE : zEnv zpTru4.1 (znuL gh L i xs ++ zwv w ++ u)) (hC : zCds zpTru4.2.1 (znuL gh L i xs ++ zwv w ++ u)) : zR (zw2 (znuL gh L i xs ++ zwv w ++ u) zpTru4.2.2.2.2.1) := by
  show zR (zwT gh L i xs w u zpTru4)
  have g0 := hg.1
  obtain ⟨y8, ya8, yb8⟩ := hE.2 8 [(0, 19)] rfl
  have yc8 := zin1' yb8
  have ya8 : some ((xs (i + 2)).toInt) = some y8 := ya8
  cases ya8
  have hs := zsame (T := zpTru4) (ch := [18, 20, 21]) (by decide +kernel) (gh := gh) (L := L) (i := i) (xs := xs) (w := w) (u := u)
  have e18 : zwT gh L i xs w u zpTru4 18 = gh 0 + (-2) := rfl
  have e19 := hs 19 (by decide) (by decide)
  have e20 : zwT gh L i xs w u zpTru4 20 = (xs (i + 2)).toInt + 0 := rfl
  have e21 : zwT gh L i xs w u zpTru4 21 = gh 0 + 0 := rfl
  generalize zwT gh L i xs w u zpTru4 = w2 at hs e18 e19 e20 e21 ⊢
  refine zR_of [18, 20, 21] hs hR ?_
  have hf : zpCl.filter (fun c => c.2.1.any (fun k => ([18, 20, 21] : List Nat).contains k)) = [(0, [18], [(-2), 4]), (0, [20], [(-1), 24]), (0, [21], [0, 60]), (2, [18, 19, 20, 21], [])] := by decide +kernel
  rw [hf]
  exact List.forall_mem_cons.mpr ⟨(show (-2) ≤ w2 18 ∧ w2 18 ≤ 4 from ⟨by omega, by omega⟩), List.forall_mem_cons.mpr ⟨(show (-1) ≤ w2 20 ∧ w2 20 ≤ 24 from ⟨by omega, by omega⟩), List.forall_mem_cons.mpr ⟨(show 0 ≤ w2 21 ∧ w2 21 ≤ 60 from ⟨by omega, by omega⟩), List.forall_mem_cons.mpr ⟨(show zR2 (w2 18) (w2 19) (w2 20) (w2 21) from Or.inr (Or.inl ⟨by omega, by omega, by omega⟩)), fun _ h => absurd h List.not_mem_nil⟩⟩⟩⟩
theorem zTR_zpTrw4 {gh : Nat → Int} {w : Nat → Int} {i : Nat} {u : List Int} (hg : zgok gh) (hR : zR w) (hE : zEnv zpTrw4.1 (znuL gh L i xs ++ zwv w ++ u)) (hC : zCds zpTrw4.2.1 (znuL gh L i xs ++ zwv w ++ u)) : zR (zw2 (znuL gh L i xs ++ zwv w ++ u) zpTrw4.2.2.2.2.1) := by
  show zR (zwT gh L i xs w u zpTrw4)
  have g0 := hg.1
  obtain ⟨y8, ya8, yb8⟩ := hE.2 8 [(0, 4)] rfl
  have yc8 := zin1' yb8
  have ya8 : some ((xs (i + 2)).toInt) = some y8 := ya8
  cases ya8
  obtain ⟨y9, ya9, yb9⟩ := hE.2 9 [(0, 60)] rfl
  have yc9 := zin1' yb9
  have ya9 : some ((xs (i + 3)).toInt) = some y9 := ya9
  cases ya9
  have hs := zsame (T := zpTrw4) (ch := [18, 19, 20, 21]) (by decide +kernel) (gh := gh) (L := L) (i := i) (xs := xs) (w := w) (u := u)
  have e18 : zwT gh L i xs w u zpTrw4 18 = (xs (i + 2)).toInt + 0 := rfl
  have e19 : zwT gh L i xs w u zpTrw4 19 = (xs (i + 3)).toInt + 0 := rfl
  have e20 : zwT gh L i xs w u zpTrw4 20 = (xs (i + 2)).toInt + 20 := rfl
  have e21 : zwT gh L i xs w u zpTrw4 21 = (xs (i + 3)).toInt + 0 := rfl
  generalize zwT gh L i xs w u zpTrw4 = w2 at hs e18 e19 e20 e21 ⊢
  refine zR_of [18, 19, 20, 21] hs hR ?_
  have hf : zpCl.filter (fun c => c.2.1.any (fun k => ([18, 19, 20, 21] : List Nat).contains k)) = [(0, [18], [(-2), 4]), (0, [19], [0, 60]), (0, [20], [(-1), 24]), (0, [21], [0, 60]), (2, [18, 19, 20, 21], [])] := by decide +kernel
  rw [hf]
  exact List.forall_mem_cons.mpr ⟨(show (-2) ≤ w2 18 ∧ w2 18 ≤ 4 from ⟨by omega, by omega⟩), List.forall_mem_cons.mpr ⟨(show 0 ≤ w2 19 ∧ w2 19 ≤ 60 from ⟨by omega, by omega⟩), List.forall_mem_cons.mpr ⟨(show (-1) ≤ w2 20 ∧ w2 20 ≤ 24 from ⟨by omega, by omega⟩), List.forall_mem_cons.mpr ⟨(show 0 ≤ w2 21 ∧ w2 21 ≤ 60 from ⟨by omega, by omega⟩), List.forall_mem_cons.mpr ⟨(show zR2 (w2 18) (w2 19) (w2 20) (w2 21) from Or.inr (Or.inr ⟨by omega, by omega, by omega, by omega⟩)), fun _ h => absurd h List.not_mem_nil⟩⟩⟩⟩⟩
theorem zTR_zpTno5 {gh : Nat → Int} {w : Nat → Int} {i : Nat} {u : List Int} (hg : zgok gh) (hR : zR w) (hE : zEnv zpTno5.1 (znuL gh L i xs ++ zwv w ++ u)) (hC : zCds zpTno5.2.1 (znuL gh L i xs ++ zwv w ++ u)) : zR (zw2 (znuL gh L i xs ++ zwv w ++ u) zpTno5.2.2.2.2.1) := by
  show zR (zwT gh L i xs w u zpTno5)
  have g0 := hg.1
  have hs := zsame (T := zpTno5) (ch := [22, 24, 25]) (by decide +kernel) (gh := gh) (L := L) (i := i) (xs := xs) (w := w) (u := u)
  have e22 : zwT gh L i xs w u zpTno5 22 = gh 0 + (-1) := rfl
  have e23 := hs 23 (by decide) (by decide)
  have e24 : zwT gh L i xs w u zpTno5 24 = gh 0 + (-1) := rfl
  have e25 : zwT gh L i xs w u zpTno5 25 = gh 0 + 0 := rfl
  generalize zwT gh L i xs w u zpTno5 = w2 at hs e22 e23 e24 e25 ⊢
  refine zR_of [22, 24, 25] hs hR ?_
  have hf : zpCl.filter (fun c => c.2.1.any (fun k => ([22, 24, 25] : List Nat).contains k)) = [(0, [22], [(-2), 4]), (0, [24], [(-1), 24]), (0, [25], [0, 60]), (2, [22, 23, 24, 25], [])] := by decide +kernel
  rw [hf]
  exact List.forall_mem_cons.mpr ⟨(show (-2) ≤ w2 22 ∧ w2 22 ≤ 4 from ⟨by omega, by omega⟩), List.forall_mem_cons.mpr ⟨(show (-1) ≤ w2 24 ∧ w2 24 ≤ 24 from ⟨by omega, by omega⟩), List.forall_mem_cons.mpr ⟨(show 0 ≤ w2 25 ∧ w2 25 ≤ 60 from ⟨by omega, by omega⟩), List.forall_mem_cons.mpr ⟨(show zR2 (w2 22) (w2 23) (w2 24) (w2 25) from Or.inl ⟨by omega, by omega⟩), fun _ h => absurd h List.not_mem_nil⟩⟩⟩⟩
theorem zTR_zpTru5 {gh : Nat → Int} {w : Nat → Int} {i : Nat} {u : List Int} (hg : zgok gh) (hR : zR w) (hE : zEnv zpTru5.1 (znuL gh L i xs ++ zwv w ++ u)) (hC : zCds zpTru5.2.1 (znuL gh L i xs ++ zwv w ++ u)) : zR (zw2 (znuL gh L i xs ++ zwv w ++ u) zpTru5.2.2.2.2.1) := by
  show zR (zwT gh L i xs w u zpTru5)
  have g0 := hg.1
  obtain ⟨y8, ya8, yb8⟩ := hE.2 8 [(0, 19)] rfl
  have yc8 := zin1' yb8
  have ya8 : some ((xs (i + 2)).toInt) = some y8 := ya8
  cases ya8
  have hs := zsame (T := zpTru5) (ch := [22, 24, 25]) (by decide +kernel) (gh := gh) (L := L) (i := i) (xs := xs) (w := w) (u := u)
  have e22 : zwT gh L i xs w u zpTru5 22 = gh 0 + (-2) := rfl
  have e23 := hs 23 (by decide) (by decide)
  have e24 : zwT gh L i xs w u zpTru5 24 = (xs (i + 2)).toInt + 0 := rfl
  have e25 : zwT gh L i xs w u zpTru5 25 = gh 0 + 0 := rfl
  generalize zwT gh L i xs w u zpTru5 = w2 at hs e22 e23 e24 e25 ⊢
  refine zR_of [22, 24, 25] hs hR ?_
  have hf : zpCl.filter (fun c => c.2.1.any (fun k => ([22, 24, 25] : List Nat).contains k)) = [(0, [22], [(-2), 4]), (0, [24], [(-1), 24]), (0, [25], [0, 60]), (2, [22, 23, 24, 25], [])] := by decide +kernel
  rw [hf]
  exact List.forall_mem_cons.mpr ⟨(show (-2) ≤ w2 22 ∧ w2 22 ≤ 4 from ⟨by omega, by omega⟩), List.forall_mem_cons.mpr ⟨(show (-1) ≤ w2 24 ∧ w2 24 ≤ 24 from ⟨by omega, by omega⟩), List.forall_mem_cons.mpr ⟨(show 0 ≤ w2 25 ∧ w2 25 ≤ 60 from ⟨by omega, by omega⟩), List.forall_mem_cons.mpr ⟨(show zR2 (w2 22) (w2 23) (w2 24) (w2 25) from Or.inr (Or.inl ⟨by omega, by omega, by omega⟩)), fun _ h => absurd h List.not_mem_nil⟩⟩⟩⟩
theorem zTR_zpTrw5 {gh : Nat → Int} {w : Nat → Int} {i : Nat} {u : List Int} (hg : zgok gh) (hR : zR w) (hE : zEnv zpTrw5.1 (znuL gh L i xs ++ zwv w ++ u)) (hC : zCds zpTrw5.2.1 (znuL gh L i xs ++ zwv w ++ u)) : zR (zw2 (znuL gh L i xs ++ zwv w ++ u) zpTrw5.2.2.2.2.1) := by
  show zR (zwT gh L i xs w u zpTrw5)
  have g0 := hg.1
  obtain ⟨y8, ya8, yb8⟩ := hE.2 8 [(0, 4)] rfl
  have yc8 := zin1' yb8
  have ya8 : some ((xs (i + 2)).toInt) = some y8 := ya8
  cases ya8
  obtain ⟨y9, ya9, yb9⟩ := hE.2 9 [(0, 60)] rfl
  have yc9 := zin1' yb9
  have ya9 : some ((xs (i + 3)).toInt) = some y9 := ya9
  cases ya9
  have hs := zsame (T := zpTrw5) (ch := [22, 23, 24, 25]) (by decide +kernel) (gh := gh) (L := L) (i := i) (xs := xs) (w := w) (u := u)
  have e22 : zwT gh L i xs w u zpTrw5 22 = (xs (i + 2)).toInt + 0 := rfl
  have e23 : zwT gh L i xs w u zpTrw5 23 = (xs (i + 3)).toInt + 0 := rfl
  have e24 : zwT gh L i xs w u zpTrw5 24 = (xs (i + 2)).toInt + 20 := rfl
  have e25 : zwT gh L i xs w u zpTrw5 25 = (xs (i + 3)).toInt + 0 := rfl
  generalize zwT gh L i xs w u zpTrw5 = w2 at hs e22 e23 e24 e25 ⊢
  refine zR_of [22, 23, 24, 25] hs hR ?_
  have hf : zpCl.filter (fun c => c.2.1.any (fun k => ([22, 23, 24, 25] : List Nat).contains k)) = [(0, [22], [(-2), 4]), (0, [23], [0, 60]), (0, [24], [(-1), 24]), (0, [25], [0, 60]), (2, [22, 23, 24, 25], [])] := by decide +kernel
  rw [hf]
  exact List.forall_mem_cons.mpr ⟨(show (-2) ≤ w2 22 ∧ w2 22 ≤ 4 from ⟨by omega, by omega⟩), List.forall_mem_cons.mpr ⟨(show 0 ≤ w2 23 ∧ w2 23 ≤ 60 from ⟨by omega, by omega⟩), List.forall_mem_cons.mpr ⟨(show (-1) ≤ w2 24 ∧ w2 24 ≤ 24 from ⟨by omega, by omega⟩), List.forall_mem_cons.mpr ⟨(show 0 ≤ w2 25 ∧ w2 25 ≤ 60 from ⟨by omega, by omega⟩), List.forall_mem_cons.mpr ⟨(show zR2 (w2 22) (w2 23) (w2 24) (w2 25) from Or.inr (Or.inr ⟨by omega, by omega, by omega, by omega⟩)), fun _ h => absurd h List.not_mem_nil⟩⟩⟩⟩⟩
theorem zTR {gh : Nat → Int} {w : Nat → Int} {i : Nat} {u : List Int} : ∀ T ∈ zpLTs, zgok gh → zR w → zEnv T.1 (znuL gh L i xs ++ zwv w ++ u) → zCds T.2.1 (znuL gh L i xs ++ zwv w ++ u) → zR (zw2 (znuL gh L i xs ++ zwv w ++ u) T.2.2.2.2.1) := List.forall_mem_cons.mpr ⟨fun hg hR hE hC => zTR_zpLS hg hR hE hC, List.forall_mem_cons.mpr ⟨fun hg hR hE hC => zTR_zpTrl hg hR hE hC, List.forall_mem_cons.mpr ⟨fun hg hR hE hC => zTR_zpTno0 hg hR hE hC, List.forall_mem_cons.mpr ⟨fun hg hR hE hC => zTR_zpTru0 hg hR hE hC, List.forall_mem_cons.mpr ⟨fun hg hR hE hC => zTR_zpTrw0 hg hR hE hC, List.forall_mem_cons.mpr ⟨fun hg hR hE hC => zTR_zpTno1 hg hR hE hC, List.forall_mem_cons.mpr ⟨fun hg hR hE hC => zTR_zpTru1 hg hR hE hC, List.forall_mem_cons.mpr ⟨fun hg hR hE hC => zTR_zpTrw1 hg hR hE hC, List.forall_mem_cons.mpr ⟨fun hg hR hE hC => zTR_zpTno2 hg hR hE hC, List.forall_mem_cons.mpr ⟨fun hg hR hE hC => zTR_zpTru2 hg hR hE hC, List.forall_mem_cons.mpr ⟨fun hg hR hE hC => zTR_zpTrw2 hg hR hE hC, List.forall_mem_cons.mpr ⟨fun hg hR hE hC => zTR_zpTno3 hg hR hE hC, List.forall_mem_cons.mpr ⟨fun hg hR hE hC => zTR_zpTru3 hg hR hE hC, List.forall_mem_cons.mpr ⟨fun hg hR hE hC => zTR_zpTrw3 hg hR hE hC, List.forall_mem_cons.mpr ⟨fun hg hR hE hC => zTR_zpTno4 hg hR hE hC, List.forall_mem_cons.mpr ⟨fun hg hR hE hC => zTR_zpTru4 hg hR hE hC, List.forall_mem_cons.mpr ⟨fun hg hR hE hC => zTR_zpTrw4 hg hR hE hC, List.forall_mem_cons.mpr ⟨fun hg hR hE hC => zTR_zpTno5 hg hR hE hC, List.forall_mem_cons.mpr ⟨fun hg hR hE hC => zTR_zpTru5 hg hR hE hC, List.forall_mem_cons.mpr ⟨fun hg hR hE hC => zTR_zpTrw5 hg hR hE hC, fun _ h => absurd h List.not_mem_nil⟩⟩⟩⟩⟩⟩⟩⟩⟩⟩⟩⟩⟩⟩⟩⟩⟩⟩⟩⟩
theorem zTok : ∀ T ∈ zpLTs, zTokB T = true := by decide +kernel
theorem zstop_comer (C0 : lw_At p s m meth c b L xs) (hK : va_K D zpcl tys s) (hro : zpRO ad A s s.heap) (had : ad 3000 = b) (hbA : ¬ A b) (hL : L ≤ 384) {i : Nat} (hi : i + 5 < L) (hcs : ce ≤ room_1.cells ∧ sl ≤ room_1.slots) (hn : zStop p l e s m below meth c b L xs D tys A ad Q ce sl i 347 zpLS) : zStop p l e s m below meth c b L xs D tys A ad Q ce sl i 342 zpLS := by
  intro gh hg w hR ws0 u ls st ws H locs hG
  obtain ⟨rfl, hl, hP, hD, hS, hW, hD0, hwt⟩ := zstop_of (zTok zpLS List.mem_cons_self) hg had (by omega) hG
  have hRw := zTR_zpLS hg hR hG.2.1.1 hG.2.1.2.1
  generalize zw2 (znuL gh L i xs ++ zwv w ++ u) zpLS.2.2.2.2.1 = w9 at hwt hRw
  have X := zlawX (p := p) (l := l) (e := e) (below := below) (Q := Q) (CS := []) C0 hK hro (fun _ h => absurd h List.not_mem_nil) (gh := gh) hg.1 (nuE := znuL gh L i xs ++ zwv w) rfl hcs ws0
  obtain ⟨⟨hx, hb, h0, hml, hH0, hown⟩, ⟨hts, -, -, -, -, -, hlocks⟩, -, ⟨-, -, -, -, hML⟩, -⟩ := id X
  obtain ⟨-, -, -, -, -, -, hX, hbl, -, -⟩ := C0
  obtain ⟨g0, g1, g2, g3⟩ := id hg
  obtain ⟨l1, T6, N6, hcl⟩ := (hML (31, 0, zpC118.1, 0, 11) (by decide)).1 rfl zpC118 rfl
  obtain ⟨fs, c1, -, -⟩ := hW (0, 0, (0, 11, 0, [(2, 1, 1), (2, 2, 2), (2, 3, 3), (2, 4, 4), (2, 5, 5), (2, 6, 6), (2, 7, 7), (2, 8, 8), (2, 9, 9)])) (by decide) 0 (Nat.le_refl _) (Nat.le_refl _)
  have d342 : decode code 342 = .ok (.aload_n 1, 1) := by decide +kernel
  have d343 : decode code 343 = .ok (.invokevirtual 31, 3) := by decide +kernel
  have d346 : decode code 346 = .ok (.pop, 1) := by decide +kernel
  have hgn : ∀ g, g < zpZ.2.2 → ([gh 0, gh 1, gh 2, gh 3] : List Int)[g]? = some (gh g) := fun g h4 => by
    have h4 : g < 4 := h4
    match g, h4 with
    | 0, _ => rfl
    | 1, _ => rfl
    | 2, _ => rfl
    | 3, _ => rfl
  have hEnt : zEnt zpZ ad gh tys (zKof zpMT zpC118) ws [gh 0, gh 1, gh 2, gh 3] (.ref (ad 0) :: []) := by
    refine ⟨hW, ⟨rfl, fun j iv hj => ?_⟩, (fun q hq => by cases hq), hgn, ?_, rfl, (fun f hf => by cases hf), rfl⟩
    · match j, hj with
      | 0, hj => cases hj; exact ⟨_, rfl, zin1 (by omega) (by omega)⟩
      | 1, hj => cases hj; exact ⟨_, rfl, zin1 (by omega) (by omega)⟩
      | 2, hj => cases hj; exact ⟨_, rfl, zin1 (by omega) (by omega)⟩
      | 3, hj => cases hj; exact ⟨_, rfl, zin1 (by omega) (by omega)⟩
      | n + 4, hj => cases hj
    · have hAs : zall (zm ad [gh 0, gh 1, gh 2, gh 3]) [(3, 0, 0, 0, 0)] (.ref (ad 0) :: []) := ⟨⟨0, rfl, gh 0, rfl, by rw [g0]; rfl⟩, trivial⟩
      exact zlayP_ok (n := 2) hAs (by decide) (by decide)
  have hMet := zpM118 (l := l) zpHyp D tys A ad gh ws [gh 0, gh 1, gh 2, gh 3] (.ref (ad 0) :: []) h0 hEnt hD
  refine lv_aload_n hx hb d342 rfl (lv_at hl 2 rfl) ?_
  refine zr_callE (As := []) (restc := []) (n := 0) hx hb hcs hml hH0 hown hts zTs_good hK zROx_ok hro hl.1 hP hS c1 hcl rfl hMet d343 l1 ⟨Nat.le_of_ble_eq_true rfl, Nat.le_of_ble_eq_true rfl⟩ (by decide) (fun gh' nu' alt w ws1 H1 locs1 hφ hgn' halt q1 q2 q3 q4 q5 q6 => ?_)
  have halt : alt = _ := List.mem_singleton.mp halt
  subst halt
  obtain ⟨t, -, -, z3, -⟩ := q6
  obtain ⟨r, rfl⟩ : ∃ r : Value, w = some r := by
    cases w with
    | none => exact z3.elim
    | some v => exact ⟨v, rfl⟩
  obtain ⟨⟨x, rfl, -⟩, -⟩ := z3
  have hg' : zgok gh' := ⟨(hφ.2.2 0 (by decide)).trans g0, ⟨Int.le_trans g1.1 hφ.1, hφ.2.1⟩, (hφ.2.2 2 (by decide)).trans g2, (hφ.2.2 3 (by decide)).trans g3⟩
  have hun : ∀ j : Nat, zfv ws1 90 j = zfv ws 90 j := fun j => q5 90 j (fun w hw hc => by
    have h9 : ∀ w ∈ zpC118.2.2.2.2, w.2.1 < 90 := by decide
    have h8 := h9 w hw
    have h7 : ((90 : Nat) : Int) ≤ w.2.1 := hc.2.1
    omega)
  have hD1 : zDK0 ws1 := by
    obtain ⟨dn, kp, k1, k2, k3⟩ := hD0
    exact ⟨dn, kp, by rw [hun]; exact k1, by rw [hun]; exact k2, k3⟩
  have hwt1 : zWt w9 ws1 := fun q hq => by
    obtain ⟨x, x1, x2⟩ := hwt q hq
    refine ⟨x, ?_, x2⟩
    rw [q5 q.2.1 q.2.2 (fun w hw hc => absurd hc ((by decide +kernel : ∀ q ∈ zpWt, ∀ w ∈ zpC118.2.2.2.2, ¬ (w.1 ≤ ((q.2.1 : Nat) : Int) ∧ ((q.2.1 : Nat) : Int) ≤ w.2.1 ∧ (w.2.2.1 = 0 ∨ w.2.2.2 = q.2.2))) q hq w hw))]
    exact x1
  refine lv_pop hx hb d346 rfl ?_
  obtain ⟨u', hG'⟩ := zstop_G (D := D) (tys := tys) (A := A) (s := s) (xs := xs) hg' had hL hi hl q1 q2 q3 q4 hD1 hwt1 hRw
  exact hn gh' hg' w9 hRw ws1 u' ls [] ws1 H1 locs1 hG'

theorem zstop_comers (C0 : lw_At p s m meth c b L xs) (hK : va_K D zpcl tys s) (hro : zpRO ad A s s.heap) (had : ad 3000 = b) (hbA : ¬ A b) (hL : L ≤ 384) {i : Nat} (hi : i + 5 < L) (hcs : ce ≤ room_1.cells ∧ sl ≤ room_1.slots) (hn : zStop p l e s m below meth c b L xs D tys A ad Q ce sl i 375 zpLS) : zStop p l e s m below meth c b L xs D tys A ad Q ce sl i 355 zpLS := by
  intro gh hg w hR ws0 u ls st ws H locs hG
  obtain ⟨rfl, hl, hP, hD, hS, hW, hD0, hwt⟩ := zstop_of (zTok zpLS List.mem_cons_self) hg had (by omega) hG
  have hRw := zTR_zpLS hg hR hG.2.1.1 hG.2.1.2.1
  generalize zw2 (znuL gh L i xs ++ zwv w ++ u) zpLS.2.2.2.2.1 = w9 at hwt hRw
  have X := zlawX (p := p) (l := l) (e := e) (below := below) (Q := Q) (CS := []) C0 hK hro (fun _ h => absurd h List.not_mem_nil) (gh := gh) hg.1 (nuE := znuL gh L i xs ++ zwv w) rfl hcs ws0
  obtain ⟨⟨hx, hb, h0, hml, hH0, hown⟩, ⟨hts, -, -, -, -, -, hlocks⟩, -, ⟨-, -, -, -, hML⟩, -⟩ := id X
  obtain ⟨-, -, -, -, -, -, hX, hbl, -, -⟩ := C0
  obtain ⟨g0, g1, g2, g3⟩ := id hg
  obtain ⟨l1, T6, N6, hcl⟩ := (hML (36, 0, zpC123.1, 3, 11) (by decide)).1 rfl zpC123 rfl
  obtain ⟨fs, c1, -, -⟩ := hW (0, 0, (0, 11, 0, [(2, 1, 1), (2, 2, 2), (2, 3, 3), (2, 4, 4), (2, 5, 5), (2, 6, 6), (2, 7, 7), (2, 8, 8), (2, 9, 9)])) (by decide) 0 (Nat.le_refl _) (Nat.le_refl _)
  have d355 : decode code 355 = .ok (.aload_n 1, 1) := by decide +kernel
  have d356 : decode code 356 = .ok (.aload_n 0, 1) := by decide +kernel
  have d357 : decode code 357 = .ok (.iload_n 3, 1) := by decide +kernel
  have d358 : decode code 358 = .ok (.iconst 1, 1) := by decide +kernel
  have d359 : decode code 359 = .ok (.iadd, 1) := by decide +kernel
  have d360 : decode code 360 = .ok (.iaload, 1) := by decide +kernel
  have d361 : decode code 361 = .ok (.aload_n 0, 1) := by decide +kernel
  have d362 : decode code 362 = .ok (.iload_n 3, 1) := by decide +kernel
  have d363 : decode code 363 = .ok (.iconst 2, 1) := by decide +kernel
  have d364 : decode code 364 = .ok (.iadd, 1) := by decide +kernel
  have d365 : decode code 365 = .ok (.iaload, 1) := by decide +kernel
  have d366 : decode code 366 = .ok (.aload_n 0, 1) := by decide +kernel
  have d367 : decode code 367 = .ok (.iload_n 3, 1) := by decide +kernel
  have d368 : decode code 368 = .ok (.iconst 3, 1) := by decide +kernel
  have d369 : decode code 369 = .ok (.iadd, 1) := by decide +kernel
  have d370 : decode code 370 = .ok (.iaload, 1) := by decide +kernel
  have d371 : decode code 371 = .ok (.invokevirtual 36, 3) := by decide +kernel
  have d374 : decode code 374 = .ok (.pop, 1) := by decide +kernel
  have hgn : ∀ g, g < zpZ.2.2 → ([gh 0, gh 1, gh 2, gh 3, (xs (i + 1)).toInt, (xs (i + 2)).toInt, (xs (i + 3)).toInt] : List Int)[g]? = some (gh g) := fun g h4 => by
    have h4 : g < 4 := h4
    match g, h4 with
    | 0, _ => rfl
    | 1, _ => rfl
    | 2, _ => rfl
    | 3, _ => rfl
  have hEnt : zEnt zpZ ad gh tys (zKof zpMT zpC123) ws [gh 0, gh 1, gh 2, gh 3, (xs (i + 1)).toInt, (xs (i + 2)).toInt, (xs (i + 3)).toInt] (.ref (ad 0) :: [.int (xs (i + 1)), .int (xs (i + 2)), .int (xs (i + 3))]) := by
    refine ⟨hW, ⟨rfl, fun j iv hj => ?_⟩, (fun q hq => by cases hq), hgn, ?_, rfl, (fun f hf => by cases hf), rfl⟩
    · match j, hj with
      | 0, hj => cases hj; exact ⟨_, rfl, zin1 (by omega) (by omega)⟩
      | 1, hj => cases hj; exact ⟨_, rfl, zin1 (by omega) (by omega)⟩
      | 2, hj => cases hj; exact ⟨_, rfl, zin1 (by omega) (by omega)⟩
      | 3, hj => cases hj; exact ⟨_, rfl, zin1 (by omega) (by omega)⟩
      | 4, hj => cases hj; exact ⟨_, rfl, zfullI _⟩
      | 5, hj => cases hj; exact ⟨_, rfl, zfullI _⟩
      | 6, hj => cases hj; exact ⟨_, rfl, zfullI _⟩
      | n + 7, hj => cases hj
    · have hAs : zall (zm ad [gh 0, gh 1, gh 2, gh 3, (xs (i + 1)).toInt, (xs (i + 2)).toInt, (xs (i + 3)).toInt]) [(3, 0, 0, 0, 0), (1, 4, 0, 0, 0), (1, 5, 0, 0, 0), (1, 6, 0, 0, 0)] (.ref (ad 0) :: [.int (xs (i + 1)), .int (xs (i + 2)), .int (xs (i + 3))]) := ⟨⟨0, rfl, gh 0, rfl, by rw [g0]; rfl⟩, ⟨_, rfl, _, rfl, by omega⟩, ⟨_, rfl, _, rfl, by omega⟩, ⟨_, rfl, _, rfl, by omega⟩, trivial⟩
      exact zlayP_ok (n := 7) hAs (by decide) (by decide)
  have hMet := zpM123 (l := l) zpHyp D tys A ad gh ws [gh 0, gh 1, gh 2, gh 3, (xs (i + 1)).toInt, (xs (i + 2)).toInt, (xs (i + 3)).toInt] (.ref (ad 0) :: [.int (xs (i + 1)), .int (xs (i + 2)), .int (xs (i + 3))]) h0 hEnt hD
  refine lv_aload_n hx hb d355 rfl (lv_at hl 2 rfl) ?_
  have e0 : (Int32.ofNat i + Int32.ofInt 1).toInt = (i : Int) + 1 := by
    rw [Int32.toInt_add, Int32.toInt_ofNat_of_lt (by omega), show (Int32.ofInt 1).toInt = 1 from rfl, Int.bmod_eq_of_le (by omega) (by omega)]
  have f0 : (Int32.ofNat i + Int32.ofInt 1).toNatClampNeg = i + 1 := by
    show (Int32.ofNat i + Int32.ofInt 1).toInt.toNat = _
    omega
  refine lv_aload_n hx hb d356 rfl (lv_at hl 3 rfl) ?_
  refine lv_iload_n hx hb d357 rfl (lv_at hl 0 rfl) ?_
  refine lv_iconst hx hb d358 rfl ?_
  refine lv_iadd hx hb d359 ?_
  refine va_sld hx hb hX hbl hbA hS (vp_in_iff.mpr ⟨by omega, by omega⟩) d360 ?_
  rw [f0]
  have e1 : (Int32.ofNat i + Int32.ofInt 2).toInt = (i : Int) + 2 := by
    rw [Int32.toInt_add, Int32.toInt_ofNat_of_lt (by omega), show (Int32.ofInt 2).toInt = 2 from rfl, Int.bmod_eq_of_le (by omega) (by omega)]
  have f1 : (Int32.ofNat i + Int32.ofInt 2).toNatClampNeg = i + 2 := by
    show (Int32.ofNat i + Int32.ofInt 2).toInt.toNat = _
    omega
  refine lv_aload_n hx hb d361 rfl (lv_at hl 3 rfl) ?_
  refine lv_iload_n hx hb d362 rfl (lv_at hl 0 rfl) ?_
  refine lv_iconst hx hb d363 rfl ?_
  refine lv_iadd hx hb d364 ?_
  refine va_sld hx hb hX hbl hbA hS (vp_in_iff.mpr ⟨by omega, by omega⟩) d365 ?_
  rw [f1]
  have e2 : (Int32.ofNat i + Int32.ofInt 3).toInt = (i : Int) + 3 := by
    rw [Int32.toInt_add, Int32.toInt_ofNat_of_lt (by omega), show (Int32.ofInt 3).toInt = 3 from rfl, Int.bmod_eq_of_le (by omega) (by omega)]
  have f2 : (Int32.ofNat i + Int32.ofInt 3).toNatClampNeg = i + 3 := by
    show (Int32.ofNat i + Int32.ofInt 3).toInt.toNat = _
    omega
  refine lv_aload_n hx hb d366 rfl (lv_at hl 3 rfl) ?_
  refine lv_iload_n hx hb d367 rfl (lv_at hl 0 rfl) ?_
  refine lv_iconst hx hb d368 rfl ?_
  refine lv_iadd hx hb d369 ?_
  refine va_sld hx hb hX hbl hbA hS (vp_in_iff.mpr ⟨by omega, by omega⟩) d370 ?_
  rw [f2]
  refine zr_callE (As := [.int (xs (i + 1)), .int (xs (i + 2)), .int (xs (i + 3))]) (restc := []) (n := 3) hx hb hcs hml hH0 hown hts zTs_good hK zROx_ok hro hl.1 hP hS c1 hcl rfl hMet d371 l1 ⟨Nat.le_of_ble_eq_true rfl, Nat.le_of_ble_eq_true rfl⟩ (by decide) (fun gh' nu' alt w ws1 H1 locs1 hφ hgn' halt q1 q2 q3 q4 q5 q6 => ?_)
  have halt : alt = _ := List.mem_singleton.mp halt
  subst halt
  obtain ⟨t, -, -, z3, -⟩ := q6
  obtain ⟨r, rfl⟩ : ∃ r : Value, w = some r := by
    cases w with
    | none => exact z3.elim
    | some v => exact ⟨v, rfl⟩
  obtain ⟨⟨x, rfl, -⟩, -⟩ := z3
  have hg' : zgok gh' := ⟨(hφ.2.2 0 (by decide)).trans g0, ⟨Int.le_trans g1.1 hφ.1, hφ.2.1⟩, (hφ.2.2 2 (by decide)).trans g2, (hφ.2.2 3 (by decide)).trans g3⟩
  have hun : ∀ j : Nat, zfv ws1 90 j = zfv ws 90 j := fun j => q5 90 j (fun w hw hc => by
    have h9 : ∀ w ∈ zpC123.2.2.2.2, w.2.1 < 90 := by decide
    have h8 := h9 w hw
    have h7 : ((90 : Nat) : Int) ≤ w.2.1 := hc.2.1
    omega)
  have hD1 : zDK0 ws1 := by
    obtain ⟨dn, kp, k1, k2, k3⟩ := hD0
    exact ⟨dn, kp, by rw [hun]; exact k1, by rw [hun]; exact k2, k3⟩
  have hwt1 : zWt w9 ws1 := fun q hq => by
    obtain ⟨x, x1, x2⟩ := hwt q hq
    refine ⟨x, ?_, x2⟩
    rw [q5 q.2.1 q.2.2 (fun w hw hc => absurd hc ((by decide +kernel : ∀ q ∈ zpWt, ∀ w ∈ zpC123.2.2.2.2, ¬ (w.1 ≤ ((q.2.1 : Nat) : Int) ∧ ((q.2.1 : Nat) : Int) ≤ w.2.1 ∧ (w.2.2.1 = 0 ∨ w.2.2.2 = q.2.2))) q hq w hw))]
    exact x1
  refine lv_pop hx hb d374 rfl ?_
  obtain ⟨u', hG'⟩ := zstop_G (D := D) (tys := tys) (A := A) (s := s) (xs := xs) hg' had hL hi hl q1 q2 q3 q4 hD1 hwt1 hRw
  exact hn gh' hg' w9 hRw ws1 u' ls [] ws1 H1 locs1 hG'

theorem zlaw_loop (C0 : lw_At p s m meth c b L xs) (hK : va_K D zpcl tys s) (hro : zpRO ad A s s.heap) (had : ad 3000 = b) (hbA : ¬ A b) (hA : ∀ q, A q → s.heap.size ≤ q) (hL : L ≤ 384) (hcs : ce ≤ 600000 ∧ sl ≤ 7302250) : ∀ (n i : Nat) (gh : Nat → Int) (ls : Array Slot) (ws : va_W) (H : Heap) (locs : List Loc), 390 - i = n → i ≤ 390 → zgok gh → lv_has ls 4 [(3, .int (Int32.ofNat i)), (2, .ref (ad 90)), (1, .ref (ad 0)), (0, .ref b)] → va_P D zpcl ws H → va_D A ws → va_S A s.heap H locs → zW zpZ ad gh tys ws → zDK ws → W p l e room_1 s m #[Value.ref b] below meth c H locs ce sl (lw_Z below #[Value.ref b] s) (F0 m 18 ls []) := by
  intro n
  induction n using Nat.strongRecOn with
  | ind n ih =>
    intro i gh ls ws H locs hn i390 hg hl hP hD hS hW hDK
    obtain ⟨hx, hb, hr, hml, hown, hts0, hX, hbl, hlocks, -⟩ := id C0
    have hi3 : (Int32.ofNat i).toInt = (i : Int) := Int32.toInt_ofNat_of_lt (by omega)
    have hL3 : (Int32.ofNat L).toInt = (L : Int) := Int32.toInt_ofNat_of_lt (by omega)
    have e6 : (Int8.ofInt 6).toInt32.toInt = 6 := by decide
    have es : (Int32.ofNat L - (Int8.ofInt 6).toInt32).toInt = (L : Int) - 6 := by
      rw [Int32.toInt_sub, hL3, e6, Int.bmod_eq_of_le (by omega) (by omega)]
    have d18 : decode code 18 = .ok (.iload_n 3, 1) := by decide +kernel
    have d19 : decode code 19 = .ok (.aload_n 0, 1) := by decide +kernel
    have d20 : decode code 20 = .ok (.arraylength, 1) := by decide +kernel
    have d21 : decode code 21 = .ok (.bipush 6, 2) := by decide +kernel
    have d23 : decode code 23 = .ok (.isub, 1) := by decide +kernel
    have d24 : decode code 24 = .ok (.if_icmp .gt 1466, 3) := by decide +kernel
    have dR0 : decode code 1490 = .ok (.iconst 1, 1) := by decide +kernel
    have dR1 : decode code 1491 = .ok (.ireturn, 1) := by decide +kernel
    have dE : decode code 1484 = .ok (.iinc 3 6, 3) := by decide +kernel
    have dG : decode code 1487 = .ok (.goto (-1469), 3) := by decide +kernel
    refine lv_iload_n hx hb d18 rfl (lv_at hl 0 rfl) ?_
    refine lv_aload_n hx hb d19 rfl (lv_at hl 3 rfl) ?_
    refine va_slen hx hb hX hbl hbA hS d20 ?_
    refine lv_bipush hx hb d21 rfl ?_
    refine lv_isub hx hb d23 ?_
    refine lv_icmp_gt hx hb d24 (tgt := 1490) (by decide) (fun _ => ?_) (fun hgt => ?_)
    · refine lv_iconst hx hb dR0 rfl ?_
      refine va_forget (fun q hq => hA _ (hS.2.2 q hq)) ?_
      exact W.widen hcs.1 hcs.2 (lw_ret hx hb hr hlocks dR1)
    · have hi5 : i + 5 < L := by
        have h1 : ¬ (Int32.ofNat L - (Int8.ofInt 6).toInt32).toInt < (Int32.ofNat i).toInt := fun h => hgt (Int32.lt_iff_toInt_lt.mpr h)
        omega
      have hcs' : ce ≤ room_1.cells ∧ sl ≤ room_1.slots := hcs
      have sE : ∀ T ∈ zpLTs, zStop p l e s m below meth c b L xs D tys A ad (lw_Z below #[Value.ref b] s) ce sl i 1484 T := by
        intro T hT gh hg w hR ws0 u ls st ws H locs hG
        have hRw := zTR T hT hg hR hG.2.1.1 hG.2.1.2.1
        obtain ⟨rfl, hl, hP, hD, hS, hW, hD0, hwt⟩ := zstop_of (zTok T hT) hg had (by omega) hG
        refine lv_iinc hx hb dE hl (k := 0) rfl rfl (by decide) rfl (fun ls3 hl3 => ?_)
        refine lv_goto hx hb dG (tgt := 18) (by decide) ?_
        have hadd : Int32.ofNat i + Int32.ofInt 6 = Int32.ofNat (i + 6) := by
          apply Int32.toInt_inj.mp
          rw [Int32.toInt_add, hi3, show (Int32.ofInt 6).toInt = 6 from rfl, Int.bmod_eq_of_le (by omega) (by omega), Int32.toInt_ofNat_of_lt (by omega)]
          omega
        rw [hadd] at hl3
        exact ih (390 - (i + 6)) (by omega) (i + 6) gh ls3 ws H locs rfl (by omega) hg hl3 hP hD hS hW ⟨hD0, _, hwt, hRw⟩
      have sX : ∀ a ∈ zpLX, zStop p l e s m below meth c b L xs D tys A ad (lw_Z below #[Value.ref b] s) ce sl i a.1 a.2.1.2 := fun a ha => by
        cases List.mem_singleton.mp ha
        exact sE zpLS List.mem_cons_self

      have sb0 := zseg (p := p) (l := l) (e := e) (below := below) (Q := lw_Z below #[Value.ref b] s) C0 hK hro had hbA hL hi5 hcs' (zmets_cons (zpM556 zpHyp) zmets_nil) zpLb0 sX
      have sa0 := zseg (p := p) (l := l) (e := e) (below := below) (Q := lw_Z below #[Value.ref b] s) C0 hK hro had hbA hL hi5 hcs' (zmets_cons (zpM76 zpHyp) zmets_nil) zpLa0 (fun a ha => by cases List.mem_singleton.mp ha; exact sb0)
      have sb1 := zseg (p := p) (l := l) (e := e) (below := below) (Q := lw_Z below #[Value.ref b] s) C0 hK hro had hbA hL hi5 hcs' (zmets_cons (zpM560 zpHyp) zmets_nil) zpLb1 sX
      have sa1 := zseg (p := p) (l := l) (e := e) (below := below) (Q := lw_Z below #[Value.ref b] s) C0 hK hro had hbA hL hi5 hcs' (zmets_cons (zpM83 zpHyp) zmets_nil) zpLa1 (fun a ha => by cases List.mem_singleton.mp ha; exact sb1)
      have sb2 := zseg (p := p) (l := l) (e := e) (below := below) (Q := lw_Z below #[Value.ref b] s) C0 hK hro had hbA hL hi5 hcs' (zmets_cons (zpM563 zpHyp) zmets_nil) zpLb2 sX
      have sa2 := zseg (p := p) (l := l) (e := e) (below := below) (Q := lw_Z below #[Value.ref b] s) C0 hK hro had hbA hL hi5 hcs' (zmets_cons (zpM85 zpHyp) zmets_nil) zpLa2 (fun a ha => by cases List.mem_singleton.mp ha; exact sb2)
      have sb3 := zseg (p := p) (l := l) (e := e) (below := below) (Q := lw_Z below #[Value.ref b] s) C0 hK hro had hbA hL hi5 hcs' (zmets_cons (zpM565 zpHyp) zmets_nil) zpLb3 sX
      have sa3 := zseg (p := p) (l := l) (e := e) (below := below) (Q := lw_Z below #[Value.ref b] s) C0 hK hro had hbA hL hi5 hcs' (zmets_cons (zpM87 zpHyp) zmets_nil) zpLa3 (fun a ha => by cases List.mem_singleton.mp ha; exact sb3)
      have sb4 := zseg (p := p) (l := l) (e := e) (below := below) (Q := lw_Z below #[Value.ref b] s) C0 hK hro had hbA hL hi5 hcs' (zmets_cons (zpM599 zpHyp) zmets_nil) zpLb4 sX
      have sa4 := zstop_comer C0 hK hro had hbA hL hi5 hcs' sb4
      have sb5 := zseg (p := p) (l := l) (e := e) (below := below) (Q := lw_Z below #[Value.ref b] s) C0 hK hro had hbA hL hi5 hcs' (zmets_cons (zpM601 zpHyp) zmets_nil) zpLb5 sX
      have sa5 := zstop_comers C0 hK hro had hbA hL hi5 hcs' sb5
      have sb6 := zseg (p := p) (l := l) (e := e) (below := below) (Q := lw_Z below #[Value.ref b] s) C0 hK hro had hbA hL hi5 hcs' (zmets_cons (zpM609 zpHyp) zmets_nil) zpLb6 sX
      have sa6 := zseg (p := p) (l := l) (e := e) (below := below) (Q := lw_Z below #[Value.ref b] s) C0 hK hro had hbA hL hi5 hcs' (zmets_cons (zpM125 zpHyp) zmets_nil) zpLa6 (fun a ha => by cases List.mem_singleton.mp ha; exact sb6)
      have sb7 := zseg (p := p) (l := l) (e := e) (below := below) (Q := lw_Z below #[Value.ref b] s) C0 hK hro had hbA hL hi5 hcs' (zmets_cons (zpM610 zpHyp) zmets_nil) zpLb7 sX
      have sa7 := zseg (p := p) (l := l) (e := e) (below := below) (Q := lw_Z below #[Value.ref b] s) C0 hK hro had hbA hL hi5 hcs' (zmets_cons (zpM126 zpHyp) zmets_nil) zpLa7 (fun a ha => by cases List.mem_singleton.mp ha; exact sb7)
      have sb8 := zseg (p := p) (l := l) (e := e) (below := below) (Q := lw_Z below #[Value.ref b] s) C0 hK hro had hbA hL hi5 hcs' (zmets_cons (zpM612 zpHyp) zmets_nil) zpLb8 sX
      have sa8 := zseg (p := p) (l := l) (e := e) (below := below) (Q := lw_Z below #[Value.ref b] s) C0 hK hro had hbA hL hi5 hcs' (zmets_cons (zpM128 zpHyp) zmets_nil) zpLa8 (fun a ha => by cases List.mem_singleton.mp ha; exact sb8)
      have sb9 := zseg (p := p) (l := l) (e := e) (below := below) (Q := lw_Z below #[Value.ref b] s) C0 hK hro had hbA hL hi5 hcs' (zmets_cons (zpM616 zpHyp) zmets_nil) zpLb9 sX
      have sa9 := zseg (p := p) (l := l) (e := e) (below := below) (Q := lw_Z below #[Value.ref b] s) C0 hK hro had hbA hL hi5 hcs' (zmets_cons (zpM132 zpHyp) zmets_nil) zpLa9 (fun a ha => by cases List.mem_singleton.mp ha; exact sb9)
      have sb10 := zseg (p := p) (l := l) (e := e) (below := below) (Q := lw_Z below #[Value.ref b] s) C0 hK hro had hbA hL hi5 hcs' (zmets_cons (zpM617 zpHyp) zmets_nil) zpLb10 sX
      have sa10 := zseg (p := p) (l := l) (e := e) (below := below) (Q := lw_Z below #[Value.ref b] s) C0 hK hro had hbA hL hi5 hcs' (zmets_cons (zpM134 zpHyp) zmets_nil) zpLa10 (fun a ha => by cases List.mem_singleton.mp ha; exact sb10)
      have sb11 := zseg (p := p) (l := l) (e := e) (below := below) (Q := lw_Z below #[Value.ref b] s) C0 hK hro had hbA hL hi5 hcs' (zmets_cons (zpM619 zpHyp) zmets_nil) zpLb11 sX
      have sa11 := zseg (p := p) (l := l) (e := e) (below := below) (Q := lw_Z below #[Value.ref b] s) C0 hK hro had hbA hL hi5 hcs' (zmets_cons (zpM135 zpHyp) zmets_nil) zpLa11 (fun a ha => by cases List.mem_singleton.mp ha; exact sb11)
      have sb12 := zseg (p := p) (l := l) (e := e) (below := below) (Q := lw_Z below #[Value.ref b] s) C0 hK hro had hbA hL hi5 hcs' (zmets_cons (zpM621 zpHyp) zmets_nil) zpLb12 sX
      have sa12 := zseg (p := p) (l := l) (e := e) (below := below) (Q := lw_Z below #[Value.ref b] s) C0 hK hro had hbA hL hi5 hcs' (zmets_cons (zpM138 zpHyp) zmets_nil) zpLa12 (fun a ha => by cases List.mem_singleton.mp ha; exact sb12)
      have sb13 := zseg (p := p) (l := l) (e := e) (below := below) (Q := lw_Z below #[Value.ref b] s) C0 hK hro had hbA hL hi5 hcs' (zmets_cons (zpM622 zpHyp) zmets_nil) zpLb13 sX
      have sa13 := zseg (p := p) (l := l) (e := e) (below := below) (Q := lw_Z below #[Value.ref b] s) C0 hK hro had hbA hL hi5 hcs' (zmets_cons (zpM140 zpHyp) zmets_nil) zpLa13 (fun a ha => by cases List.mem_singleton.mp ha; exact sb13)
      have sb14 := zseg (p := p) (l := l) (e := e) (below := below) (Q := lw_Z below #[Value.ref b] s) C0 hK hro had hbA hL hi5 hcs' (zmets_cons (zpM630 zpHyp) zmets_nil) zpLb14 sX
      have sa14 := zseg (p := p) (l := l) (e := e) (below := below) (Q := lw_Z below #[Value.ref b] s) C0 hK hro had hbA hL hi5 hcs' (zmets_cons (zpM148 zpHyp) zmets_nil) zpLa14 (fun a ha => by cases List.mem_singleton.mp ha; exact sb14)
      have sb16 := zseg (p := p) (l := l) (e := e) (below := below) (Q := lw_Z below #[Value.ref b] s) C0 hK hro had hbA hL hi5 hcs' (zmets_cons (zpM687 zpHyp) zmets_nil) zpLb16 sX
      have sa16 := zseg (p := p) (l := l) (e := e) (below := below) (Q := lw_Z below #[Value.ref b] s) C0 hK hro had hbA hL hi5 hcs' (zmets_cons (zpM208 zpHyp) zmets_nil) zpLa16 (fun a ha => by cases List.mem_singleton.mp ha; exact sb16)
      have sb17 := zseg (p := p) (l := l) (e := e) (below := below) (Q := lw_Z below #[Value.ref b] s) C0 hK hro had hbA hL hi5 hcs' (zmets_cons (zpM691 zpHyp) zmets_nil) zpLb17 sX
      have sa17 := zseg (p := p) (l := l) (e := e) (below := below) (Q := lw_Z below #[Value.ref b] s) C0 hK hro had hbA hL hi5 hcs' (zmets_cons (zpM215 zpHyp) zmets_nil) zpLa17 (fun a ha => by cases List.mem_singleton.mp ha; exact sb17)
      have sb18 := zseg (p := p) (l := l) (e := e) (below := below) (Q := lw_Z below #[Value.ref b] s) C0 hK hro had hbA hL hi5 hcs' (zmets_cons (zpM693 zpHyp) zmets_nil) zpLb18 sX
      have sa18 := zseg (p := p) (l := l) (e := e) (below := below) (Q := lw_Z below #[Value.ref b] s) C0 hK hro had hbA hL hi5 hcs' (zmets_cons (zpM219 zpHyp) zmets_nil) zpLa18 (fun a ha => by cases List.mem_singleton.mp ha; exact sb18)
      have sb19 := zseg (p := p) (l := l) (e := e) (below := below) (Q := lw_Z below #[Value.ref b] s) C0 hK hro had hbA hL hi5 hcs' (zmets_cons (zpM694 zpHyp) zmets_nil) zpLb19 sX
      have sa19 := zseg (p := p) (l := l) (e := e) (below := below) (Q := lw_Z below #[Value.ref b] s) C0 hK hro had hbA hL hi5 hcs' (zmets_cons (zpM221 zpHyp) zmets_nil) zpLa19 (fun a ha => by cases List.mem_singleton.mp ha; exact sb19)
      have sb20 := zseg (p := p) (l := l) (e := e) (below := below) (Q := lw_Z below #[Value.ref b] s) C0 hK hro had hbA hL hi5 hcs' (zmets_cons (zpM695 zpHyp) zmets_nil) zpLb20 sX
      have sa20 := zseg (p := p) (l := l) (e := e) (below := below) (Q := lw_Z below #[Value.ref b] s) C0 hK hro had hbA hL hi5 hcs' (zmets_cons (zpM223 zpHyp) zmets_nil) zpLa20 (fun a ha => by cases List.mem_singleton.mp ha; exact sb20)
      have sb21 := zseg (p := p) (l := l) (e := e) (below := below) (Q := lw_Z below #[Value.ref b] s) C0 hK hro had hbA hL hi5 hcs' (zmets_cons (zpM696 zpHyp) zmets_nil) zpLb21 sX
      have sa21 := zseg (p := p) (l := l) (e := e) (below := below) (Q := lw_Z below #[Value.ref b] s) C0 hK hro had hbA hL hi5 hcs' (zmets_cons (zpM225 zpHyp) zmets_nil) zpLa21 (fun a ha => by cases List.mem_singleton.mp ha; exact sb21)
      have sb22 := zseg (p := p) (l := l) (e := e) (below := below) (Q := lw_Z below #[Value.ref b] s) C0 hK hro had hbA hL hi5 hcs' (zmets_cons (zpM697 zpHyp) zmets_nil) zpLb22 sX
      have sa22 := zseg (p := p) (l := l) (e := e) (below := below) (Q := lw_Z below #[Value.ref b] s) C0 hK hro had hbA hL hi5 hcs' (zmets_cons (zpM229 zpHyp) zmets_nil) zpLa22 (fun a ha => by cases List.mem_singleton.mp ha; exact sb22)
      have sb23 := zseg (p := p) (l := l) (e := e) (below := below) (Q := lw_Z below #[Value.ref b] s) C0 hK hro had hbA hL hi5 hcs' (zmets_cons (zpM699 zpHyp) zmets_nil) zpLb23 sX
      have sa23 := zseg (p := p) (l := l) (e := e) (below := below) (Q := lw_Z below #[Value.ref b] s) C0 hK hro had hbA hL hi5 hcs' (zmets_cons (zpM234 zpHyp) zmets_nil) zpLa23 (fun a ha => by cases List.mem_singleton.mp ha; exact sb23)
      have sb24 := zseg (p := p) (l := l) (e := e) (below := below) (Q := lw_Z below #[Value.ref b] s) C0 hK hro had hbA hL hi5 hcs' (zmets_cons (zpM702 zpHyp) zmets_nil) zpLb24 sX
      have sa24 := zseg (p := p) (l := l) (e := e) (below := below) (Q := lw_Z below #[Value.ref b] s) C0 hK hro had hbA hL hi5 hcs' (zmets_cons (zpM239 zpHyp) zmets_nil) zpLa24 (fun a ha => by cases List.mem_singleton.mp ha; exact sb24)
      have sb25 := zseg (p := p) (l := l) (e := e) (below := below) (Q := lw_Z below #[Value.ref b] s) C0 hK hro had hbA hL hi5 hcs' (zmets_cons (zpM703 zpHyp) zmets_nil) zpLb25 sX
      have sa25 := zseg (p := p) (l := l) (e := e) (below := below) (Q := lw_Z below #[Value.ref b] s) C0 hK hro had hbA hL hi5 hcs' (zmets_cons (zpM242 zpHyp) zmets_nil) zpLa25 (fun a ha => by cases List.mem_singleton.mp ha; exact sb25)
      have sb26 := zseg (p := p) (l := l) (e := e) (below := below) (Q := lw_Z below #[Value.ref b] s) C0 hK hro had hbA hL hi5 hcs' (zmets_cons (zpM704 zpHyp) zmets_nil) zpLb26 sX
      have sa26 := zseg (p := p) (l := l) (e := e) (below := below) (Q := lw_Z below #[Value.ref b] s) C0 hK hro had hbA hL hi5 hcs' (zmets_cons (zpM244 zpHyp) zmets_nil) zpLa26 (fun a ha => by cases List.mem_singleton.mp ha; exact sb26)
      have sb27 := zseg (p := p) (l := l) (e := e) (below := below) (Q := lw_Z below #[Value.ref b] s) C0 hK hro had hbA hL hi5 hcs' (zmets_cons (zpM705 zpHyp) zmets_nil) zpLb27 sX
      have sa27 := zseg (p := p) (l := l) (e := e) (below := below) (Q := lw_Z below #[Value.ref b] s) C0 hK hro had hbA hL hi5 hcs' (zmets_cons (zpM246 zpHyp) zmets_nil) zpLa27 (fun a ha => by cases List.mem_singleton.mp ha; exact sb27)
      have sb28 := zseg (p := p) (l := l) (e := e) (below := below) (Q := lw_Z below #[Value.ref b] s) C0 hK hro had hbA hL hi5 hcs' (zmets_cons (zpM706 zpHyp) zmets_nil) zpLb28 sX
      have sa28 := zseg (p := p) (l := l) (e := e) (below := below) (Q := lw_Z below #[Value.ref b] s) C0 hK hro had hbA hL hi5 hcs' (zmets_cons (zpM248 zpHyp) zmets_nil) zpLa28 (fun a ha => by cases List.mem_singleton.mp ha; exact sb28)
      have sb29 := zseg (p := p) (l := l) (e := e) (below := below) (Q := lw_Z below #[Value.ref b] s) C0 hK hro had hbA hL hi5 hcs' (zmets_cons (zpM719 zpHyp) zmets_nil) zpLb29 sX
      have sa29 := zseg (p := p) (l := l) (e := e) (below := below) (Q := lw_Z below #[Value.ref b] s) C0 hK hro had hbA hL hi5 hcs' (zmets_cons (zpM438 zpHyp) zmets_nil) zpLa29 (fun a ha => by cases List.mem_singleton.mp ha; exact sb29)
      have sb30 := zseg (p := p) (l := l) (e := e) (below := below) (Q := lw_Z below #[Value.ref b] s) C0 hK hro had hbA hL hi5 hcs' (zmets_cons (zpM720 zpHyp) zmets_nil) zpLb30 sX
      have sa30 := zseg (p := p) (l := l) (e := e) (below := below) (Q := lw_Z below #[Value.ref b] s) C0 hK hro had hbA hL hi5 hcs' (zmets_cons (zpM440 zpHyp) zmets_nil) zpLa30 (fun a ha => by cases List.mem_singleton.mp ha; exact sb30)
      have sb34 := zseg (p := p) (l := l) (e := e) (below := below) (Q := lw_Z below #[Value.ref b] s) C0 hK hro had hbA hL hi5 hcs' (zmets_cons (zpM725 zpHyp) zmets_nil) zpLb34 sX
      have sa34 := zseg (p := p) (l := l) (e := e) (below := below) (Q := lw_Z below #[Value.ref b] s) C0 hK hro had hbA hL hi5 hcs' (zmets_cons (zpM450 zpHyp) zmets_nil) zpLa34 (fun a ha => by cases List.mem_singleton.mp ha; exact sb34)
      have sb35 := zseg (p := p) (l := l) (e := e) (below := below) (Q := lw_Z below #[Value.ref b] s) C0 hK hro had hbA hL hi5 hcs' (zmets_cons (zpM726 zpHyp) zmets_nil) zpLb35 sX
      have sa35 := zseg (p := p) (l := l) (e := e) (below := below) (Q := lw_Z below #[Value.ref b] s) C0 hK hro had hbA hL hi5 hcs' (zmets_cons (zpM513 zpHyp) zmets_nil) zpLa35 (fun a ha => by cases List.mem_singleton.mp ha; exact sb35)
      have sb36 := zseg (p := p) (l := l) (e := e) (below := below) (Q := lw_Z below #[Value.ref b] s) C0 hK hro had hbA hL hi5 hcs' (zmets_cons (zpM735 zpHyp) zmets_nil) zpLb36 sX
      have sa36 := zseg (p := p) (l := l) (e := e) (below := below) (Q := lw_Z below #[Value.ref b] s) C0 hK hro had hbA hL hi5 hcs' (zmets_cons (zpM516 zpHyp) zmets_nil) zpLa36 (fun a ha => by cases List.mem_singleton.mp ha; exact sb36)
      have sb37 := zseg (p := p) (l := l) (e := e) (below := below) (Q := lw_Z below #[Value.ref b] s) C0 hK hro had hbA hL hi5 hcs' (zmets_cons (zpM736 zpHyp) zmets_nil) zpLb37 sX
      have sa37 := zseg (p := p) (l := l) (e := e) (below := below) (Q := lw_Z below #[Value.ref b] s) C0 hK hro had hbA hL hi5 hcs' (zmets_cons (zpM517 zpHyp) zmets_nil) zpLa37 (fun a ha => by cases List.mem_singleton.mp ha; exact sb37)
      have zpLj15_ := zseg (p := p) (l := l) (e := e) (below := below) (Q := lw_Z below #[Value.ref b] s) C0 hK hro had hbA hL hi5 hcs' (zmets_cons (zpM152 zpHyp) (zmets_cons (zpM632 zpHyp) zmets_nil)) zpLj15 (List.forall_mem_cons.mpr ⟨sE zpLS (List.mem_of_getElem? (i := 0) rfl), List.forall_mem_cons.mpr ⟨sE zpTrl (List.mem_of_getElem? (i := 1) rfl), fun _ h => absurd h List.not_mem_nil⟩⟩)
      have sa15 : zStop p l e s m below meth c b L xs D tys A ad (lw_Z below #[Value.ref b] s) ce sl i 695 zpLS := by
        intro gh hg w hR ws0 u ls st ws H locs hG
        have hr0 : w 0 = w 1 := hR (1, [0, 1], []) (List.mem_of_getElem? (i := 26) rfl)
        exact zpLj15_ gh hg w hR ws0 u ls st ws H locs (zref hG trivial ⟨⟨_, _, rfl, rfl, by first | omega | (simp only; omega)⟩, ⟨⟨_, _, rfl, rfl, by first | omega | (simp only; omega)⟩, trivial⟩⟩)
      have zpLj310_ := zseg (p := p) (l := l) (e := e) (below := below) (Q := lw_Z below #[Value.ref b] s) C0 hK hro had hbA hL hi5 hcs' (zmets_cons (zpM5 zpHyp) (zmets_cons (zpM522 zpHyp) zmets_nil)) zpLj310 (List.forall_mem_cons.mpr ⟨sE zpLS (List.mem_of_getElem? (i := 0) rfl), List.forall_mem_cons.mpr ⟨sE zpTno0 (List.mem_of_getElem? (i := 2) rfl), List.forall_mem_cons.mpr ⟨sE zpTru0 (List.mem_of_getElem? (i := 3) rfl), fun _ h => absurd h List.not_mem_nil⟩⟩⟩)
      have zpLj311_ := zseg (p := p) (l := l) (e := e) (below := below) (Q := lw_Z below #[Value.ref b] s) C0 hK hro had hbA hL hi5 hcs' (zmets_cons (zpM8 zpHyp) (zmets_cons (zpM523 zpHyp) zmets_nil)) zpLj311 (List.forall_mem_cons.mpr ⟨sE zpLS (List.mem_of_getElem? (i := 0) rfl), List.forall_mem_cons.mpr ⟨sE zpTno1 (List.mem_of_getElem? (i := 5) rfl), List.forall_mem_cons.mpr ⟨sE zpTru1 (List.mem_of_getElem? (i := 6) rfl), fun _ h => absurd h List.not_mem_nil⟩⟩⟩)
      have zpLj312_ := zseg (p := p) (l := l) (e := e) (below := below) (Q := lw_Z below #[Value.ref b] s) C0 hK hro had hbA hL hi5 hcs' (zmets_cons (zpM11 zpHyp) (zmets_cons (zpM524 zpHyp) zmets_nil)) zpLj312 (List.forall_mem_cons.mpr ⟨sE zpLS (List.mem_of_getElem? (i := 0) rfl), List.forall_mem_cons.mpr ⟨sE zpTno2 (List.mem_of_getElem? (i := 8) rfl), List.forall_mem_cons.mpr ⟨sE zpTru2 (List.mem_of_getElem? (i := 9) rfl), fun _ h => absurd h List.not_mem_nil⟩⟩⟩)
      have zpLj313_ := zseg (p := p) (l := l) (e := e) (below := below) (Q := lw_Z below #[Value.ref b] s) C0 hK hro had hbA hL hi5 hcs' (zmets_cons (zpM14 zpHyp) (zmets_cons (zpM525 zpHyp) zmets_nil)) zpLj313 (List.forall_mem_cons.mpr ⟨sE zpLS (List.mem_of_getElem? (i := 0) rfl), List.forall_mem_cons.mpr ⟨sE zpTno3 (List.mem_of_getElem? (i := 11) rfl), List.forall_mem_cons.mpr ⟨sE zpTru3 (List.mem_of_getElem? (i := 12) rfl), fun _ h => absurd h List.not_mem_nil⟩⟩⟩)
      have zpLj314_ := zseg (p := p) (l := l) (e := e) (below := below) (Q := lw_Z below #[Value.ref b] s) C0 hK hro had hbA hL hi5 hcs' (zmets_cons (zpM17 zpHyp) (zmets_cons (zpM526 zpHyp) zmets_nil)) zpLj314 (List.forall_mem_cons.mpr ⟨sE zpLS (List.mem_of_getElem? (i := 0) rfl), List.forall_mem_cons.mpr ⟨sE zpTno4 (List.mem_of_getElem? (i := 14) rfl), List.forall_mem_cons.mpr ⟨sE zpTru4 (List.mem_of_getElem? (i := 15) rfl), fun _ h => absurd h List.not_mem_nil⟩⟩⟩)
      have zpLj315_ := zseg (p := p) (l := l) (e := e) (below := below) (Q := lw_Z below #[Value.ref b] s) C0 hK hro had hbA hL hi5 hcs' (zmets_cons (zpM20 zpHyp) (zmets_cons (zpM527 zpHyp) zmets_nil)) zpLj315 (List.forall_mem_cons.mpr ⟨sE zpLS (List.mem_of_getElem? (i := 0) rfl), List.forall_mem_cons.mpr ⟨sE zpTno5 (List.mem_of_getElem? (i := 17) rfl), List.forall_mem_cons.mpr ⟨sE zpTru5 (List.mem_of_getElem? (i := 18) rfl), fun _ h => absurd h List.not_mem_nil⟩⟩⟩)
      have zpLj31n_ := zseg (p := p) (l := l) (e := e) (below := below) (Q := lw_Z below #[Value.ref b] s) C0 hK hro had hbA hL hi5 hcs' (zmets_cons (zpM21 zpHyp) (zmets_cons (zpM528 zpHyp) zmets_nil)) zpLj31n (List.forall_mem_cons.mpr ⟨sE zpLS (List.mem_of_getElem? (i := 0) rfl), fun _ h => absurd h List.not_mem_nil⟩)
      have zpLj31b_ := zseg (p := p) (l := l) (e := e) (below := below) (Q := lw_Z below #[Value.ref b] s) C0 hK hro had hbA hL hi5 hcs' (zmets_cons (zpM22 zpHyp) (zmets_cons (zpM529 zpHyp) zmets_nil)) zpLj31b (List.forall_mem_cons.mpr ⟨sE zpLS (List.mem_of_getElem? (i := 0) rfl), fun _ h => absurd h List.not_mem_nil⟩)
      have sa31 : zStop p l e s m below meth c b L xs D tys A ad (lw_Z below #[Value.ref b] s) ce sl i 1183 zpLS := by
        intro gh hg w hR ws0 u ls st ws H locs hG
        have hr0 : w 0 = w 1 := hR (1, [0, 1], []) (List.mem_of_getElem? (i := 26) rfl)
        have hf := zin1' (zfullI (xs (i + 1)))
        have hc : (xs (i + 1)).toInt < 0 ∨ 5 < (xs (i + 1)).toInt ∨ (xs (i + 1)).toInt = 0 ∨ (xs (i + 1)).toInt = 1 ∨ (xs (i + 1)).toInt = 2 ∨ (xs (i + 1)).toInt = 3 ∨ (xs (i + 1)).toInt = 4 ∨ (xs (i + 1)).toInt = 5 := by omega
        rcases hc with h | h | h | h | h | h | h | h
        · exact zpLj31n_ gh hg w hR ws0 u ls st ws H locs (zref hG ⟨⟨_, rfl, zin1 (by omega) (by omega)⟩, trivial⟩ ⟨⟨_, _, rfl, rfl, by first | omega | (simp only; omega)⟩, ⟨⟨_, _, rfl, rfl, by first | omega | (simp only; omega)⟩, trivial⟩⟩)
        · exact zpLj31b_ gh hg w hR ws0 u ls st ws H locs (zref hG ⟨⟨_, rfl, zin1 (by omega) (by omega)⟩, trivial⟩ ⟨⟨_, _, rfl, rfl, by first | omega | (simp only; omega)⟩, ⟨⟨_, _, rfl, rfl, by first | omega | (simp only; omega)⟩, trivial⟩⟩)
        · exact zpLj310_ gh hg w hR ws0 u ls st ws H locs (zref hG ⟨⟨_, rfl, zin1 (by omega) (by omega)⟩, trivial⟩ ⟨⟨_, _, rfl, rfl, by first | omega | (simp only; omega)⟩, ⟨⟨_, _, rfl, rfl, by first | omega | (simp only; omega)⟩, trivial⟩⟩)
        · exact zpLj311_ gh hg w hR ws0 u ls st ws H locs (zref hG ⟨⟨_, rfl, zin1 (by omega) (by omega)⟩, trivial⟩ ⟨⟨_, _, rfl, rfl, by first | omega | (simp only; omega)⟩, ⟨⟨_, _, rfl, rfl, by first | omega | (simp only; omega)⟩, trivial⟩⟩)
        · exact zpLj312_ gh hg w hR ws0 u ls st ws H locs (zref hG ⟨⟨_, rfl, zin1 (by omega) (by omega)⟩, trivial⟩ ⟨⟨_, _, rfl, rfl, by first | omega | (simp only; omega)⟩, ⟨⟨_, _, rfl, rfl, by first | omega | (simp only; omega)⟩, trivial⟩⟩)
        · exact zpLj313_ gh hg w hR ws0 u ls st ws H locs (zref hG ⟨⟨_, rfl, zin1 (by omega) (by omega)⟩, trivial⟩ ⟨⟨_, _, rfl, rfl, by first | omega | (simp only; omega)⟩, ⟨⟨_, _, rfl, rfl, by first | omega | (simp only; omega)⟩, trivial⟩⟩)
        · exact zpLj314_ gh hg w hR ws0 u ls st ws H locs (zref hG ⟨⟨_, rfl, zin1 (by omega) (by omega)⟩, trivial⟩ ⟨⟨_, _, rfl, rfl, by first | omega | (simp only; omega)⟩, ⟨⟨_, _, rfl, rfl, by first | omega | (simp only; omega)⟩, trivial⟩⟩)
        · exact zpLj315_ gh hg w hR ws0 u ls st ws H locs (zref hG ⟨⟨_, rfl, zin1 (by omega) (by omega)⟩, trivial⟩ ⟨⟨_, _, rfl, rfl, by first | omega | (simp only; omega)⟩, ⟨⟨_, _, rfl, rfl, by first | omega | (simp only; omega)⟩, trivial⟩⟩)
      have zpLj320_ := zseg (p := p) (l := l) (e := e) (below := below) (Q := lw_Z below #[Value.ref b] s) C0 hK hro had hbA hL hi5 hcs' (zmets_cons (zpM25 zpHyp) (zmets_cons (zpM531 zpHyp) zmets_nil)) zpLj320 (List.forall_mem_cons.mpr ⟨sE zpLS (List.mem_of_getElem? (i := 0) rfl), List.forall_mem_cons.mpr ⟨sE zpTrw0 (List.mem_of_getElem? (i := 4) rfl), fun _ h => absurd h List.not_mem_nil⟩⟩)
      have zpLj321_ := zseg (p := p) (l := l) (e := e) (below := below) (Q := lw_Z below #[Value.ref b] s) C0 hK hro had hbA hL hi5 hcs' (zmets_cons (zpM27 zpHyp) (zmets_cons (zpM532 zpHyp) zmets_nil)) zpLj321 (List.forall_mem_cons.mpr ⟨sE zpLS (List.mem_of_getElem? (i := 0) rfl), List.forall_mem_cons.mpr ⟨sE zpTrw1 (List.mem_of_getElem? (i := 7) rfl), fun _ h => absurd h List.not_mem_nil⟩⟩)
      have zpLj322_ := zseg (p := p) (l := l) (e := e) (below := below) (Q := lw_Z below #[Value.ref b] s) C0 hK hro had hbA hL hi5 hcs' (zmets_cons (zpM29 zpHyp) (zmets_cons (zpM533 zpHyp) zmets_nil)) zpLj322 (List.forall_mem_cons.mpr ⟨sE zpLS (List.mem_of_getElem? (i := 0) rfl), List.forall_mem_cons.mpr ⟨sE zpTrw2 (List.mem_of_getElem? (i := 10) rfl), fun _ h => absurd h List.not_mem_nil⟩⟩)
      have zpLj323_ := zseg (p := p) (l := l) (e := e) (below := below) (Q := lw_Z below #[Value.ref b] s) C0 hK hro had hbA hL hi5 hcs' (zmets_cons (zpM31 zpHyp) (zmets_cons (zpM534 zpHyp) zmets_nil)) zpLj323 (List.forall_mem_cons.mpr ⟨sE zpLS (List.mem_of_getElem? (i := 0) rfl), List.forall_mem_cons.mpr ⟨sE zpTrw3 (List.mem_of_getElem? (i := 13) rfl), fun _ h => absurd h List.not_mem_nil⟩⟩)
      have zpLj324_ := zseg (p := p) (l := l) (e := e) (below := below) (Q := lw_Z below #[Value.ref b] s) C0 hK hro had hbA hL hi5 hcs' (zmets_cons (zpM33 zpHyp) (zmets_cons (zpM535 zpHyp) zmets_nil)) zpLj324 (List.forall_mem_cons.mpr ⟨sE zpLS (List.mem_of_getElem? (i := 0) rfl), List.forall_mem_cons.mpr ⟨sE zpTrw4 (List.mem_of_getElem? (i := 16) rfl), fun _ h => absurd h List.not_mem_nil⟩⟩)
      have zpLj325_ := zseg (p := p) (l := l) (e := e) (below := below) (Q := lw_Z below #[Value.ref b] s) C0 hK hro had hbA hL hi5 hcs' (zmets_cons (zpM35 zpHyp) (zmets_cons (zpM536 zpHyp) zmets_nil)) zpLj325 (List.forall_mem_cons.mpr ⟨sE zpLS (List.mem_of_getElem? (i := 0) rfl), List.forall_mem_cons.mpr ⟨sE zpTrw5 (List.mem_of_getElem? (i := 19) rfl), fun _ h => absurd h List.not_mem_nil⟩⟩)
      have zpLj32n_ := zseg (p := p) (l := l) (e := e) (below := below) (Q := lw_Z below #[Value.ref b] s) C0 hK hro had hbA hL hi5 hcs' (zmets_cons (zpM36 zpHyp) (zmets_cons (zpM537 zpHyp) zmets_nil)) zpLj32n (List.forall_mem_cons.mpr ⟨sE zpLS (List.mem_of_getElem? (i := 0) rfl), fun _ h => absurd h List.not_mem_nil⟩)
      have zpLj32b_ := zseg (p := p) (l := l) (e := e) (below := below) (Q := lw_Z below #[Value.ref b] s) C0 hK hro had hbA hL hi5 hcs' (zmets_cons (zpM37 zpHyp) (zmets_cons (zpM538 zpHyp) zmets_nil)) zpLj32b (List.forall_mem_cons.mpr ⟨sE zpLS (List.mem_of_getElem? (i := 0) rfl), fun _ h => absurd h List.not_mem_nil⟩)
      have sa32 : zStop p l e s m below meth c b L xs D tys A ad (lw_Z below #[Value.ref b] s) ce sl i 1216 zpLS := by
        intro gh hg w hR ws0 u ls st ws H locs hG
        have hr0 : w 0 = w 1 := hR (1, [0, 1], []) (List.mem_of_getElem? (i := 26) rfl)
        have hf := zin1' (zfullI (xs (i + 1)))
        have hc : (xs (i + 1)).toInt < 0 ∨ 5 < (xs (i + 1)).toInt ∨ (xs (i + 1)).toInt = 0 ∨ (xs (i + 1)).toInt = 1 ∨ (xs (i + 1)).toInt = 2 ∨ (xs (i + 1)).toInt = 3 ∨ (xs (i + 1)).toInt = 4 ∨ (xs (i + 1)).toInt = 5 := by omega
        rcases hc with h | h | h | h | h | h | h | h
        · exact zpLj32n_ gh hg w hR ws0 u ls st ws H locs (zref hG ⟨⟨_, rfl, zin1 (by omega) (by omega)⟩, trivial⟩ ⟨⟨_, _, rfl, rfl, by first | omega | (simp only; omega)⟩, ⟨⟨_, _, rfl, rfl, by first | omega | (simp only; omega)⟩, trivial⟩⟩)
        · exact zpLj32b_ gh hg w hR ws0 u ls st ws H locs (zref hG ⟨⟨_, rfl, zin1 (by omega) (by omega)⟩, trivial⟩ ⟨⟨_, _, rfl, rfl, by first | omega | (simp only; omega)⟩, ⟨⟨_, _, rfl, rfl, by first | omega | (simp only; omega)⟩, trivial⟩⟩)
        · exact zpLj320_ gh hg w hR ws0 u ls st ws H locs (zref hG ⟨⟨_, rfl, zin1 (by omega) (by omega)⟩, trivial⟩ ⟨⟨_, _, rfl, rfl, by first | omega | (simp only; omega)⟩, ⟨⟨_, _, rfl, rfl, by first | omega | (simp only; omega)⟩, trivial⟩⟩)
        · exact zpLj321_ gh hg w hR ws0 u ls st ws H locs (zref hG ⟨⟨_, rfl, zin1 (by omega) (by omega)⟩, trivial⟩ ⟨⟨_, _, rfl, rfl, by first | omega | (simp only; omega)⟩, ⟨⟨_, _, rfl, rfl, by first | omega | (simp only; omega)⟩, trivial⟩⟩)
        · exact zpLj322_ gh hg w hR ws0 u ls st ws H locs (zref hG ⟨⟨_, rfl, zin1 (by omega) (by omega)⟩, trivial⟩ ⟨⟨_, _, rfl, rfl, by first | omega | (simp only; omega)⟩, ⟨⟨_, _, rfl, rfl, by first | omega | (simp only; omega)⟩, trivial⟩⟩)
        · exact zpLj323_ gh hg w hR ws0 u ls st ws H locs (zref hG ⟨⟨_, rfl, zin1 (by omega) (by omega)⟩, trivial⟩ ⟨⟨_, _, rfl, rfl, by first | omega | (simp only; omega)⟩, ⟨⟨_, _, rfl, rfl, by first | omega | (simp only; omega)⟩, trivial⟩⟩)
        · exact zpLj324_ gh hg w hR ws0 u ls st ws H locs (zref hG ⟨⟨_, rfl, zin1 (by omega) (by omega)⟩, trivial⟩ ⟨⟨_, _, rfl, rfl, by first | omega | (simp only; omega)⟩, ⟨⟨_, _, rfl, rfl, by first | omega | (simp only; omega)⟩, trivial⟩⟩)
        · exact zpLj325_ gh hg w hR ws0 u ls st ws H locs (zref hG ⟨⟨_, rfl, zin1 (by omega) (by omega)⟩, trivial⟩ ⟨⟨_, _, rfl, rfl, by first | omega | (simp only; omega)⟩, ⟨⟨_, _, rfl, rfl, by first | omega | (simp only; omega)⟩, trivial⟩⟩)
      have zpLcn_ := zseg (p := p) (l := l) (e := e) (below := below) (Q := lw_Z below #[Value.ref b] s) C0 hK hro had hbA hL hi5 hcs' (zmets_cons (zpM449 zpHyp) (zmets_cons (zpM724 zpHyp) zmets_nil)) zpLcn (List.forall_mem_cons.mpr ⟨sE zpLS (List.mem_of_getElem? (i := 0) rfl), fun _ h => absurd h List.not_mem_nil⟩)
      have zpLcb_ := zseg (p := p) (l := l) (e := e) (below := below) (Q := lw_Z below #[Value.ref b] s) C0 hK hro had hbA hL hi5 hcs' (zmets_cons (zpM449 zpHyp) (zmets_cons (zpM724 zpHyp) zmets_nil)) zpLcb (List.forall_mem_cons.mpr ⟨sE zpLS (List.mem_of_getElem? (i := 0) rfl), fun _ h => absurd h List.not_mem_nil⟩)
      have zpLc0no_ := zseg (p := p) (l := l) (e := e) (below := below) (Q := lw_Z below #[Value.ref b] s) C0 hK hro had hbA hL hi5 hcs' (zmets_cons (zpM42 zpHyp) (zmets_cons (zpM541 zpHyp) zmets_nil)) zpLc0no (List.forall_mem_cons.mpr ⟨sE zpLS (List.mem_of_getElem? (i := 0) rfl), fun _ h => absurd h List.not_mem_nil⟩)
      have zpLc0rule_ := zseg (p := p) (l := l) (e := e) (below := below) (Q := lw_Z below #[Value.ref b] s) C0 hK hro had hbA hL hi5 hcs' (zmets_cons (zpM42 zpHyp) (zmets_cons (zpM541 zpHyp) zmets_nil)) zpLc0rule (List.forall_mem_cons.mpr ⟨sE zpLS (List.mem_of_getElem? (i := 0) rfl), fun _ h => absurd h List.not_mem_nil⟩)
      have zpLc0row_ := zseg (p := p) (l := l) (e := e) (below := below) (Q := lw_Z below #[Value.ref b] s) C0 hK hro had hbA hL hi5 hcs' (zmets_cons (zpM42 zpHyp) (zmets_cons (zpM541 zpHyp) zmets_nil)) zpLc0row (List.forall_mem_cons.mpr ⟨sE zpLS (List.mem_of_getElem? (i := 0) rfl), fun _ h => absurd h List.not_mem_nil⟩)
      have zpLc1no_ := zseg (p := p) (l := l) (e := e) (below := below) (Q := lw_Z below #[Value.ref b] s) C0 hK hro had hbA hL hi5 hcs' (zmets_cons (zpM47 zpHyp) (zmets_cons (zpM543 zpHyp) zmets_nil)) zpLc1no (List.forall_mem_cons.mpr ⟨sE zpLS (List.mem_of_getElem? (i := 0) rfl), fun _ h => absurd h List.not_mem_nil⟩)
      have zpLc1rule_ := zseg (p := p) (l := l) (e := e) (below := below) (Q := lw_Z below #[Value.ref b] s) C0 hK hro had hbA hL hi5 hcs' (zmets_cons (zpM47 zpHyp) (zmets_cons (zpM543 zpHyp) zmets_nil)) zpLc1rule (List.forall_mem_cons.mpr ⟨sE zpLS (List.mem_of_getElem? (i := 0) rfl), fun _ h => absurd h List.not_mem_nil⟩)
      have zpLc1row_ := zseg (p := p) (l := l) (e := e) (below := below) (Q := lw_Z below #[Value.ref b] s) C0 hK hro had hbA hL hi5 hcs' (zmets_cons (zpM47 zpHyp) (zmets_cons (zpM543 zpHyp) zmets_nil)) zpLc1row (List.forall_mem_cons.mpr ⟨sE zpLS (List.mem_of_getElem? (i := 0) rfl), fun _ h => absurd h List.not_mem_nil⟩)
      have zpLc2no_ := zseg (p := p) (l := l) (e := e) (below := below) (Q := lw_Z below #[Value.ref b] s) C0 hK hro had hbA hL hi5 hcs' (zmets_cons (zpM52 zpHyp) (zmets_cons (zpM545 zpHyp) zmets_nil)) zpLc2no (List.forall_mem_cons.mpr ⟨sE zpLS (List.mem_of_getElem? (i := 0) rfl), fun _ h => absurd h List.not_mem_nil⟩)
      have zpLc2rule_ := zseg (p := p) (l := l) (e := e) (below := below) (Q := lw_Z below #[Value.ref b] s) C0 hK hro had hbA hL hi5 hcs' (zmets_cons (zpM52 zpHyp) (zmets_cons (zpM545 zpHyp) zmets_nil)) zpLc2rule (List.forall_mem_cons.mpr ⟨sE zpLS (List.mem_of_getElem? (i := 0) rfl), fun _ h => absurd h List.not_mem_nil⟩)
      have zpLc2row_ := zseg (p := p) (l := l) (e := e) (below := below) (Q := lw_Z below #[Value.ref b] s) C0 hK hro had hbA hL hi5 hcs' (zmets_cons (zpM52 zpHyp) (zmets_cons (zpM545 zpHyp) zmets_nil)) zpLc2row (List.forall_mem_cons.mpr ⟨sE zpLS (List.mem_of_getElem? (i := 0) rfl), fun _ h => absurd h List.not_mem_nil⟩)
      have zpLc3no_ := zseg (p := p) (l := l) (e := e) (below := below) (Q := lw_Z below #[Value.ref b] s) C0 hK hro had hbA hL hi5 hcs' (zmets_cons (zpM57 zpHyp) (zmets_cons (zpM547 zpHyp) zmets_nil)) zpLc3no (List.forall_mem_cons.mpr ⟨sE zpLS (List.mem_of_getElem? (i := 0) rfl), fun _ h => absurd h List.not_mem_nil⟩)
      have zpLc3rule_ := zseg (p := p) (l := l) (e := e) (below := below) (Q := lw_Z below #[Value.ref b] s) C0 hK hro had hbA hL hi5 hcs' (zmets_cons (zpM57 zpHyp) (zmets_cons (zpM547 zpHyp) zmets_nil)) zpLc3rule (List.forall_mem_cons.mpr ⟨sE zpLS (List.mem_of_getElem? (i := 0) rfl), fun _ h => absurd h List.not_mem_nil⟩)
      have zpLc3row_ := zseg (p := p) (l := l) (e := e) (below := below) (Q := lw_Z below #[Value.ref b] s) C0 hK hro had hbA hL hi5 hcs' (zmets_cons (zpM57 zpHyp) (zmets_cons (zpM547 zpHyp) zmets_nil)) zpLc3row (List.forall_mem_cons.mpr ⟨sE zpLS (List.mem_of_getElem? (i := 0) rfl), fun _ h => absurd h List.not_mem_nil⟩)
      have zpLc4no_ := zseg (p := p) (l := l) (e := e) (below := below) (Q := lw_Z below #[Value.ref b] s) C0 hK hro had hbA hL hi5 hcs' (zmets_cons (zpM62 zpHyp) (zmets_cons (zpM549 zpHyp) zmets_nil)) zpLc4no (List.forall_mem_cons.mpr ⟨sE zpLS (List.mem_of_getElem? (i := 0) rfl), fun _ h => absurd h List.not_mem_nil⟩)
      have zpLc4rule_ := zseg (p := p) (l := l) (e := e) (below := below) (Q := lw_Z below #[Value.ref b] s) C0 hK hro had hbA hL hi5 hcs' (zmets_cons (zpM62 zpHyp) (zmets_cons (zpM549 zpHyp) zmets_nil)) zpLc4rule (List.forall_mem_cons.mpr ⟨sE zpLS (List.mem_of_getElem? (i := 0) rfl), fun _ h => absurd h List.not_mem_nil⟩)
      have zpLc4row_ := zseg (p := p) (l := l) (e := e) (below := below) (Q := lw_Z below #[Value.ref b] s) C0 hK hro had hbA hL hi5 hcs' (zmets_cons (zpM62 zpHyp) (zmets_cons (zpM549 zpHyp) zmets_nil)) zpLc4row (List.forall_mem_cons.mpr ⟨sE zpLS (List.mem_of_getElem? (i := 0) rfl), fun _ h => absurd h List.not_mem_nil⟩)
      have zpLc5no_ := zseg (p := p) (l := l) (e := e) (below := below) (Q := lw_Z below #[Value.ref b] s) C0 hK hro had hbA hL hi5 hcs' (zmets_cons (zpM67 zpHyp) (zmets_cons (zpM551 zpHyp) zmets_nil)) zpLc5no (List.forall_mem_cons.mpr ⟨sE zpLS (List.mem_of_getElem? (i := 0) rfl), fun _ h => absurd h List.not_mem_nil⟩)
      have zpLc5rule_ := zseg (p := p) (l := l) (e := e) (below := below) (Q := lw_Z below #[Value.ref b] s) C0 hK hro had hbA hL hi5 hcs' (zmets_cons (zpM67 zpHyp) (zmets_cons (zpM551 zpHyp) zmets_nil)) zpLc5rule (List.forall_mem_cons.mpr ⟨sE zpLS (List.mem_of_getElem? (i := 0) rfl), fun _ h => absurd h List.not_mem_nil⟩)
      have zpLc5row_ := zseg (p := p) (l := l) (e := e) (below := below) (Q := lw_Z below #[Value.ref b] s) C0 hK hro had hbA hL hi5 hcs' (zmets_cons (zpM67 zpHyp) (zmets_cons (zpM551 zpHyp) zmets_nil)) zpLc5row (List.forall_mem_cons.mpr ⟨sE zpLS (List.mem_of_getElem? (i := 0) rfl), fun _ h => absurd h List.not_mem_nil⟩)
      have sa33 : zStop p l e s m below meth c b L xs D tys A ad (lw_Z below #[Value.ref b] s) ce sl i 1259 zpLS := by
        intro gh hg w hR ws0 u ls st ws H locs hG
        have hr0 : w 0 = w 1 := hR (1, [0, 1], []) (List.mem_of_getElem? (i := 26) rfl)
        have hf := zin1' (zfullI (xs (i + 1)))
        have hc : (xs (i + 1)).toInt < 0 ∨ 5 < (xs (i + 1)).toInt ∨ (xs (i + 1)).toInt = 0 ∨ (xs (i + 1)).toInt = 1 ∨ (xs (i + 1)).toInt = 2 ∨ (xs (i + 1)).toInt = 3 ∨ (xs (i + 1)).toInt = 4 ∨ (xs (i + 1)).toInt = 5 := by omega
        rcases hc with h | h | h | h | h | h | h | h
        · exact zpLcn_ gh hg w hR ws0 u ls st ws H locs (zref hG ⟨⟨_, rfl, zin1 (by omega) (by omega)⟩, trivial⟩ trivial)
        · exact zpLcb_ gh hg w hR ws0 u ls st ws H locs (zref hG ⟨⟨_, rfl, zin1 (by omega) (by omega)⟩, trivial⟩ trivial)
        · have h9 : zR2 (w 2) (w 3) (w 4) (w 5) := hR (2, [2, 3, 4, 5], []) (List.mem_of_getElem? (i := 27) rfl)
          rcases h9 with h9 | h9 | h9
          · exact zpLc0no_ gh hg w hR ws0 u ls st ws H locs (zref hG ⟨⟨_, rfl, zin1 (by omega) (by omega)⟩, ⟨⟨_, rfl, zin1 (by omega) (by omega)⟩, ⟨⟨_, rfl, zin1 (by omega) (by omega)⟩, trivial⟩⟩⟩ trivial)
          · exact zpLc0rule_ gh hg w hR ws0 u ls st ws H locs (zref hG ⟨⟨_, rfl, zin1 (by omega) (by omega)⟩, ⟨⟨_, rfl, zin1 (by omega) (by omega)⟩, ⟨⟨_, rfl, zin1 (by omega) (by omega)⟩, trivial⟩⟩⟩ trivial)
          · exact zpLc0row_ gh hg w hR ws0 u ls st ws H locs (zref hG ⟨⟨_, rfl, zin1 (by omega) (by omega)⟩, ⟨⟨_, rfl, zin1 (by omega) (by omega)⟩, ⟨⟨_, rfl, zin1 (by omega) (by omega)⟩, trivial⟩⟩⟩ ⟨⟨_, _, rfl, rfl, by first | omega | (simp only; omega)⟩, ⟨⟨_, _, rfl, rfl, by first | omega | (simp only; omega)⟩, ⟨⟨_, _, rfl, rfl, by first | omega | (simp only; omega)⟩, ⟨⟨_, _, rfl, rfl, by first | omega | (simp only; omega)⟩, trivial⟩⟩⟩⟩)
        · have h9 : zR2 (w 6) (w 7) (w 8) (w 9) := hR (2, [6, 7, 8, 9], []) (List.mem_of_getElem? (i := 28) rfl)
          rcases h9 with h9 | h9 | h9
          · exact zpLc1no_ gh hg w hR ws0 u ls st ws H locs (zref hG ⟨⟨_, rfl, zin1 (by omega) (by omega)⟩, ⟨⟨_, rfl, zin1 (by omega) (by omega)⟩, ⟨⟨_, rfl, zin1 (by omega) (by omega)⟩, trivial⟩⟩⟩ trivial)
          · exact zpLc1rule_ gh hg w hR ws0 u ls st ws H locs (zref hG ⟨⟨_, rfl, zin1 (by omega) (by omega)⟩, ⟨⟨_, rfl, zin1 (by omega) (by omega)⟩, ⟨⟨_, rfl, zin1 (by omega) (by omega)⟩, trivial⟩⟩⟩ trivial)
          · exact zpLc1row_ gh hg w hR ws0 u ls st ws H locs (zref hG ⟨⟨_, rfl, zin1 (by omega) (by omega)⟩, ⟨⟨_, rfl, zin1 (by omega) (by omega)⟩, ⟨⟨_, rfl, zin1 (by omega) (by omega)⟩, trivial⟩⟩⟩ ⟨⟨_, _, rfl, rfl, by first | omega | (simp only; omega)⟩, ⟨⟨_, _, rfl, rfl, by first | omega | (simp only; omega)⟩, ⟨⟨_, _, rfl, rfl, by first | omega | (simp only; omega)⟩, ⟨⟨_, _, rfl, rfl, by first | omega | (simp only; omega)⟩, trivial⟩⟩⟩⟩)
        · have h9 : zR2 (w 10) (w 11) (w 12) (w 13) := hR (2, [10, 11, 12, 13], []) (List.mem_of_getElem? (i := 29) rfl)
          rcases h9 with h9 | h9 | h9
          · exact zpLc2no_ gh hg w hR ws0 u ls st ws H locs (zref hG ⟨⟨_, rfl, zin1 (by omega) (by omega)⟩, ⟨⟨_, rfl, zin1 (by omega) (by omega)⟩, ⟨⟨_, rfl, zin1 (by omega) (by omega)⟩, trivial⟩⟩⟩ trivial)
          · exact zpLc2rule_ gh hg w hR ws0 u ls st ws H locs (zref hG ⟨⟨_, rfl, zin1 (by omega) (by omega)⟩, ⟨⟨_, rfl, zin1 (by omega) (by omega)⟩, ⟨⟨_, rfl, zin1 (by omega) (by omega)⟩, trivial⟩⟩⟩ trivial)
          · exact zpLc2row_ gh hg w hR ws0 u ls st ws H locs (zref hG ⟨⟨_, rfl, zin1 (by omega) (by omega)⟩, ⟨⟨_, rfl, zin1 (by omega) (by omega)⟩, ⟨⟨_, rfl, zin1 (by omega) (by omega)⟩, trivial⟩⟩⟩ ⟨⟨_, _, rfl, rfl, by first | omega | (simp only; omega)⟩, ⟨⟨_, _, rfl, rfl, by first | omega | (simp only; omega)⟩, ⟨⟨_, _, rfl, rfl, by first | omega | (simp only; omega)⟩, ⟨⟨_, _, rfl, rfl, by first | omega | (simp only; omega)⟩, trivial⟩⟩⟩⟩)
        · have h9 : zR2 (w 14) (w 15) (w 16) (w 17) := hR (2, [14, 15, 16, 17], []) (List.mem_of_getElem? (i := 30) rfl)
          rcases h9 with h9 | h9 | h9
          · exact zpLc3no_ gh hg w hR ws0 u ls st ws H locs (zref hG ⟨⟨_, rfl, zin1 (by omega) (by omega)⟩, ⟨⟨_, rfl, zin1 (by omega) (by omega)⟩, ⟨⟨_, rfl, zin1 (by omega) (by omega)⟩, trivial⟩⟩⟩ trivial)
          · exact zpLc3rule_ gh hg w hR ws0 u ls st ws H locs (zref hG ⟨⟨_, rfl, zin1 (by omega) (by omega)⟩, ⟨⟨_, rfl, zin1 (by omega) (by omega)⟩, ⟨⟨_, rfl, zin1 (by omega) (by omega)⟩, trivial⟩⟩⟩ trivial)
          · exact zpLc3row_ gh hg w hR ws0 u ls st ws H locs (zref hG ⟨⟨_, rfl, zin1 (by omega) (by omega)⟩, ⟨⟨_, rfl, zin1 (by omega) (by omega)⟩, ⟨⟨_, rfl, zin1 (by omega) (by omega)⟩, trivial⟩⟩⟩ ⟨⟨_, _, rfl, rfl, by first | omega | (simp only; omega)⟩, ⟨⟨_, _, rfl, rfl, by first | omega | (simp only; omega)⟩, ⟨⟨_, _, rfl, rfl, by first | omega | (simp only; omega)⟩, ⟨⟨_, _, rfl, rfl, by first | omega | (simp only; omega)⟩, trivial⟩⟩⟩⟩)
        · have h9 : zR2 (w 18) (w 19) (w 20) (w 21) := hR (2, [18, 19, 20, 21], []) (List.mem_of_getElem? (i := 31) rfl)
          rcases h9 with h9 | h9 | h9
          · exact zpLc4no_ gh hg w hR ws0 u ls st ws H locs (zref hG ⟨⟨_, rfl, zin1 (by omega) (by omega)⟩, ⟨⟨_, rfl, zin1 (by omega) (by omega)⟩, ⟨⟨_, rfl, zin1 (by omega) (by omega)⟩, trivial⟩⟩⟩ trivial)
          · exact zpLc4rule_ gh hg w hR ws0 u ls st ws H locs (zref hG ⟨⟨_, rfl, zin1 (by omega) (by omega)⟩, ⟨⟨_, rfl, zin1 (by omega) (by omega)⟩, ⟨⟨_, rfl, zin1 (by omega) (by omega)⟩, trivial⟩⟩⟩ trivial)
          · exact zpLc4row_ gh hg w hR ws0 u ls st ws H locs (zref hG ⟨⟨_, rfl, zin1 (by omega) (by omega)⟩, ⟨⟨_, rfl, zin1 (by omega) (by omega)⟩, ⟨⟨_, rfl, zin1 (by omega) (by omega)⟩, trivial⟩⟩⟩ ⟨⟨_, _, rfl, rfl, by first | omega | (simp only; omega)⟩, ⟨⟨_, _, rfl, rfl, by first | omega | (simp only; omega)⟩, ⟨⟨_, _, rfl, rfl, by first | omega | (simp only; omega)⟩, ⟨⟨_, _, rfl, rfl, by first | omega | (simp only; omega)⟩, trivial⟩⟩⟩⟩)
        · have h9 : zR2 (w 22) (w 23) (w 24) (w 25) := hR (2, [22, 23, 24, 25], []) (List.mem_of_getElem? (i := 32) rfl)
          rcases h9 with h9 | h9 | h9
          · exact zpLc5no_ gh hg w hR ws0 u ls st ws H locs (zref hG ⟨⟨_, rfl, zin1 (by omega) (by omega)⟩, ⟨⟨_, rfl, zin1 (by omega) (by omega)⟩, ⟨⟨_, rfl, zin1 (by omega) (by omega)⟩, trivial⟩⟩⟩ trivial)
          · exact zpLc5rule_ gh hg w hR ws0 u ls st ws H locs (zref hG ⟨⟨_, rfl, zin1 (by omega) (by omega)⟩, ⟨⟨_, rfl, zin1 (by omega) (by omega)⟩, ⟨⟨_, rfl, zin1 (by omega) (by omega)⟩, trivial⟩⟩⟩ trivial)
          · exact zpLc5row_ gh hg w hR ws0 u ls st ws H locs (zref hG ⟨⟨_, rfl, zin1 (by omega) (by omega)⟩, ⟨⟨_, rfl, zin1 (by omega) (by omega)⟩, ⟨⟨_, rfl, zin1 (by omega) (by omega)⟩, trivial⟩⟩⟩ ⟨⟨_, _, rfl, rfl, by first | omega | (simp only; omega)⟩, ⟨⟨_, _, rfl, rfl, by first | omega | (simp only; omega)⟩, ⟨⟨_, _, rfl, rfl, by first | omega | (simp only; omega)⟩, ⟨⟨_, _, rfl, rfl, by first | omega | (simp only; omega)⟩, trivial⟩⟩⟩⟩)
      have sY : ∀ a ∈ zpLY, zStop p l e s m below meth c b L xs D tys A ad (lw_Z below #[Value.ref b] s) ce sl i a.1 a.2.1.2 := List.forall_mem_cons.mpr ⟨sa0, List.forall_mem_cons.mpr ⟨sa1, List.forall_mem_cons.mpr ⟨sa2, List.forall_mem_cons.mpr ⟨sa3, List.forall_mem_cons.mpr ⟨sa4, List.forall_mem_cons.mpr ⟨sa5, List.forall_mem_cons.mpr ⟨sa6, List.forall_mem_cons.mpr ⟨sa7, List.forall_mem_cons.mpr ⟨sa8, List.forall_mem_cons.mpr ⟨sa9, List.forall_mem_cons.mpr ⟨sa10, List.forall_mem_cons.mpr ⟨sa11, List.forall_mem_cons.mpr ⟨sa12, List.forall_mem_cons.mpr ⟨sa13, List.forall_mem_cons.mpr ⟨sa14, List.forall_mem_cons.mpr ⟨sa15, List.forall_mem_cons.mpr ⟨sa16, List.forall_mem_cons.mpr ⟨sa17, List.forall_mem_cons.mpr ⟨sa18, List.forall_mem_cons.mpr ⟨sa19, List.forall_mem_cons.mpr ⟨sa20, List.forall_mem_cons.mpr ⟨sa21, List.forall_mem_cons.mpr ⟨sa22, List.forall_mem_cons.mpr ⟨sa23, List.forall_mem_cons.mpr ⟨sa24, List.forall_mem_cons.mpr ⟨sa25, List.forall_mem_cons.mpr ⟨sa26, List.forall_mem_cons.mpr ⟨sa27, List.forall_mem_cons.mpr ⟨sa28, List.forall_mem_cons.mpr ⟨sa29, List.forall_mem_cons.mpr ⟨sa30, List.forall_mem_cons.mpr ⟨sa31, List.forall_mem_cons.mpr ⟨sa32, List.forall_mem_cons.mpr ⟨sa33, List.forall_mem_cons.mpr ⟨sa34, List.forall_mem_cons.mpr ⟨sa35, List.forall_mem_cons.mpr ⟨sa36, List.forall_mem_cons.mpr ⟨sa37, List.forall_mem_cons.mpr ⟨sE zpLS List.mem_cons_self, fun _ h => absurd h List.not_mem_nil⟩⟩⟩⟩⟩⟩⟩⟩⟩⟩⟩⟩⟩⟩⟩⟩⟩⟩⟩⟩⟩⟩⟩⟩⟩⟩⟩⟩⟩⟩⟩⟩⟩⟩⟩⟩⟩⟩⟩
      have s27 := zseg (p := p) (l := l) (e := e) (below := below) (Q := lw_Z below #[Value.ref b] s) C0 hK hro had hbA hL hi5 hcs' zmets_nil zpLs sY
      obtain ⟨hD0, w, hwt, hR⟩ := hDK
      obtain ⟨u, hG⟩ := zstop_G (D := D) (tys := tys) (A := A) (s := s) (xs := xs) hg had hL hi5 hl hP hD hS hW hD0 hwt hR
      exact s27 gh hg w hR ws u ls [] ws H locs hG
end ZLP
