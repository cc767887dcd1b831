/-! CONTRACTS, CALLS, RETURNS -/
/-- a contract: method, bytes, locals, answer's type, (frames, locals' words), entry, exits, what it may write -/
abbrev zK : Type := MethodName × ByteArray × Nat × Option FieldType × (Nat × Nat) × zTm × List zTm × zWr
abbrev zRO : Type := (Nat → Nat) → (Nat → Prop) → State → Heap → Prop
def zels (As : List Value) (n : Nat) : Array Slot := (lg_sl As ++ List.replicate (n - (lg_sl As).length) Slot.unset).toArray
def zrm (K : zK) : Room := { frames := K.2.2.2.2.1.1, cells := 0, slots := 0, locals := K.2.2.2.2.1.2 }
abbrev zKT (K : zK) : zS := K.2.2.2.2.2.1.2
abbrev zKA (K : zK) : List zTm := K.2.2.2.2.2.2.1
abbrev zKW (K : zK) : zWr := K.2.2.2.2.2.2.2
/-- what holds at an entry -/
def zEnt (Z : zZ) (ad : Nat → Nat) (gh : Nat → Int) (tys : List (ClassId × FieldType)) (K : zK) (ws : va_W) (nu : List Int) (As : List Value) : Prop :=
  zW Z ad gh tys ws ∧ zEnv (zKT K).1 nu ∧ zCds (zKT K).2.1 nu ∧ (∀ g, g < Z.2.2 → nu[g]? = some (gh g)) ∧ zL ad nu K.2.2.1 (zels As K.2.2.1) (zKT K).2.2.1 ∧ (zKT K).2.2.2.1 = [] ∧ zF ad nu ws (zKT K).2.2.2.2.1 ∧ (zKT K).2.2.2.2.2 = []
/-- what holds at an exit -/
def zExt (ad : Nat → Nat) (nu : List Int) (alt : zS) (ws : va_W) (v : Option Value) : Prop := ∃ t, zEnv alt.1 (nu ++ t) ∧ zCds alt.2.1 (nu ++ t) ∧ zall (zm ad (nu ++ t)) alt.2.2.2.1 v.toList ∧ zF ad (nu ++ t) ws alt.2.2.2.2.1
def zQc (Z : zZ) (D : va_G) (cl : List vw_C) (tys : List (ClassId × FieldType)) (A : Nat → Prop) (ad : Nat → Nat) (gh : Nat → Int) (alts : List zTm) (wr : zWr) (ws : va_W) (nu : List Int) : Array Value → State → Outcome → State → Prop := fun _ st o t =>
  va_F A st t ∧ ∃ (alt : zTm) (v : Option Value) (ws' : va_W), alt ∈ alts ∧ o = .returned v ∧ va_P D cl ws' t.heap ∧ va_D A ws' ∧ zW Z ad gh tys ws' ∧ zUn wr ws ws' ∧ zExt ad nu alt.2 ws' v
def zPc (D : va_G) (cl : List vw_C) (tys : List (ClassId × FieldType)) (A : Nat → Prop) (ad : Nat → Nat) (RO : zRO) (ws : va_W) (As : List Value) : Array Value → State → Prop := fun a U => a = As.toArray ∧ va_P D cl ws U.heap ∧ va_K D cl tys U ∧ RO ad A U U.heap
def zMet (l : Launch) (Ts : List Cond) (cl : List vw_C) (Z : zZ) (RO : zRO) (K : zK) : Prop := ∀ (D : va_G) (tys : List (ClassId × FieldType)) (A : Nat → Prop) (ad : Nat → Nat) (gh : Nat → Int) (ws : va_W) (nu : List Int) (As : List Value), (0 < Z.2.2 ∧ gh 0 = 0) → zEnt Z ad gh tys K ws nu As → va_D A ws →
  Met l K.1 (Cond.code K.1 K.2.1 K.2.2.1 K.2.2.2.1 :: Ts) (zrm K) (zPc D cl tys A ad RO ws As) (zQc Z D cl tys A ad gh (zKA K) (zKW K) ws nu) 0 0 A
/-- how the read-only part moves -/
def zROk (RO : zRO) : Prop := (∀ (ad : Nat → Nat) (A : Nat → Prop) (s U : State) (H : Heap), s.WarmedH U.vm → RO ad A s H → RO ad A U H) ∧ (∀ (ad : Nat → Nat) (A : Nat → Prop) (u U : State) (H : Heap), u.vm = U.vm → RO ad A u H → RO ad A U H) ∧
  ∀ (ad : Nat → Nat) (A : Nat → Prop) (U : State) (H H1 : Heap), (∀ a : Nat, a < H.size → ¬ A a → H1[a]? = H[a]?) → RO ad A U H → RO ad A U H1
theorem zPc.blind {D : va_G} {cl : List vw_C} {tys : List (ClassId × FieldType)} {A : Nat → Prop} {ad : Nat → Nat} {RO : zRO} {ws : va_W} {As : List Value} (hR : zROk RO) : FrameBlind (zPc D cl tys A ad RO ws As) := fun a U g mk ⟨h1, h2, h3, h4⟩ =>
  ⟨h1, h2, va_K.moved (u := U) (U := U.calling g mk a) (Vm.Alike.refl U.vm) h3, hR.2.1 ad A U _ _ rfl h4⟩
/-- the arguments as locals -/
def zlay : List zAV → List zAV
  | [] => []
  | a :: r => if a.1 = 2 then a :: z0 :: zlay r else a :: zlay r
def zlayP (avs : List zAV) (n : Nat) : List zAV := zlay avs ++ List.replicate (n - (zlay avs).length) z0
theorem zlay_ok {ad : Nat → Nat} {nu : List Int} : ∀ {avs : List zAV} {As : List Value}, zall (zm ad nu) avs As → (∀ a ∈ avs, a.1 ≠ 0) → (zlay avs).length = (lg_sl As).length ∧ ∀ (i b : Nat) (a : zAV), (zlay avs)[i]? = some a → a.1 ≠ 0 → ∃ v, (b + i, v) ∈ lv_args b As ∧ zm ad nu a v
  | [], [], _, _ => ⟨rfl, fun i b a h => by simp [zlay] at h⟩
  | a0 :: avs, v0 :: As, h, h0 => by
    obtain ⟨e1, e2⟩ := zlay_ok h.2 (fun a ha => h0 a (List.mem_cons_of_mem _ ha))
    have hc := zcat_ok h.1 (h0 a0 List.mem_cons_self)
    by_cases ht : a0.1 = 2
    · have hc2 : v0.category = 2 := by rw [hc]; simp [zcat, ht]
      have el : zlay (a0 :: avs) = a0 :: z0 :: zlay avs := if_pos ht
      have es : lg_sl (v0 :: As) = .val v0 :: .second :: lg_sl As := by simp [lg_sl, hc2]
      have ev : ∀ b, lv_args b (v0 :: As) = (b, v0) :: lv_args (b + 2) As := fun b => by simp [lv_args, hc2]
      rw [el, es]
      refine ⟨by simp [e1], fun i b a hi ha => ?_⟩
      rw [ev]
      match i, hi with
      | 0, hi => rw [List.getElem?_cons_zero] at hi; cases hi; exact ⟨v0, List.mem_cons_self, h.1⟩
      | 1, hi => cases hi; exact absurd rfl ha
      | i + 2, hi =>
        rw [List.getElem?_cons_succ, List.getElem?_cons_succ] at hi
        obtain ⟨v, g1, g2⟩ := e2 i (b + 2) a hi ha
        exact ⟨v, List.mem_cons_of_mem _ (by rw [show b + (i + 2) = b + 2 + i by omega]; exact g1), g2⟩
    · have hc2 : ¬ v0.category = 2 := by rw [hc]; simp [zcat, ht]
      have el : zlay (a0 :: avs) = a0 :: zlay avs := if_neg ht
      have es : lg_sl (v0 :: As) = .val v0 :: lg_sl As := by simp [lg_sl, hc2]
      have ev : ∀ b, lv_args b (v0 :: As) = (b, v0) :: lv_args (b + 1) As := fun b => by simp [lv_args, hc2]
      rw [el, es]
      refine ⟨by simp [e1], fun i b a hi ha => ?_⟩
      rw [ev]
      match i, hi with
      | 0, hi => rw [List.getElem?_cons_zero] at hi; cases hi; exact ⟨v0, List.mem_cons_self, h.1⟩
      | i + 1, hi =>
        rw [List.getElem?_cons_succ] at hi
        obtain ⟨v, g1, g2⟩ := e2 i (b + 1) a hi ha
        exact ⟨v, List.mem_cons_of_mem _ (by rw [show b + (i + 1) = b + 1 + i by omega]; exact g1), g2⟩
theorem zlayP_ok {ad : Nat → Nat} {nu : List Int} {avs : List zAV} {As : List Value} {n : Nat} (h : zall (zm ad nu) avs As) (h0 : ∀ a ∈ avs, a.1 ≠ 0) (hn : (zlay avs).length ≤ n) : zL ad nu n (zels As n) (zlayP avs n) := by
  obtain ⟨e1, e2⟩ := zlay_ok h h0
  have hl := lv_entry As (n := n) (by rw [← e1]; exact hn)
  refine ⟨hl.1, by simp [zlayP]; omega, hl.2.1, fun i a hi ha => ?_⟩
  unfold zlayP at hi
  by_cases hil : i < (zlay avs).length
  · rw [List.getElem?_append_left hil] at hi
    obtain ⟨v, g1, g2⟩ := e2 i 0 a hi ha
    exact ⟨v, hl.2.2 (i, v) (by rw [Nat.zero_add] at g1; exact g1), g2⟩
  · rw [List.getElem?_append_right (by omega)] at hi
    rw [List.getElem?_replicate] at hi
    split at hi
    · cases hi
      exact absurd rfl ha
    · cases hi
/-- behind a call -/
def zmeet1 (iv jv : zIv) : zIv := iv.flatMap (fun p => jv.filterMap (fun q => bif (zltI p.2 q.1 || zltI q.2 p.1) then none else if (if p.1 ≤ q.1 then q.1 else p.1) ≤ (if p.2 ≤ q.2 then p.2 else q.2) then some (if p.1 ≤ q.1 then q.1 else p.1, if p.2 ≤ q.2 then p.2 else q.2) else none))
theorem zmeet1_ok {iv jv : zIv} {z : Int} (h1 : zInIv z iv) (h2 : zInIv z jv) : zInIv z (zmeet1 iv jv) := by
  obtain ⟨p, hp, p1, p2⟩ := h1
  obtain ⟨q, hq, q1, q2⟩ := h2
  have a1 : (if p.1 ≤ q.1 then q.1 else p.1) ≤ z := by split <;> omega
  have a2 : z ≤ (if p.2 ≤ q.2 then p.2 else q.2) := by split <;> omega
  refine ⟨(if p.1 ≤ q.1 then q.1 else p.1, if p.2 ≤ q.2 then p.2 else q.2), List.mem_flatMap.mpr ⟨p, hp, List.mem_filterMap.mpr ⟨q, hq, ?_⟩⟩, a1, a2⟩
  have hr : (zltI p.2 q.1 || zltI q.2 p.1) = false := by
    cases hb : (zltI p.2 q.1 || zltI q.2 p.1) with
    | false => rfl
    | true =>
      rcases Bool.or_eq_true_iff.mp hb with g | g
      · have g1 := zltI_ok g
        omega
      · have g1 := zltI_ok g
        omega
  rw [hr]
  exact if_pos (Int.le_trans a1 a2)
def zrefine : List zIv → List (Nat × Int) → List zIv → List zIv
  | env, a :: as, iv :: ivs => if zin env a iv = true then zrefine env as ivs else zrefine (env.set a.1 (zmeet1 (zE env a.1) (iv.map (fun p => (p.1 - a.2, p.2 - a.2))))) as ivs
  | env, _, _ => env
theorem zrefine_ok {nu : List Int} : ∀ {env : List zIv} {ins : List (Nat × Int)} {ivs : List zIv}, zEnv env nu → (∀ (i : Nat) (a : Nat × Int) (iv : zIv), ins[i]? = some a → ivs[i]? = some iv → ∃ z, zV nu a.1 a.2 z ∧ zInIv z iv) → zEnv (zrefine env ins ivs) nu
  | env, a :: as, iv :: ivs, he, h => by
    have ht : ∀ (i : Nat) (b : Nat × Int) (jv : zIv), as[i]? = some b → ivs[i]? = some jv → ∃ z, zV nu b.1 b.2 z ∧ zInIv z jv := fun i b jv h1 h2 => h (i + 1) b jv (by rw [List.getElem?_cons_succ]; exact h1) (by rw [List.getElem?_cons_succ]; exact h2)
    unfold zrefine
    split
    · exact zrefine_ok he ht
    · refine zrefine_ok (he.set (fun x hx => ?_)) ht
      obtain ⟨z, ⟨u, hu, rfl⟩, p, hp, p1, p2⟩ := h 0 a iv rfl rfl
      rw [hu] at hx
      cases hx
      exact zmeet1_ok (he.at hu) ⟨(p.1 - a.2, p.2 - a.2), List.mem_map.mpr ⟨p, hp, rfl⟩, by show p.1 - a.2 ≤ x; omega, by show x ≤ p.2 - a.2; omega⟩
  | env, [], _, he, _ => by unfold zrefine; exact he
  | env, _ :: _, [], he, _ => by unfold zrefine; exact he
def zkillW (env : List zIv) (wr : zWr) (fa : List zFa) : List zFa := fa.filter (fun f => wr.all (fun w => (!(w.2.2.1 == 0) && !(w.2.2.2 == f.2.2.1)) || (zltI (zhi env f.1 + f.2.1) w.1 || zltI w.2.1 (zlo env f.1 + f.2.1))))
def ztrA (ins : List (Nat × Int)) (a : zAV) : zAV := match ztr ins (a.2.1, a.2.2.1) with
  | some b => (a.1, b.1, b.2, 0, 0)
  | none => z0
def ztrF (ins : List (Nat × Int)) (f : zFa) : Option zFa := (ztr ins (f.1, f.2.1)).map (fun b => (b.1, b.2, f.2.2.1, ztrA ins f.2.2.2))
def ztrC (ins : List (Nat × Int)) (q : zCd) : Option zCd := match ins[q.1]?, ins[q.2.1]? with
  | some a, some b => some (a.1, b.1, b.2 + q.2.2 - a.2)
  | _, _ => none
def zins2 (env : List zIv) (ins : List (Nat × Int)) (k : Nat) : List (Nat × Int) := ins ++ (List.range k).map (fun i => (env.length + i, 0))
/-- an exit that can't be: its ends and the caller's are apart -/
def zalB (env : List zIv) : List (Nat × Int) → List zIv → Bool
  | a :: as, iv :: ivs => (zE env a.1).any (fun p => iv.any (fun q => zleI (p.1 + a.2) q.2 && zleI q.1 (p.2 + a.2))) && zalB env as ivs
  | _, _ => true
theorem zleI_of {a b : Int} (h : a ≤ b) : zleI a b = true := by
  unfold zleI
  cases g : zltI b a with
  | false => rfl
  | true =>
    have g1 := zltI_ok g
    omega
theorem zalB_ok {env : List zIv} {nu : List Int} (he : zEnv env nu) : ∀ {ins : List (Nat × Int)} {ivs : List zIv}, (∀ (i : Nat) (a : Nat × Int) (iv : zIv), ins[i]? = some a → ivs[i]? = some iv → ∃ z, zV nu a.1 a.2 z ∧ zInIv z iv) → zalB env ins ivs = true
  | [], [], _ => rfl
  | [], _ :: _, _ => rfl
  | _ :: _, [], _ => rfl
  | a :: as, iv :: ivs, h => by
    unfold zalB
    rw [Bool.and_eq_true]
    refine ⟨?_, zalB_ok he (fun i b jv h1 h2 => h (i + 1) b jv (by rw [List.getElem?_cons_succ]; exact h1) (by rw [List.getElem?_cons_succ]; exact h2))⟩
    obtain ⟨z, ⟨u, u1, u2⟩, q, hq, q1, q2⟩ := h 0 a iv rfl rfl
    obtain ⟨p, hp, p1, p2⟩ := he.at u1
    refine List.any_eq_true.mpr ⟨p, hp, List.any_eq_true.mpr ⟨q, hq, ?_⟩⟩
    rw [Bool.and_eq_true]
    exact ⟨zleI_of (by omega), zleI_of (by omega)⟩
/-- the intervals, by conditions -/
def zfoldC : List zIv → List zCd → List zIv
  | env, [] => env
  | env, q :: r => zfoldC (zasE env (q.1, 0) (q.2.1, q.2.2)) r
theorem zfoldC_ok {nu : List Int} : ∀ {cd : List zCd} {env : List zIv}, zEnv env nu → zCds cd nu → zEnv (zfoldC env cd) nu
  | [], env, he, _ => he
  | q :: r, env, he, hc => by
    obtain ⟨x, y, h1, h2, h3⟩ := hc q List.mem_cons_self
    exact zfoldC_ok (cd := r) (zasE_ok (a := (q.1, 0)) (b := (q.2.1, q.2.2)) he ⟨x, h1, rfl⟩ ⟨y, h2, rfl⟩ (by omega)) (fun p hp => hc p (List.mem_cons_of_mem _ hp))
/-- the caller's state behind an exit -/
def zpost (sg : zS) (rest : List zAV) (ins : List (Nat × Int)) (wr : zWr) (alt : zS) : zS :=
  (zfoldC (zrefine (sg.1 ++ alt.1.drop ins.length) ins alt.1) (alt.2.1.filterMap (ztrC (zins2 sg.1 ins (alt.1.drop ins.length).length))), sg.2.1 ++ alt.2.1.filterMap (ztrC (zins2 sg.1 ins (alt.1.drop ins.length).length)), sg.2.2.1, alt.2.2.2.1.map (ztrA (zins2 sg.1 ins (alt.1.drop ins.length).length)) ++ rest,
    alt.2.2.2.2.1.filterMap (ztrF (zins2 sg.1 ins (alt.1.drop ins.length).length)) ++ zkillW sg.1 wr sg.2.2.2.2.1, sg.2.2.2.2.2)
theorem zIn.app {nu nu' : List Int} {ins : List (Nat × Int)} (h : zIn nu ins nu') (env : List zIv) (he : nu.length = env.length) (t : List Int) : zIn (nu ++ t) (zins2 env ins t.length) (nu' ++ t) := by
  refine ⟨by simp [zins2, h.1], fun i a ha => ?_⟩
  unfold zins2 at ha
  by_cases hl : i < ins.length
  · rw [List.getElem?_append_left hl] at ha
    obtain ⟨z, h1, h2⟩ := h.2 i a ha
    exact ⟨z, by rw [List.getElem?_append_left (by rw [h.1]; exact hl)]; exact h1, h2.app⟩
  · rw [List.getElem?_append_right (by omega), List.getElem?_map] at ha
    by_cases hk : i - ins.length < t.length
    · rw [List.getElem?_range hk] at ha
      cases ha
      refine ⟨t[i - ins.length], ?_, t[i - ins.length], ?_, by simp⟩
      · rw [List.getElem?_append_right (by rw [h.1]; omega), h.1]
        exact List.getElem?_eq_getElem hk
      · show (nu ++ t)[env.length + (i - ins.length)]? = _
        rw [← he, List.getElem?_append_right (by omega), show nu.length + (i - ins.length) - nu.length = i - ins.length by omega]
        exact List.getElem?_eq_getElem hk
    · have hn0 : (List.range t.length)[i - ins.length]? = none := List.getElem?_eq_none (by rw [List.length_range]; omega)
      rw [hn0] at ha
      cases ha
theorem ztrA_ok {ad : Nat → Nat} {nu nu' : List Int} {ins : List (Nat × Int)} {a : zAV} {v : Value} (h : zIn nu ins nu') (ha : zm ad nu' a v) (h4 : a.1 ≠ 4) : zm ad nu (ztrA ins a) v := by
  obtain ⟨tg, n, k, n2, k2⟩ := a
  unfold ztrA
  split
  · rename_i b hb
    obtain ⟨z, g1, g2⟩ := ztr_ok h hb
    match tg, ha with
    | 0, _ => trivial
    | 1, ⟨x, h1, h2⟩ => exact ⟨x, h1, by rw [h2.eq g1]; exact g2⟩
    | 2, ⟨x, h1, h2⟩ => exact ⟨x, h1, by rw [h2.eq g1]; exact g2⟩
    | 3, ⟨x, h1, h2⟩ => exact ⟨x, h1, by rw [h2.eq g1]; exact g2⟩
    | 4, _ => exact absurd rfl h4
  · trivial
/-- no comparison's result stands in an exit -/
def zno4 (alt : zS) : Bool := alt.2.2.2.1.all (fun a => !(a.1 == 4)) && alt.2.2.2.2.1.all (fun f => !(f.2.2.2.1 == 4))
def zwrB (big small : zWr) : Bool := small.all (fun w => big.any (fun u => decide (u.1 ≤ w.1) && (decide (w.2.1 ≤ u.2.1) && (u.2.2.1 == 0 || (!(w.2.2.1 == 0) && u.2.2.2 == w.2.2.2)))))
theorem zwrB_ok {big small : zWr} (h : zwrB big small = true) {q j : Nat} (hn : ∀ w ∈ big, ¬ zcov w q j) : ∀ w ∈ small, ¬ zcov w q j := by
  intro w hw hc
  have h1 := List.all_eq_true.mp h w hw
  obtain ⟨u, hu, h2⟩ := List.any_eq_true.mp h1
  rw [Bool.and_eq_true, Bool.and_eq_true, decide_eq_true_eq, decide_eq_true_eq, Bool.or_eq_true, Bool.and_eq_true, beq_iff_eq, beq_iff_eq] at h2
  obtain ⟨c1, c2, c3⟩ := hc
  refine hn u hu ⟨by omega, by omega, ?_⟩
  rcases h2.2.2 with z | ⟨z1, z2⟩
  · exact Or.inl z
  · right
    rcases c3 with c3 | c3
    · rw [c3] at z1
      simp at z1
    · rw [z2]; exact c3
theorem zL.mono {ad : Nat → Nat} {nu t : List Int} {nL : Nat} {ls : Array Slot} {L : List zAV} (h : zL ad nu nL ls L) : zL ad (nu ++ t) nL ls L := h.app
section ZC
variable {p : Program} {l : Launch} {e : Env} {R : Room} {s : State} {m : MethodId} {args : Array Value} {below : List Frame} {meth : Method} {c : Code} {Q : State → Prop} {cc : ByteArray} {pc ce sl : Nat}
variable {Z : zZ} {D : va_G} {cl : List vw_C} {tys : List (ClassId × FieldType)} {A : Nat → Prop} {ad : Nat → Nat} {gh : Nat → Int} {wr : zWr} {H0 : Heap} {ws0 : va_W} {nu0 : List Int} {nL : Nat}
variable {env : List zIv} {cd : List zCd} {L st : List zAV} {fa : List zFa} {me : List zMe}
theorem zpost_ok {nu nu' : List Int} {ls : Array Slot} {stc : List Value} {ws ws' : va_W} {H H1 : Heap} {locs locs1 : List Loc} {ins : List (Nat × Int)} {wr' : zWr} {alt : zS} {v : Option Value} (hG : zG Z D cl tys A ad gh wr H0 ws0 nu0 nL (env, cd, L, st, fa, me) nu ls stc ws H locs) (hi : zIn nu ins nu')
    (h4 : zno4 alt = true) (hw : zwrB wr wr' = true) (hX : zExt ad nu' alt ws' v) (hP : va_P D cl ws' H1) (hD : va_D A ws') (hS1 : va_S A H0 H1 locs1) (hW : zW Z ad gh tys ws') (hU : zUn wr' ws ws') : ∃ nu2, zG Z D cl tys A ad gh wr H0 ws0 nu0 nL (zpost (env, cd, L, st, fa, me) st ins wr' alt) nu2 ls (v.toList ++ stc) ws' H1 locs1 := by
  obtain ⟨hH, hN, hL, hS, hF, hM⟩ := hG
  obtain ⟨t, x1, x2, x3, x4⟩ := hX
  have hlen : (alt.1.drop ins.length).length = t.length := by
    have := x1.1
    rw [List.length_append, hi.1] at this
    rw [List.length_drop]
    omega
  have hi2 : zIn (nu ++ t) (zins2 env ins (alt.1.drop ins.length).length) (nu' ++ t) := by rw [hlen]; exact hi.app env hN.1.1 t
  unfold zno4 at h4
  rw [Bool.and_eq_true] at h4
  have hnl : nu.length = env.length := hN.1.1
  have hE1 : zEnv (env ++ alt.1.drop ins.length) (nu ++ t) := by
    refine ⟨by rw [List.length_append, List.length_append, hnl, hlen], fun i iv hv => ?_⟩
    by_cases hl : i < env.length
    · rw [List.getElem?_append_left hl] at hv
      obtain ⟨a, g1, g2⟩ := hN.1.2 i iv hv
      exact ⟨a, by rw [List.getElem?_append_left (by rw [hnl]; exact hl)]; exact g1, g2⟩
    · rw [List.getElem?_append_right (by omega), List.getElem?_drop] at hv
      obtain ⟨a, g1, g2⟩ := x1.2 _ iv hv
      refine ⟨a, ?_, g2⟩
      rw [List.getElem?_append_right (by rw [hi.1]; omega), hi.1, show ins.length + (i - env.length) - ins.length = i - env.length by omega] at g1
      rw [List.getElem?_append_right (by rw [hnl]; omega), hnl]
      exact g1
  have hC2 : zCds (alt.2.1.filterMap (ztrC (zins2 env ins (alt.1.drop ins.length).length))) (nu ++ t) := by
    intro q hq
    obtain ⟨q0, h1, h2⟩ := List.mem_filterMap.mp hq
    unfold ztrC at h2
    split at h2
    · rename_i a b ha hb
      cases h2
      obtain ⟨x, y, y1, y2, y3⟩ := x2 q0 h1
      obtain ⟨z1, g1, u1, g2, g3⟩ := hi2.2 _ _ ha
      obtain ⟨z2, g4, u2, g5, g6⟩ := hi2.2 _ _ hb
      rw [g1] at y1
      cases y1
      rw [g4] at y2
      cases y2
      exact ⟨u1, u2, g2, g5, by show u1 ≤ u2 + (b.2 + q0.2.2 - a.2); omega⟩
    · cases h2
  refine ⟨nu ++ t, ⟨hP, hD, hS1, hW, fun q j hn => ?_⟩, ⟨?_, ?_, ?_, ?_⟩, hL.app, ?_, ?_, hM.app⟩
  · rw [hU q j (zwrB_ok hw hn)]
    exact hH.2.2.2.2 q j hn
  · refine zfoldC_ok (zrefine_ok hE1 (fun i a iv ha hv => ?_)) hC2
    obtain ⟨z, g1, g2⟩ := hi.2 i a ha
    obtain ⟨b, g3, g4⟩ := x1.2 i iv hv
    rw [List.getElem?_append_left (List.getElem?_eq_some_iff.mp g1).1, g1] at g3
    cases g3
    exact ⟨z, g2.app, g4⟩
  · intro q hq
    rcases List.mem_append.mp hq with hq | hq
    · exact hN.2.1.app q hq
    · exact hC2 q hq
  · intro g hg
    have := hN.2.2.1 g hg
    rw [List.getElem?_append_left (List.getElem?_eq_some_iff.mp this).1]
    exact this
  · obtain ⟨t0, rfl⟩ := hN.2.2.2
    exact ⟨t0 ++ t, by rw [List.append_assoc]⟩
  · refine zall.app ?_ (hS.mono fun a v h => h.app)
    have g := List.all_eq_true.mp h4.1
    generalize alt.2.2.2.1 = sl at x3 g
    generalize v.toList = vl at x3
    induction sl generalizing vl with
    | nil => cases vl with
      | nil => trivial
      | cons _ _ => exact x3.elim
    | cons a sl ih => cases vl with
      | nil => exact x3.elim
      | cons w vl => exact ⟨ztrA_ok hi2 x3.1 (by have := g a List.mem_cons_self; simpa using this), ih (fun b hb => g b (List.mem_cons_of_mem _ hb)) vl x3.2⟩
  · intro f hf
    rcases List.mem_append.mp hf with hf | hf
    · obtain ⟨f0, h1, h2⟩ := List.mem_filterMap.mp hf
      unfold ztrF at h2
      obtain ⟨b, hb, rfl⟩ := Option.map_eq_some_iff.mp h2
      obtain ⟨q, w, y1, y2, y3⟩ := x4 f0 h1
      obtain ⟨z, g1, g2⟩ := ztr_ok hi2 hb
      have e := g1.eq y1
      subst e
      exact ⟨q, w, g2, y2, ztrA_ok hi2 y3 (by have := List.all_eq_true.mp h4.2 f0 h1; simpa using this)⟩
    · obtain ⟨h1, h2⟩ := List.mem_filter.mp hf
      obtain ⟨q, w, y1, y2, y3⟩ := hF f h1
      refine ⟨q, w, y1.app, ?_, y3.app⟩
      rw [hU q _ (fun u hu hc => ?_)]
      · exact y2
      · have h3 := List.all_eq_true.mp h2 u hu
        have bd := y1.bd hN.1
        obtain ⟨c1, c2, c3⟩ := hc
        rcases Bool.or_eq_true_iff.mp h3 with h3 | h3
        · rw [Bool.and_eq_true] at h3
          rcases c3 with c3 | c3
          · rw [c3] at h3; simp at h3
          · rw [c3] at h3; simp at h3
        · rw [Bool.or_eq_true] at h3
          simp only at bd
          rcases h3 with h3 | h3
          · have h3 := zltI_ok h3
            first | omega | (simp only at h3; omega)
          · have h3 := zltI_ok h3
            first | omega | (simp only at h3; omega)
/-- a call that runs: on with each exit -/
theorem zs_run {ws : va_W} {nu nu' : List Int} {ls : Array Slot} {stc restc : List Value} {H : Heap} {locs : List Loc} {ins : List (Nat × Int)} {alts : List zTm} {wr' : zWr} {a : Array Value} {pc' : Nat} (hpc : pc' = pc + 3) (hG : zG Z D cl tys A ad gh wr H0 ws0 nu0 nL (env, cd, L, st, fa, me) nu ls restc ws H locs) (hi : zIn nu ins nu')
    (hr : va_Run p l e R s m args below meth c H locs ce sl 0 0 (F0 m pc ls stc) restc (zQc Z D cl tys A ad gh alts wr' ws nu' a) A) (h4 : ∀ alt ∈ alts, zno4 alt.2 = true) (hw : zwrB wr wr' = true) (k : ∀ alt ∈ alts, zalB env ins alt.2.1 = true → zWP (zG Z D cl tys A ad gh wr H0 ws0 nu0 nL) (fun H locs pc ls st => W p l e R s m args below meth c H locs ce sl Q (F0 m pc ls st)) pc' (zpost (env, cd, L, st, fa, me) st ins wr' alt.2)) : W p l e R s m args below meth c H locs ce sl Q (F0 m pc ls stc) := by
  subst hpc
  intro T hT X
  obtain ⟨v, st₀, t, T', L', g0, X', hL, e1, e2, ⟨⟨hz, hk⟩, alt, v', ws', ha, hv, hP, hD, hW, hU, hX⟩, hst⟩ := hr T hT X
  cases hv
  rw [g0] at hz hk
  have hS := hG.1.2.2.1
  have hS1 : va_S A H0 T'.heap (locs ++ L') := ⟨Nat.le_trans hS.1 (by rw [e1]; exact hz), fun q h1 h2 => by rw [e1, hk q (Nat.lt_of_lt_of_le h1 hS.1) h2]; exact hS.2.1 q h1 h2, fun q hq => by
    rcases List.mem_append.mp hq with h | h
    · exact hS.2.2 q h
    · exact hL q h⟩
  obtain ⟨nu2, h2⟩ := zpost_ok hG hi (h4 alt ha) hw hX (by rw [e1]; exact hP) hD hS1 hW hU
  have hal : zalB env ins alt.2.1 = true := by
    obtain ⟨t9, x1, -⟩ := hX
    refine zalB_ok hG.2.1.1 (fun i b iv hb hv => ?_)
    obtain ⟨z, g1, g2⟩ := hi.2 i b hb
    obtain ⟨y, g3, g4⟩ := x1.2 i iv hv
    rw [List.getElem?_append_left (List.getElem?_eq_some_iff.mp g1).1, g1] at g3
    cases g3
    exact ⟨z, g2, g4⟩
  obtain ⟨t2, a1, b1⟩ := k alt ha hal nu2 ls _ ws' T'.heap _ h2 T' rfl X'
  exact ⟨t2, hst t2 a1, b1⟩
end ZC
