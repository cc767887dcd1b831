/-! A WALK WHOSE FIRST STATE IS CUT IN PIECES, with quotients and rests that are known there -/
def zsm (sg : zS) (ins : Instr) (len : Nat) : Option zS := match sg.2.2.2.1 with
  | (1, n2, k2, _, _) :: (1, n1, k1, _, _) :: rest => if len = 1 ∧ zcst sg.1 (n2, k2) = true ∧ 0 < zlo sg.1 n2 + k2 ∧ 0 ≤ zlo sg.1 n1 + k1 ∧ (zlo sg.1 n1 + k1) / (zlo sg.1 n2 + k2) = (zhi sg.1 n1 + k1) / (zlo sg.1 n2 + k2) then (match ins with
    | .idiv => some (sg.1, sg.2.1, sg.2.2.1, (1, 0, (zlo sg.1 n1 + k1) / (zlo sg.1 n2 + k2), 0, 0) :: rest, sg.2.2.2.2.1, sg.2.2.2.2.2)
    | .irem => some (sg.1, sg.2.1, sg.2.2.1, (1, n1, k1 - (zlo sg.1 n2 + k2) * ((zlo sg.1 n1 + k1) / (zlo sg.1 n2 + k2)), 0, 0) :: rest, sg.2.2.2.2.1, sg.2.2.2.2.2)
    | _ => none) else none
  | _ => none
def zrunP (Z : zZ) (RS : List (List Int)) (P : zPool) (MT : zMT) (CS : List zC) (Co : zCo) (cc : ByteArray) : Nat → Nat → zS → Bool
  | 0, _, _ => false
  | f + 1, pc, sg => match decode cc pc with
    | .ok (ins, len) => (match zsm sg ins len with
      | some sg' => zrunP Z RS P MT CS Co cc f (pc + len) sg'
      | none => (match zstep Z RS P MT CS Co pc sg ins len with
        | some su => su.all (fun x => zdeadL x.2 || zrunP Z RS P MT CS Co cc f x.1 x.2)
        | none => false))
    | .error _ => false
section ZCU
variable {p : Program} {l : Launch} {e : Env} {R : Room} {s : State} {m : MethodId} {args : Array Value} {below : List Frame} {meth : Method} {c : Code} {Q : State → Prop} {cc : ByteArray} {pc ce sl : Nat}
variable {Z : zZ} {D : va_G} {cl : List vw_C} {tys : List (ClassId × FieldType)} {A : Nat → Prop} {ad : Nat → Nat} {gh : Nat → Int} {wr : zWr} {H0 : Heap} {ws0 : va_W} {nu0 : List Int} {nL : Nat}
variable {env : List zIv} {cd : List zCd} {L st : List zAV} {fa : List zFa} {me : List zMe}
theorem zsm_ok (hx : p.tables.exec = Jvm.exec) (hb : c.code = cc) (h0 : 0 < Z.2.2 ∧ gh 0 = 0) {sg sg' : zS} {ins : Instr} {len : Nat} (hs : zsm sg ins len = some sg') (hd : decode cc pc = .ok (ins, len)) (k : zWP (zG Z D cl tys A ad gh wr H0 ws0 nu0 nL) (fun H locs pc ls st => W p l e R s m args below meth c H locs ce sl Q (F0 m pc ls st)) (pc + len) sg') : zWP (zG Z D cl tys A ad gh wr H0 ws0 nu0 nL) (fun H locs pc ls st => W p l e R s m args below meth c H locs ce sl Q (F0 m pc ls st)) pc sg := by
  obtain ⟨env, cd, L, st, fa, me⟩ := sg
  unfold zsm at hs
  split at hs
  · rename_i n2 k2 a2 b2 n1 k1 a1 b1 rest hst
    have hst : st = (1, n2, k2, a2, b2) :: (1, n1, k1, a1, b1) :: rest := hst
    subst hst
    split at hs
    · rename_i hc
      obtain ⟨rfl, c1, c2, c3, c4⟩ := hc
      have c2 : 0 < zlo env n2 + k2 := c2
      have c3 : 0 ≤ zlo env n1 + k1 := c3
      have c4 : (zlo env n1 + k1) / (zlo env n2 + k2) = (zhi env n1 + k1) / (zlo env n2 + k2) := c4
      have key : ∀ (nu : List Int) (x y : Int32), zEnv env nu → zV nu n1 k1 x.toInt → zV nu n2 k2 y.toInt → ¬ y = 0 ∧ y.toInt = zlo env n2 + k2 ∧ x.toInt.tdiv y.toInt = (zlo env n1 + k1) / (zlo env n2 + k2) := fun nu x y hE h1 h2 => by
        have ey := zcst_ok c1 hE h2
        have ey : y.toInt = zlo env n2 + k2 := ey
        have bx := h1.bd hE
        have m1 := Int.ediv_le_ediv c2 bx.1
        have m2 := Int.ediv_le_ediv c2 bx.2
        refine ⟨fun q => ?_, ey, ?_⟩
        · rw [q, Int32.toInt_zero] at ey
          omega
        · rw [ey, Int.tdiv_eq_ediv_of_nonneg (by omega)]
          omega
      split at hs
      · cases hs
        intro nu ls stc ws H locs hG
        obtain ⟨hH, hN, hL, hS, hF, hM⟩ := hG
        match stc, hS with
        | v2 :: v1 :: stc, ⟨⟨y, hy, h2⟩, ⟨x, hx', h1⟩, hS⟩ =>
          subst hy
          subst hx'
          obtain ⟨y0, ey, ed⟩ := key nu x y hN.1 h1 h2
          have er : (x / y).toInt = x.toInt.tdiv y.toInt := zdivI (by omega)
          exact lv_idiv hx hb hd y0 (k nu ls _ ws H locs ⟨hH, hN, hL, ⟨⟨x / y, rfl, ⟨0, hN.z0 h0, by rw [er, ed]; exact (Int.zero_add _).symm⟩⟩, hS⟩, hF, hM⟩)
      · cases hs
        intro nu ls stc ws H locs hG
        obtain ⟨hH, hN, hL, hS, hF, hM⟩ := hG
        match stc, hS with
        | v2 :: v1 :: stc, ⟨⟨y, hy, h2⟩, ⟨x, hx', h1⟩, hS⟩ =>
          subst hy
          subst hx'
          obtain ⟨y0, ey, ed⟩ := key nu x y hN.1 h1 h2
          have hp : 0 < y.toInt := by omega
          have er : (x - x / y * y).toInt = x.toInt.tmod y.toInt := zremI hp
          have e2 := ztm (a := x.toInt) hp
          rw [ed] at e2
          rw [ey] at e2 er
          obtain ⟨z, z1, z2⟩ := h1
          exact lv_irem hx hb hd y0 (k nu ls _ ws H locs ⟨hH, hN, hL, ⟨⟨x - x / y * y, rfl, ⟨z, z1, by rw [er]; show x.toInt.tmod (zlo env n2 + k2) = z + (k1 - (zlo env n2 + k2) * ((zlo env n1 + k1) / (zlo env n2 + k2))); omega⟩⟩, hS⟩, hF, hM⟩)
      · cases hs
    · cases hs
  · cases hs
end ZCU
def zcovI : Int → Int → List (Int × Int) → Bool
  | a, b, [] => decide (b < a)
  | a, b, p :: r => decide (b < a) || (decide (p.1 ≤ a) && zcovI (p.2 + 1) b r)
theorem zcovI_ok : ∀ (ps : List (Int × Int)) (a b z : Int), zcovI a b ps = true → a ≤ z → z ≤ b → ∃ p ∈ ps, p.1 ≤ z ∧ z ≤ p.2
  | [], a, b, z, h, h1, h2 => by
    unfold zcovI at h
    rw [decide_eq_true_eq] at h
    omega
  | p :: r, a, b, z, h, h1, h2 => by
    unfold zcovI at h
    rw [Bool.or_eq_true, Bool.and_eq_true, decide_eq_true_eq, decide_eq_true_eq] at h
    rcases h with h | ⟨h3, h4⟩
    · omega
    · by_cases hz : z ≤ p.2
      · exact ⟨p, List.mem_cons_self, by omega, hz⟩
      · obtain ⟨p', m, q⟩ := zcovI_ok r (p.2 + 1) b z h4 (by omega) h2
        exact ⟨p', List.mem_cons_of_mem _ m, q⟩
section ZCV
variable {p : Program} {l : Launch} {e : Env} {R : Room} {s : State} {m : MethodId} {args : Array Value} {below : List Frame} {meth : Method} {c : Code} {cc : ByteArray} {own : String} {nL : Nat} {Ts : List Cond} {RO : zRO} {cl : List vw_C} {Z : zZ} {RS : List (List Int)} {P : zPool} {MT : zMT} {CS : List zC} {Co : zCo} {D : va_G} {tys : List (ClassId × FieldType)} {A : Nat → Prop} {ad : Nat → Nat} {gh : Nat → Int} {ws0 : va_W} {nuE : List Int} {H0 : Heap} {nu0 : List Int} {ce sl : Nat} {Q : State → Prop}
theorem zrunP_ok (X : zCtx p l e R s m args below meth c cc own nL Ts RO cl Z RS P MT CS Co D tys A ad gh ws0 nuE H0 ce sl Q) (hE : ∃ u, nu0 = nuE ++ u) :
    ∀ (f pc : Nat) (sg : zS), zrunP Z RS P MT CS Co cc f pc sg = true → zWP (zG Z D cl tys A ad gh Co.2.2.1 H0 ws0 nu0 nL) (fun H locs pc ls st => W p l e R s m args below meth c H locs ce sl Q (F0 m pc ls st)) pc sg
  | 0, pc, sg, h => by cases h
  | f + 1, pc, sg, h => by
    unfold zrunP at h
    split at h
    · rename_i ins len hd
      split at h
      · rename_i sg' hs
        obtain ⟨⟨hx, hb, h0, hml, hH0, hown⟩, -⟩ := id X
        exact zsm_ok hx hb h0 hs hd (zrunP_ok X hE f _ _ h)
      · split at h
        · rename_i su hs'
          refine zstep_ok X hE hs' hd (fun x hx => ?_)
          have h1 := List.all_eq_true.mp h x hx
          rcases Bool.or_eq_true_iff.mp h1 with h1 | h1
          · intro nu ls st ws H locs hG
            exact (zdeadL_ok h1 hG.2.1.1 hG.2.1.2.1).elim
          · exact zrunP_ok X hE f _ _ h1
        · cases h
    · cases h
end ZCV
/-- a contract by pieces of one argument -/
theorem zcut_met {l : Launch} {Ts : List Cond} {cl : List vw_C} {Z : zZ} {RO : zRO} {RS : List (List Int)} {MT : zMT} {CS : List zC} {C : zC} {P : zPool} {rc : Nat} (hTg : ∀ w ∈ Ts, goodWord w = true) (hR : zROk RO) (hZ : zDj Z) (hRS : zRowT RO RS) (hPk : zPok Ts cl RO MT (MT C.1).1.cls P) (hCS : ∀ C ∈ CS, zMet l Ts cl Z RO (zKof MT C)) (hrc : zrcOk rc (MT C.1).2.2.2) (hy : plainName (MT C.1).1.cls = true)
    (hroom : P.2.2.2.1.all (fun q => !(q.2.1 == 3) || (decide (20 ≤ C.2.1.1) && decide (1000 ≤ C.2.1.2))) = true) {n fuel : Nat} {a b : Int} {ps : List (Int × Int)} (hn : C.2.2.1.2.1[n]? = some [(a, b)]) (hcov : zcovI a b ps = true) (hps : ∀ q ∈ ps, zrunP Z RS P MT CS (C.2.2.1.2.1.length, C.2.2.2.1, C.2.2.2.2, C.2.1, rc) (MT C.1).2.1 fuel 0 (C.2.2.1.2.1.set n [q], C.2.2.1.2.2) = true) : zMet l Ts cl Z RO (zKof MT C) := by
  refine zmet_of hTg hR hZ hRS hPk hCS hrc hy hroom ?_
  intro p e R s m args below meth c D tys A ad gh ws nu Q hgh hQ hret X nu' ls stc ws' H locs hG
  obtain ⟨hH, hN, hL, hS, hF, hM⟩ := hG
  obtain ⟨z, z1, iv, iv1, z2, z3⟩ := hN.1.2 n _ hn
  cases List.mem_singleton.mp iv1
  obtain ⟨q, hq, q1, q2⟩ := zcovI_ok ps a b z hcov z2 z3
  refine zrunP_ok X ⟨[], by rw [List.append_nil]⟩ fuel 0 _ (hps q hq) nu' ls stc ws' H locs ⟨hH, ⟨hN.1.set (fun a' ha => ?_), hN.2⟩, hL, hS, hF, hM⟩
  rw [z1] at ha
  cases ha
  exact ⟨q, List.mem_cons_self, q1, q2⟩
def zrunPT (t : Nat → Option (Instr × Nat)) (Z : zZ) (RS : List (List Int)) (P : zPool) (MT : zMT) (CS : List zC) (Co : zCo) : Nat → Nat → zS → Bool
  | 0, _, _ => false
  | f + 1, pc, sg => match t pc with
    | some x => (match zsm sg x.1 x.2 with
      | some sg' => zrunPT t Z RS P MT CS Co f (pc + x.2) sg'
      | none => (match zstep Z RS P MT CS Co pc sg x.1 x.2 with
        | some su => su.all (fun x => zdeadL x.2 || zrunPT t Z RS P MT CS Co f x.1 x.2)
        | none => false))
    | none => false
theorem zrunPT_ok {t : Nat → Option (Instr × Nat)} {cc : ByteArray} {Z : zZ} {RS : List (List Int)} {P : zPool} {MT : zMT} {CS : List zC} {Co : zCo} (ht : ∀ (pc : Nat) (q : Instr × Nat), t pc = some q → decode cc pc = .ok q) : ∀ (f pc : Nat) (sg : zS), zrunPT t Z RS P MT CS Co f pc sg = true → zrunP Z RS P MT CS Co cc f pc sg = true
  | 0, _, _, h => by cases h
  | f + 1, pc, sg, h => by
    unfold zrunPT at h
    unfold zrunP
    cases e2 : t pc with
    | none =>
      rw [e2] at h
      cases h
    | some x =>
      rw [e2] at h
      rw [ht pc x e2]
      obtain ⟨ins, len⟩ := x
      have h : (match zsm sg ins len with
        | some sg' => zrunPT t Z RS P MT CS Co f (pc + len) sg'
        | none => (match zstep Z RS P MT CS Co pc sg ins len with
          | some su => su.all (fun x => zdeadL x.2 || zrunPT t Z RS P MT CS Co f x.1 x.2)
          | none => false)) = true := h
      show (match zsm sg ins len with
        | some sg' => zrunP Z RS P MT CS Co cc f (pc + len) sg'
        | none => (match zstep Z RS P MT CS Co pc sg ins len with
          | some su => su.all (fun x => zdeadL x.2 || zrunP Z RS P MT CS Co cc f x.1 x.2)
          | none => false)) = true
      cases e4 : zsm sg ins len with
      | some sg' =>
        rw [e4] at h
        exact zrunPT_ok ht f _ _ h
      | none =>
        rw [e4] at h
        cases e3 : zstep Z RS P MT CS Co pc sg ins len with
        | none =>
          have h : (match zstep Z RS P MT CS Co pc sg ins len with
            | some su => su.all (fun x => zdeadL x.2 || zrunPT t Z RS P MT CS Co f x.1 x.2)
            | none => false) = true := h
          rw [e3] at h
          cases h
        | some su =>
          have h : (match zstep Z RS P MT CS Co pc sg ins len with
            | some su => su.all (fun x => zdeadL x.2 || zrunPT t Z RS P MT CS Co f x.1 x.2)
            | none => false) = true := h
          rw [e3] at h
          have h : su.all (fun x => zdeadL x.2 || zrunPT t Z RS P MT CS Co f x.1 x.2) = true := h
          show su.all (fun x => zdeadL x.2 || zrunP Z RS P MT CS Co cc f x.1 x.2) = true
          refine List.all_eq_true.mpr (fun x hx => ?_)
          have h1 := List.all_eq_true.mp h x hx
          rcases Bool.or_eq_true_iff.mp h1 with h1 | h1
          · exact Bool.or_eq_true_iff.mpr (Or.inl h1)
          · exact Bool.or_eq_true_iff.mpr (Or.inr (zrunPT_ok ht f _ _ h1))
