/-! RUNS, LOOPS BY RANKS, A WHOLE METHOD -/
abbrev zRk : Type := List (Nat × Nat × Int)
abbrev zAnn : Type := List (Nat × zTm × zRk)
def zrkE (nu : List Int) (r : Nat × Nat × Int) : Int := match r with
  | (0, n, b) => b - (nu[n]?).getD 0
  | (1, n, b) => (nu[n]?).getD 0 - b
  | (_, _, b) => b
def zrkN (nu : List Int) (rk : zRk) (i : Nat) : Nat := (zrkE nu (rk.getD i (2, 0, 0))).toNat
def zrs (env : List zIv) (cd : List zCd) (ins : List (Nat × Int)) (o n : Nat × Nat × Int) : Bool := match o, n with
  | (0, no, bo), (0, nn, bn) => (match ins[nn]? with
    | some a => zle env cd (no, bn - bo + 1) a && zle env cd a (0, bn)
    | none => false)
  | (1, no, bo), (1, nn, bn) => (match ins[nn]? with
    | some a => zle env cd (a.1, a.2 - bn + bo + 1) (no, 0) && zle env cd (0, bn) a
    | none => false)
  | (2, _, bo), (2, _, bn) => decide (bn < bo) && decide (0 ≤ bn)
  | _, _ => false
def zre (env : List zIv) (cd : List zCd) (ins : List (Nat × Int)) (o n : Nat × Nat × Int) : Bool := match o, n with
  | (0, no, bo), (0, nn, bn) => (match ins[nn]? with
    | some a => zle env cd (no, bn - bo) a
    | none => false)
  | (1, no, bo), (1, nn, bn) => (match ins[nn]? with
    | some a => zle env cd (a.1, a.2 - bn + bo) (no, 0)
    | none => false)
  | (2, _, bo), (2, _, bn) => decide (bn ≤ bo)
  | _, _ => false
def zrkLt (env : List zIv) (cd : List zCd) (ins : List (Nat × Int)) (o n : zRk) : Bool :=
  zrs env cd ins (o.getD 0 (2, 0, 0)) (n.getD 0 (2, 0, 0)) || (zre env cd ins (o.getD 0 (2, 0, 0)) (n.getD 0 (2, 0, 0)) && (zrs env cd ins (o.getD 1 (2, 0, 0)) (n.getD 1 (2, 0, 0)) || (zre env cd ins (o.getD 1 (2, 0, 0)) (n.getD 1 (2, 0, 0)) && (zrs env cd ins (o.getD 2 (2, 0, 0)) (n.getD 2 (2, 0, 0)) || (zre env cd ins (o.getD 2 (2, 0, 0)) (n.getD 2 (2, 0, 0)) && zrs env cd ins (o.getD 3 (2, 0, 0)) (n.getD 3 (2, 0, 0)))))))
theorem zrs_ok {env : List zIv} {cd : List zCd} {ins : List (Nat × Int)} {nu nu' : List Int} {o n : Nat × Nat × Int} (h : zrs env cd ins o n = true) (h0 : nu[0]? = some 0) (he : zEnv env nu) (hc : zCds cd nu) (hi : zIn nu ins nu') (ho : o.2.1 < nu.length) : (zrkE nu' n).toNat < (zrkE nu o).toNat := by
  obtain ⟨t1, no, bo⟩ := o
  obtain ⟨t2, nn, bn⟩ := n
  have hv : nu[no]? = some nu[no] := List.getElem?_eq_getElem ho
  match t1, t2, h with
  | 0, 0, h =>
    simp only [zrs] at h
    split at h
    · rename_i a ha
      rw [Bool.and_eq_true] at h
      obtain ⟨z, g1, g2⟩ := hi.2 _ _ ha
      have l1 := zle_ok h.1 he hc (x := nu[no] + (bn - bo + 1)) ⟨_, hv, rfl⟩ g2
      have l2 := zle_ok h.2 he hc (y := 0 + bn) g2 ⟨0, h0, rfl⟩
      simp only [zrkE, g1, hv, Option.getD_some]
      omega
    · cases h
  | 1, 1, h =>
    simp only [zrs] at h
    split at h
    · rename_i a ha
      rw [Bool.and_eq_true] at h
      obtain ⟨z, g1, u, g2, g3⟩ := hi.2 _ _ ha
      have l1 := zle_ok h.1 he hc (x := u + (a.2 - bn + bo + 1)) (y := nu[no] + 0) ⟨_, g2, rfl⟩ ⟨_, hv, rfl⟩
      have l2 := zle_ok h.2 he hc (x := 0 + bn) (y := z) ⟨0, h0, rfl⟩ ⟨_, g2, g3⟩
      simp only [zrkE, g1, hv, Option.getD_some]
      omega
    · cases h
  | 2, 2, h =>
    simp only [zrs] at h
    rw [Bool.and_eq_true, decide_eq_true_eq, decide_eq_true_eq] at h
    simp only [zrkE]
    omega
theorem zre_ok {env : List zIv} {cd : List zCd} {ins : List (Nat × Int)} {nu nu' : List Int} {o n : Nat × Nat × Int} (h : zre env cd ins o n = true) (h0 : nu[0]? = some 0) (he : zEnv env nu) (hc : zCds cd nu) (hi : zIn nu ins nu') (ho : o.2.1 < nu.length) : (zrkE nu' n).toNat ≤ (zrkE nu o).toNat := by
  obtain ⟨t1, no, bo⟩ := o
  obtain ⟨t2, nn, bn⟩ := n
  have hv : nu[no]? = some nu[no] := List.getElem?_eq_getElem ho
  match t1, t2, h with
  | 0, 0, h =>
    simp only [zre] at h
    split at h
    · rename_i a ha
      obtain ⟨z, g1, g2⟩ := hi.2 _ _ ha
      have l1 := zle_ok h he hc (x := nu[no] + (bn - bo)) ⟨_, hv, rfl⟩ g2
      simp only [zrkE, g1, hv, Option.getD_some]
      omega
    · cases h
  | 1, 1, h =>
    simp only [zre] at h
    split at h
    · rename_i a ha
      obtain ⟨z, g1, u, g2, g3⟩ := hi.2 _ _ ha
      have l1 := zle_ok h he hc (x := u + (a.2 - bn + bo)) (y := nu[no] + 0) ⟨_, g2, rfl⟩ ⟨_, hv, rfl⟩
      simp only [zrkE, g1, hv, Option.getD_some]
      omega
    · cases h
  | 2, 2, h =>
    simp only [zre] at h
    rw [decide_eq_true_eq] at h
    simp only [zrkE]
    omega
/-- the order of ranks -/
def zLex (a b : Nat × Nat × Nat × Nat) : Prop := a.1 < b.1 ∨ (a.1 = b.1 ∧ (a.2.1 < b.2.1 ∨ (a.2.1 = b.2.1 ∧ (a.2.2.1 < b.2.2.1 ∨ (a.2.2.1 = b.2.2.1 ∧ a.2.2.2 < b.2.2.2)))))
theorem zLex_ind {C : Nat × Nat × Nat × Nat → Prop} (h : ∀ a, (∀ b, zLex b a → C b) → C a) : ∀ a, C a := by
  have key : ∀ x y z w : Nat, C (x, y, z, w) := by
    intro x
    induction x using Nat.strongRecOn with
    | ind x ihx =>
      intro y
      induction y using Nat.strongRecOn with
      | ind y ihy =>
        intro z
        induction z using Nat.strongRecOn with
        | ind z ihz =>
          intro w
          induction w using Nat.strongRecOn with
          | ind w ihw =>
            refine h _ (fun b hb => ?_)
            obtain ⟨b1, b2, b3, b4⟩ := b
            rcases hb with hb | ⟨e1, hb⟩
            · exact ihx b1 hb b2 b3 b4
            · have e1 : b1 = x := e1
              subst e1
              rcases hb with hb | ⟨e2, hb⟩
              · exact ihy b2 hb b3 b4
              · have e2 : b2 = y := e2
                subst e2
                rcases hb with hb | ⟨e3, hb⟩
                · exact ihz b3 hb b4
                · have e3 : b3 = z := e3
                  subst e3
                  exact ihw b4 hb
  intro a
  exact key a.1 a.2.1 a.2.2.1 a.2.2.2
def zrk3 (rk : zRk) (nu : List Int) : Nat × Nat × Nat × Nat := (zrkN nu rk 0, zrkN nu rk 1, zrkN nu rk 2, zrkN nu rk 3)
theorem zrkLt_ok {env : List zIv} {cd : List zCd} {ins : List (Nat × Int)} {nu nu' : List Int} {o n : zRk} (h : zrkLt env cd ins o n = true) (h0 : nu[0]? = some 0) (he : zEnv env nu) (hc : zCds cd nu) (hi : zIn nu ins nu') (ho : ∀ i, (o.getD i (2, 0, 0)).2.1 < nu.length) : zLex (zrk3 n nu') (zrk3 o nu) := by
  unfold zrkLt at h
  rcases Bool.or_eq_true_iff.mp h with h | h
  · exact Or.inl (zrs_ok h h0 he hc hi (ho 0))
  · rw [Bool.and_eq_true] at h
    have e0 := zre_ok h.1 h0 he hc hi (ho 0)
    rcases Nat.lt_or_eq_of_le e0 with e0 | e0
    · exact Or.inl e0
    · refine Or.inr ⟨e0, ?_⟩
      rcases Bool.or_eq_true_iff.mp h.2 with h | h
      · exact Or.inl (zrs_ok h h0 he hc hi (ho 1))
      · rw [Bool.and_eq_true] at h
        have e1 := zre_ok h.1 h0 he hc hi (ho 1)
        rcases Nat.lt_or_eq_of_le e1 with e1 | e1
        · exact Or.inl e1
        · refine Or.inr ⟨e1, ?_⟩
          rcases Bool.or_eq_true_iff.mp h.2 with h | h
          · exact Or.inl (zrs_ok h h0 he hc hi (ho 2))
          · rw [Bool.and_eq_true] at h
            have e2 := zre_ok h.1 h0 he hc hi (ho 2)
            rcases Nat.lt_or_eq_of_le e2 with e2 | e2
            · exact Or.inl e2
            · exact Or.inr ⟨e2, zrs_ok h.2 h0 he hc hi (ho 3)⟩
theorem zrk3_pre {rk : zRk} {nu0 t : List Int} (ho : ∀ i, (rk.getD i (2, 0, 0)).2.1 < nu0.length) : zrk3 rk (nu0 ++ t) = zrk3 rk nu0 := by
  have key : ∀ i, zrkE (nu0 ++ t) (rk.getD i (2, 0, 0)) = zrkE nu0 (rk.getD i (2, 0, 0)) := fun i => by
    have h := ho i
    generalize rk.getD i (2, 0, 0) = r at h
    obtain ⟨tg, n, b⟩ := r
    have h : n < nu0.length := h
    match tg with
    | 0 => simp only [zrkE]; rw [List.getElem?_append_left h]
    | 1 => simp only [zrkE]; rw [List.getElem?_append_left h]
    | k + 2 => rfl
  unfold zrk3 zrkN
  rw [key 0, key 1, key 2, key 3]
def zdeadB (env : List zIv) : Bool := env.any (fun iv => iv.isEmpty)
theorem zdeadB_ok {env : List zIv} {nu : List Int} (h : zdeadB env = true) (he : zEnv env nu) : False := by
  obtain ⟨iv, hm, h1⟩ := List.any_eq_true.mp h
  rw [List.isEmpty_iff] at h1
  subst h1
  obtain ⟨i, hi⟩ := List.getElem?_of_mem hm
  obtain ⟨a, -, p, hp, -⟩ := he.2 i _ hi
  cases hp
def zjmp (Z : zZ) (P0 : Nat) (ro : Option zRk) (rn : zRk) (T : zTm) (sg : zS) : Bool :=
  zsqL sg.1 T.2.2.2.1 sg.2.2.1 && (match zinst ((zpref Z sg.2.1 sg.2.2.1 sg.2.2.2.1 sg.2.2.2.2.2 sg.1 sg.2.2.2.2.1 (zpre P0) T.1).1, sg.2.1, sg.2.2.1, sg.2.2.2.1, (zpref Z sg.2.1 sg.2.2.1 sg.2.2.2.1 sg.2.2.2.2.2 sg.1 sg.2.2.2.2.1 (zpre P0) T.1).2, sg.2.2.2.2.2) (zpre P0) T.1 with
  | some ins => zmB ((zpref Z sg.2.1 sg.2.2.1 sg.2.2.2.1 sg.2.2.2.2.2 sg.1 sg.2.2.2.2.1 (zpre P0) T.1).1, sg.2.1, sg.2.2.1, sg.2.2.2.1, (zpref Z sg.2.1 sg.2.2.1 sg.2.2.2.1 sg.2.2.2.2.2 sg.1 sg.2.2.2.2.1 (zpre P0) T.1).2, sg.2.2.2.2.2) ins T.2 && (match ro with
    | none => true
    | some r => zrkLt (zpref Z sg.2.1 sg.2.2.1 sg.2.2.2.1 sg.2.2.2.2.2 sg.1 sg.2.2.2.2.1 (zpre P0) T.1).1 sg.2.1 ins r rn)
  | none => false)
/-- a local's few values, one by one -/
def zcases (env : List zIv) (n : Nat) (lo hi : Int) : List (List zIv) := (zE env n).flatMap (fun p => (if p.1 < lo then [env.set n [(p.1, if p.2 < lo then p.2 else lo - 1)]] else []) ++ ((zspl (if p.1 ≤ lo then lo else p.1) ((if p.2 ≤ hi then p.2 else hi) - (if p.1 ≤ lo then lo else p.1) + 1).toNat).map (fun v => env.set n [(v, v)]) ++ (if hi < p.2 then [env.set n [(if hi < p.1 then p.1 else hi + 1, p.2)]] else [])))
theorem zcases_ok {env : List zIv} {nu : List Int} {n : Nat} {lo hi : Int} (he : zEnv env nu) (hn : n < env.length) : ∃ e ∈ zcases env n lo hi, zEnv e nu := by
  have hl : n < nu.length := by rw [he.1]; exact hn
  have hv : nu[n]? = some nu[n] := List.getElem?_eq_getElem hl
  obtain ⟨p, hp, h1, h2⟩ := he.at hv
  have key : ∀ q : Int × Int, q.1 ≤ nu[n] → nu[n] ≤ q.2 → zEnv (env.set n [q]) nu := fun q q1 q2 => he.set (fun a ha => by
    rw [hv] at ha
    cases ha
    exact ⟨q, List.mem_cons_self, q1, q2⟩)
  by_cases hlo : nu[n] < lo
  · refine ⟨env.set n [(p.1, if p.2 < lo then p.2 else lo - 1)], List.mem_flatMap.mpr ⟨p, hp, List.mem_append.mpr (Or.inl ?_)⟩, key _ h1 ?_⟩
    · rw [if_pos (show p.1 < lo by omega)]
      exact List.mem_cons_self
    · show nu[n] ≤ (if p.2 < lo then p.2 else lo - 1)
      split <;> omega
  · by_cases hhi : hi < nu[n]
    · refine ⟨env.set n [(if hi < p.1 then p.1 else hi + 1, p.2)], List.mem_flatMap.mpr ⟨p, hp, List.mem_append.mpr (Or.inr (List.mem_append.mpr (Or.inr ?_)))⟩, key _ ?_ h2⟩
      · rw [if_pos (show hi < p.2 by omega)]
        exact List.mem_cons_self
      · show (if hi < p.1 then p.1 else hi + 1) ≤ nu[n]
        split <;> omega
    · refine ⟨env.set n [(nu[n], nu[n])], List.mem_flatMap.mpr ⟨p, hp, List.mem_append.mpr (Or.inr (List.mem_append.mpr (Or.inl (List.mem_map.mpr ⟨nu[n], ?_, rfl⟩))))⟩, key _ (Int.le_refl _) (Int.le_refl _)⟩
      unfold zspl
      generalize ha : (if p.1 ≤ lo then lo else p.1) = x
      generalize hb : (if p.2 ≤ hi then p.2 else hi) = y
      have hx : x ≤ nu[n] := by rw [← ha]; split <;> omega
      have hy : nu[n] ≤ y := by rw [← hb]; split <;> omega
      exact List.mem_map.mpr ⟨(nu[n] - x).toNat, List.mem_range.mpr (by omega), by omega⟩
def zrun (Z : zZ) (RS : List (List Int)) (P : zPool) (MT : zMT) (CS : List zC) (Co : zCo) (cc : ByteArray) (ann : zAnn) (sp : List (Nat × Nat × Int × Int)) (ro : Option zRk) : Nat → Nat → zS → Bool
  | 0, _, _ => false
  | f + 1, pc, sg => match (match sp.find? (fun q => q.1 == pc) with
      | some q => (match sg.2.2.1[q.2.1]? with
        | some a => if a.1 = 1 ∧ a.2.1 < sg.1.length ∧ zcst sg.1 (a.2.1, 0) = false ∧ (zE sg.1 a.2.1).any (fun p => decide (p.1 ≤ q.2.2.2) && decide (q.2.2.1 ≤ p.2)) = true then some (a.2.1, q.2.2) else none
        | none => none)
      | none => none) with
  | some n => (zcases sg.1 n.1 n.2.1 n.2.2).all (fun e => zrun Z RS P MT CS Co cc ann sp ro f pc (e, sg.2))
  | none => match decode cc pc with
    | .ok (ins, len) => (match zstep Z RS P MT CS Co pc sg ins len with
      | some su => su.all (fun x => zdeadB x.2.1 || (if ann.any (fun a => a.1 == x.1) = true then ann.any (fun a => a.1 == x.1 && zjmp Z Co.1 ro a.2.2 a.2.1 x.2)
        else zrun Z RS P MT CS Co cc ann sp ro f x.1 x.2))
      | none => false)
    | .error _ => false
section ZRU
variable {p : Program} {l : Launch} {e : Env} {R : Room} {s : State} {m : MethodId} {args : Array Value} {below : List Frame} {meth : Method} {c : Code} {cc : ByteArray} {own : String} {nL : Nat} {Ts : List Cond} {RO : zRO} {cl : List vw_C} {Z : zZ} {RS : List (List Int)} {P : zPool} {MT : zMT} {CS : List zC} {Co : zCo} {D : va_G} {tys : List (ClassId × FieldType)} {A : Nat → Prop} {ad : Nat → Nat} {gh : Nat → Int} {ws0 : va_W} {nuE : List Int} {H0 : Heap} {nu0 : List Int} {pc ce sl : Nat} {Q : State → Prop} {sg : zS} {su : List (Nat × zS)} {len : Nat}
/-- where the walk may stop: a loop's head of a smaller rank -/
def zTgt (p : Program) (l : Launch) (e : Env) (R : Room) (s : State) (m : MethodId) (args : Array Value) (below : List Frame) (meth : Method) (c : Code) (nL : Nat) (cl : List vw_C) (Z : zZ) (Co : zCo) (D : va_G) (tys : List (ClassId × FieldType)) (A : Nat → Prop) (ad : Nat → Nat) (gh : Nat → Int) (ws0 : va_W) (nuE : List Int) (H0 : Heap) (ce sl : Nat) (Q : State → Prop) (ann : zAnn) (ro : Option zRk) (nu0 : List Int) : Prop :=
  ∀ a ∈ ann, ∀ nu' : List Int, (∃ u, nu' = nuE ++ u) → (∀ r, ro = some r → zLex (zrk3 a.2.2 nu') (zrk3 r nu0)) → (∀ (ls : Array Slot) (st : List Value) (ws : va_W) (H : Heap) (locs : List Loc), zG Z D cl tys A ad gh Co.2.2.1 H0 ws0 nu' nL a.2.1.2 nu' ls st ws H locs → W p l e R s m args below meth c H locs ce sl Q (F0 m a.1 ls st))
theorem zjmp_ok {ro : Option zRk} {ann : zAnn} {a : Nat × zTm × zRk} (X : zCtx p l e R s m args below meth c cc own nL Ts RO cl Z RS P MT CS Co D tys A ad gh ws0 nuE H0 ce sl Q) (hGE : ∀ g, g < Z.2.2 → nuE[g]? = some (gh g)) (hE : ∃ u, nu0 = nuE ++ u) (hro2 : ∀ r, ro = some r → ∀ i, (r.getD i (2, 0, 0)).2.1 < nu0.length) (ha : a ∈ ann) (hT : zTgt p l e R s m args below meth c nL cl Z Co D tys A ad gh ws0 nuE H0 ce sl Q ann ro nu0) (h : zjmp Z Co.1 ro a.2.2 a.2.1 sg = true) : zWP (zG Z D cl tys A ad gh Co.2.2.1 H0 ws0 nu0 nL) (fun H locs pc ls st => W p l e R s m args below meth c H locs ce sl Q (F0 m pc ls st)) a.1 sg := by
  obtain ⟨⟨hx, hb, h0, hml, hH0, hown⟩, -, ⟨hP0, -⟩, -⟩ := X
  obtain ⟨env, cd, L, st, fa, me⟩ := sg
  unfold zjmp at h
  rw [hP0, Bool.and_eq_true] at h
  have h := h.2
  split at h
  · rename_i ins hin
    rw [Bool.and_eq_true] at h
    refine zwp_pref (L' := L) (st' := st) (srs := a.2.1.1) (acc := zpre nuE.length) h0 ?_
    intro nu ls stc ws H locs hG
    obtain ⟨hH, hN, hL, hS, hF, hM⟩ := hG
    obtain ⟨u, hu⟩ := hE
    obtain ⟨t0, ht0⟩ := hN.2.2.2
    have hle : nuE.length ≤ nu.length := by rw [ht0, hu, List.length_append, List.length_append]; omega
    obtain ⟨t1, h1⟩ := zinst_ok (sg := ((zpref Z cd L st me env fa (zpre nuE.length) a.2.1.1).1, cd, L, st, (zpref Z cd L st me env fa (zpre nuE.length) a.2.1.1).2, me)) (hN.z0 h0) hL hS hF _ _ _ _ (zpre_ok hle) hin
    obtain ⟨g1, g2, g3, g4, g5, g6⟩ := zmB_ok (sg := ((zpref Z cd L st me env fa (zpre nuE.length) a.2.1.1).1, cd, L, st, (zpref Z cd L st me env fa (zpre nuE.length) a.2.1.1).2, me)) h.1 (hN.z0 h0) hN.1 hN.2.1 hL hS hF h1
    have etk : nu.take nuE.length = nuE := by rw [ht0, hu, List.append_assoc, List.take_left']; rfl
    rw [etk] at h1 g1 g2 g3 g4 g5 g6
    refine hT a ha (nuE ++ t1) ⟨t1, rfl⟩ (fun r hr => ?_) ls stc ws H locs ⟨hH, ⟨g1, g2, fun g hg => ?_, [], by rw [List.append_nil]⟩, g3, g4, g5, g6⟩
    · subst hr
      have hlt := zrkLt_ok h.2 (hN.z0 h0) hN.1 hN.2.1 h1 (fun i => by
        have := hro2 r rfl i
        rw [ht0, List.length_append]
        omega)
      rw [ht0, zrk3_pre (hro2 r rfl)] at hlt
      exact hlt
    · have h3 := hGE g hg
      rw [List.getElem?_append_left (List.getElem?_eq_some_iff.mp h3).1]
      exact h3
  · cases h
theorem zrun_ok {ro : Option zRk} {ann : zAnn} {sp : List (Nat × Nat × Int × Int)} (X : zCtx p l e R s m args below meth c cc own nL Ts RO cl Z RS P MT CS Co D tys A ad gh ws0 nuE H0 ce sl Q) (hGE : ∀ g, g < Z.2.2 → nuE[g]? = some (gh g)) (hE : ∃ u, nu0 = nuE ++ u) (hro2 : ∀ r, ro = some r → ∀ i, (r.getD i (2, 0, 0)).2.1 < nu0.length) (hT : zTgt p l e R s m args below meth c nL cl Z Co D tys A ad gh ws0 nuE H0 ce sl Q ann ro nu0) :
    ∀ (f pc : Nat) (sg : zS), zrun Z RS P MT CS Co cc ann sp ro f pc sg = true → zWP (zG Z D cl tys A ad gh Co.2.2.1 H0 ws0 nu0 nL) (fun H locs pc ls st => W p l e R s m args below meth c H locs ce sl Q (F0 m pc ls st)) pc sg
  | 0, pc, sg, h => by cases h
  | f + 1, pc, sg, h => by
    unfold zrun at h
    split at h
    · rename_i n hn
      have hlt : n.1 < sg.1.length := by
        split at hn
        · split at hn
          · split at hn
            · rename_i hc
              cases hn
              exact hc.2.1
            · cases hn
          · cases hn
        · cases hn
      intro nu ls st ws H locs hG
      obtain ⟨e2, he2, hE2⟩ := zcases_ok hG.2.1.1 hlt
      exact zrun_ok X hGE hE hro2 hT f pc _ (List.all_eq_true.mp h e2 he2) nu ls st ws H locs ⟨hG.1, ⟨hE2, hG.2.1.2⟩, hG.2.2⟩
    rename_i hn
    split at h
    · rename_i ins len hd
      split at h
      · rename_i su hs
        refine zstep_ok X hE hs hd (fun x hx => ?_)
        have h1 := List.all_eq_true.mp h x hx
        rcases Bool.or_eq_true_iff.mp h1 with h1 | h1
        · intro nu ls st ws H locs hG
          exact (zdeadB_ok h1 hG.2.1.1).elim
        · split at h1
          · obtain ⟨a, ha, h2⟩ := List.any_eq_true.mp h1
            rw [Bool.and_eq_true, beq_iff_eq] at h2
            have := zjmp_ok X hGE hE hro2 ha hT h2.2
            rw [h2.1] at this
            exact this
          · exact zrun_ok X hGE hE hro2 hT f x.1 x.2 h1
      · cases h
    · cases h
/-- all loops of a method -/
theorem zloops {ann : zAnn} {sp : List (Nat × Nat × Int × Int)} {fuel : Nat} (X : zCtx p l e R s m args below meth c cc own nL Ts RO cl Z RS P MT CS Co D tys A ad gh ws0 nuE H0 ce sl Q) (hGE : ∀ g, g < Z.2.2 → nuE[g]? = some (gh g)) (hw : ∀ a ∈ ann, ∀ i, (a.2.2.getD i (2, 0, 0)).2.1 < a.2.1.2.1.length) (hr : ∀ a ∈ ann, zrun Z RS P MT CS Co cc ann sp (some a.2.2) fuel a.1 a.2.1.2 = true) :
    ∀ (r : Nat × Nat × Nat × Nat), ∀ a ∈ ann, ∀ nu' : List Int, (∃ u, nu' = nuE ++ u) → zrk3 a.2.2 nu' = r → (∀ (ls : Array Slot) (st : List Value) (ws : va_W) (H : Heap) (locs : List Loc), zG Z D cl tys A ad gh Co.2.2.1 H0 ws0 nu' nL a.2.1.2 nu' ls st ws H locs → W p l e R s m args below meth c H locs ce sl Q (F0 m a.1 ls st)) := by
  refine zLex_ind (fun r ih => ?_)
  intro a ha nu' hE hk ls st ws H locs hG
  have hlen : nu'.length = a.2.1.2.1.length := hG.2.1.1.1
  refine zrun_ok X hGE hE (ro := some a.2.2) (fun r2 hr2 i => by cases hr2; rw [hlen]; exact hw a ha i) (fun b hb nu2 hE2 hlx => ?_) fuel a.1 a.2.1.2 (hr a ha) nu' ls st ws H locs hG
  have := hlx a.2.2 rfl
  rw [hk] at this
  exact ih _ this b hb nu2 hE2 rfl
/-- heads that are walked by hand -/
def zHand (p : Program) (l : Launch) (e : Env) (R : Room) (s : State) (m : MethodId) (args : Array Value) (below : List Frame) (meth : Method) (c : Code) (nL : Nat) (cl : List vw_C) (Z : zZ) (Co : zCo) (D : va_G) (tys : List (ClassId × FieldType)) (A : Nat → Prop) (ad : Nat → Nat) (gh : Nat → Int) (ws0 : va_W) (nuE : List Int) (H0 : Heap) (ce sl : Nat) (Q : State → Prop) (ann : zAnn) (a : Nat × zTm × zRk) : Prop :=
  ∀ nu' : List Int, (∃ u, nu' = nuE ++ u) → zTgt p l e R s m args below meth c nL cl Z Co D tys A ad gh ws0 nuE H0 ce sl Q ann (some a.2.2) nu' → ∀ (ls : Array Slot) (st : List Value) (ws : va_W) (H : Heap) (locs : List Loc), zG Z D cl tys A ad gh Co.2.2.1 H0 ws0 nu' nL a.2.1.2 nu' ls st ws H locs → W p l e R s m args below meth c H locs ce sl Q (F0 m a.1 ls st)
theorem zloops2 {ann : zAnn} {sp : List (Nat × Nat × Int × Int)} {fuel : Nat} (X : zCtx p l e R s m args below meth c cc own nL Ts RO cl Z RS P MT CS Co D tys A ad gh ws0 nuE H0 ce sl Q) (hGE : ∀ g, g < Z.2.2 → nuE[g]? = some (gh g)) (hw : ∀ a ∈ ann, ∀ i, (a.2.2.getD i (2, 0, 0)).2.1 < a.2.1.2.1.length) (hr : ∀ a ∈ ann, zrun Z RS P MT CS Co cc ann sp (some a.2.2) fuel a.1 a.2.1.2 = true ∨ zHand p l e R s m args below meth c nL cl Z Co D tys A ad gh ws0 nuE H0 ce sl Q ann a) :
    ∀ (r : Nat × Nat × Nat × Nat), ∀ a ∈ ann, ∀ nu' : List Int, (∃ u, nu' = nuE ++ u) → zrk3 a.2.2 nu' = r → (∀ (ls : Array Slot) (st : List Value) (ws : va_W) (H : Heap) (locs : List Loc), zG Z D cl tys A ad gh Co.2.2.1 H0 ws0 nu' nL a.2.1.2 nu' ls st ws H locs → W p l e R s m args below meth c H locs ce sl Q (F0 m a.1 ls st)) := by
  refine zLex_ind (fun r ih => ?_)
  intro a ha nu' hE hk ls st ws H locs hG
  have hlen : nu'.length = a.2.1.2.1.length := hG.2.1.1.1
  have hT : zTgt p l e R s m args below meth c nL cl Z Co D tys A ad gh ws0 nuE H0 ce sl Q ann (some a.2.2) nu' := fun b hb nu2 hE2 hlx => by
    have := hlx a.2.2 rfl
    rw [hk] at this
    exact ih _ this b hb nu2 hE2 rfl
  rcases hr a ha with h | h
  · exact zrun_ok X hGE hE (ro := some a.2.2) (fun r2 hr2 i => by cases hr2; rw [hlen]; exact hw a ha i) hT fuel a.1 a.2.1.2 h nu' ls st ws H locs hG
  · exact h nu' hE hT ls st ws H locs hG
end ZRU
