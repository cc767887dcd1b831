/-! THE WALK OVER INSTRUCTIONS THAT ARE DECODED ONCE -/
def zspP (sp : List (Nat × Nat × Int × Int)) (pc : Nat) (sg : zS) : Option (Nat × Int × Int) := match sp.find? (fun q => q.1 == pc) with
  | some q => (match sg.2.2.1[q.2.1]? with
    | some a => if a.1 = 1 ∧ a.2.1 < sg.1.length ∧ zcst sg.1 (a.2.1, 0) = false ∧ (zE sg.1 a.2.1).any (fun p => decide (p.1 ≤ q.2.2.2) && decide (q.2.2.1 ≤ p.2)) = true then some (a.2.1, q.2.2) else none
    | none => none)
  | none => none
def zrunT (t : Nat → Option (Instr × Nat)) (Z : zZ) (RS : List (List Int)) (P : zPool) (MT : zMT) (CS : List zC) (Co : zCo) (ann : zAnn) (sp : List (Nat × Nat × Int × Int)) (ro : Option zRk) : Nat → Nat → zS → Bool
  | 0, _, _ => false
  | f + 1, pc, sg => match zspP sp pc sg with
  | some n => (zcases sg.1 n.1 n.2.1 n.2.2).all (fun e => zrunT t Z RS P MT CS Co ann sp ro f pc (e, sg.2))
  | none => match t pc with
    | some q => (match zstep Z RS P MT CS Co pc sg q.1 q.2 with
      | some su => su.all (fun x => zdeadB x.2.1 || (if ann.any (fun a => a.1 == x.1) = true then ann.any (fun a => a.1 == x.1 && zjmp Z Co.1 ro a.2.2 a.2.1 x.2)
        else zrunT t Z RS P MT CS Co ann sp ro f x.1 x.2))
      | none => false)
    | none => false
section ZRT
variable {t : Nat → Option (Instr × Nat)} {cc : ByteArray} {Z : zZ} {RS : List (List Int)} {P : zPool} {MT : zMT} {CS : List zC} {Co : zCo} {ann : zAnn} {sp : List (Nat × Nat × Int × Int)} {ro : Option zRk} {C : zC} {rc fuel : Nat}
theorem zrunT_ok (ht : ∀ (pc : Nat) (q : Instr × Nat), t pc = some q → decode cc pc = .ok q) : ∀ (f pc : Nat) (sg : zS), zrunT t Z RS P MT CS Co ann sp ro f pc sg = true → zrun Z RS P MT CS Co cc ann sp ro f pc sg = true
  | 0, _, _, h => by cases h
  | f + 1, pc, sg, h => by
    unfold zrunT at h
    unfold zrun
    show (match zspP sp pc sg with
      | some n => (zcases sg.1 n.1 n.2.1 n.2.2).all (fun e => zrun Z RS P MT CS Co cc ann sp ro f pc (e, sg.2))
      | none => match decode cc pc with
        | .ok (ins, len) => (match zstep Z RS P MT CS Co pc sg ins len with
          | some su => su.all (fun x => zdeadB x.2.1 || (if ann.any (fun a => a.1 == x.1) = true then ann.any (fun a => a.1 == x.1 && zjmp Z Co.1 ro a.2.2 a.2.1 x.2)
            else zrun Z RS P MT CS Co cc ann sp ro f x.1 x.2))
          | none => false)
        | .error _ => false) = true
    split at h
    · rename_i n hn
      exact List.all_eq_true.mpr (fun e he => zrunT_ok ht f pc _ (List.all_eq_true.mp h e he))
    · rename_i hn
      split at h
      · rename_i q hq
        have hd := ht pc q hq
        obtain ⟨ins, len⟩ := q
        rw [hd]
        split at h
        · rename_i su hs
          have hs : zstep Z RS P MT CS Co pc sg ins len = some su := hs
          show (match zstep Z RS P MT CS Co pc sg ins len with
            | some su => su.all (fun x => zdeadB x.2.1 || (if ann.any (fun a => a.1 == x.1) = true then ann.any (fun a => a.1 == x.1 && zjmp Z Co.1 ro a.2.2 a.2.1 x.2) else zrun Z RS P MT CS Co cc ann sp ro f x.1 x.2))
            | none => false) = true
          rw [hs]
          refine List.all_eq_true.mpr (fun x hx => ?_)
          have h1 := List.all_eq_true.mp h x hx
          rcases Bool.or_eq_true_iff.mp h1 with h1 | h1
          · exact Bool.or_eq_true_iff.mpr (Or.inl h1)
          · refine Bool.or_eq_true_iff.mpr (Or.inr ?_)
            split at h1
            · rename_i hc
              rw [if_pos hc]
              exact h1
            · rename_i hc
              rw [if_neg hc]
              exact zrunT_ok ht f x.1 x.2 h1
        · cases h
      · cases h
def zcheckT (t : Nat → Option (Instr × Nat)) (Z : zZ) (RS : List (List Int)) (MT : zMT) (CS : List zC) (C : zC) (P : zPool) (rc : Nat) (ann : zAnn) (sp : List (Nat × Nat × Int × Int)) (fuel : Nat) : Bool :=
  zrunT t Z RS P MT CS (C.2.2.1.2.1.length, C.2.2.2.1, C.2.2.2.2, C.2.1, rc) ann sp none fuel 0 C.2.2.1.2 &&
  (ann.all (fun a => decide (0 < a.2.1.2.1.length) && ((a.2.2.all (fun r => decide (r.2.1 < a.2.1.2.1.length))) && zrunT t Z RS P MT CS (C.2.2.1.2.1.length, C.2.2.2.1, C.2.2.2.2, C.2.1, rc) ann sp (some a.2.2) fuel a.1 a.2.1.2)) &&
    P.2.2.2.1.all (fun q => !(q.2.1 == 3) || (decide (20 ≤ C.2.1.1) && decide (1000 ≤ C.2.1.2))))
theorem zcheckT_ok (ht : ∀ (pc : Nat) (q : Instr × Nat), t pc = some q → decode (MT C.1).2.1 pc = .ok q) (h : zcheckT t Z RS MT CS C P rc ann sp fuel = true) : zcheck Z RS MT CS C P rc ann sp fuel = true := by
  unfold zcheckT at h
  unfold zcheck
  rw [Bool.and_eq_true, Bool.and_eq_true] at h ⊢
  refine ⟨zrunT_ok ht _ _ _ h.1, List.all_eq_true.mpr (fun a ha => ?_), h.2.2⟩
  have h1 := List.all_eq_true.mp h.2.1 a ha
  rw [Bool.and_eq_true, Bool.and_eq_true] at h1 ⊢
  exact ⟨h1.1, h1.2.1, zrunT_ok ht _ _ _ h1.2.2⟩
def zheadT (t : Nat → Option (Instr × Nat)) (Z : zZ) (RS : List (List Int)) (MT : zMT) (CS : List zC) (C : zC) (P : zPool) (rc : Nat) (ann : zAnn) (sp : List (Nat × Nat × Int × Int)) (fuel : Nat) (a : Nat × zTm × zRk) : Bool := decide (0 < a.2.1.2.1.length) && ((a.2.2.all (fun r => decide (r.2.1 < a.2.1.2.1.length))) && zrunT t Z RS P MT CS (C.2.2.1.2.1.length, C.2.2.2.1, C.2.2.2.2, C.2.1, rc) ann sp (some a.2.2) fuel a.1 a.2.1.2)
theorem zheadT_ok {a : Nat × zTm × zRk} (ht : ∀ (pc : Nat) (q : Instr × Nat), t pc = some q → decode (MT C.1).2.1 pc = .ok q) (h : zheadT t Z RS MT CS C P rc ann sp fuel a = true) : zhead Z RS MT CS C P rc ann sp fuel a = true := by
  unfold zheadT at h
  unfold zhead
  rw [Bool.and_eq_true, Bool.and_eq_true] at h ⊢
  exact ⟨h.1, h.2.1, zrunT_ok ht _ _ _ h.2.2⟩
end ZRT
/-- a table of decoded instructions is right -/
def zDok (cc : ByteArray) (n : Nat) (t : Nat → Option (Instr × Nat)) : Bool := (List.range n).all (fun pc => match t pc with
  | none => true
  | some q => decide (decode cc pc = .ok q))
theorem zDok_ok {cc : ByteArray} {n : Nat} {t : Nat → Option (Instr × Nat)} (hn : ∀ pc : Nat, n ≤ pc → t pc = none) (h : zDok cc n t = true) : ∀ (pc : Nat) (q : Instr × Nat), t pc = some q → decode cc pc = .ok q := by
  intro pc q hq
  by_cases hl : pc < n
  · have h1 : (match t pc with
      | none => true
      | some q => decide (decode cc pc = .ok q)) = true := List.all_eq_true.mp h pc (List.mem_range.mpr hl)
    rw [hq] at h1
    exact of_decide_eq_true h1
  · rw [hn pc (by omega)] at hq
    cases hq
