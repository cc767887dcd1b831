/-! THE LAW'S WALK over instructions that are decoded once -/
def zrunLT (t : Nat → Option (Instr × Nat)) (sT : Nat → Option (Nat × Nat)) (Z : zZ) (RS : List (List Int)) (P : zPool) (MT : zMT) (CS : List zC) (Co : zCo) (ann : zAnn) : Nat → Nat → zS → Bool
  | 0, _, _ => false
  | f + 1, pc, sg => match sT pc with
    | some q => decide (sg.2.2.1[0]? = some (3, 0, 3000, 0, 0)) && (decide (sg.2.2.1[3]? = some (1, 5, 0, 0, 0)) && zgoL Z Co ann (zrunLT t sT Z RS P MT CS Co ann f) (q.2, (sg.1, sg.2.1, sg.2.2.1, (1, 6 + q.1, 0, 0, 0) :: sg.2.2.2.1, sg.2.2.2.2.1, sg.2.2.2.2.2)))
    | none => (match t pc with
      | some q => (match zstep Z RS P MT CS Co pc sg q.1 q.2 with
        | some su => su.all (fun x => zdeadL x.2 || zgoL Z Co ann (zrunLT t sT Z RS P MT CS Co ann f) x)
        | none => false)
      | none => false)
theorem zgoL_mono {Z : zZ} {Co : zCo} {ann : zAnn} {g g' : Nat → zS → Bool} {x : Nat × zS} (h : zgoL Z Co ann g x = true) (hg : g x.1 x.2 = true → g' x.1 x.2 = true) : zgoL Z Co ann g' x = true := by
  unfold zgoL at h ⊢
  split at h
  · rename_i hc
    rw [if_pos hc]
    exact h
  · rename_i hc
    rw [if_neg hc]
    exact hg h
section ZLT
variable {t : Nat → Option (Instr × Nat)} {sT : Nat → Option (Nat × Nat)} {cc : ByteArray} {Z : zZ} {RS : List (List Int)} {P : zPool} {MT : zMT} {CS : List zC} {Co : zCo} {ann : zAnn}
theorem zrunLT_ok (ht : ∀ (pc : Nat) (q : Instr × Nat), t pc = some q → decode cc pc = .ok q) (hs : ∀ (pc : Nat) (q : Nat × Nat), sT pc = some q → zscr cc pc = some q) (hn : ∀ (pc : Nat) (q : Instr × Nat), sT pc = none → t pc = some q → zscr cc pc = none) : ∀ (f pc : Nat) (sg : zS), zrunLT t sT Z RS P MT CS Co ann f pc sg = true → zrunL Z RS P MT CS Co cc ann f pc sg = true
  | 0, _, _, h => by cases h
  | f + 1, pc, sg, h => by
    unfold zrunLT at h
    unfold zrunL
    cases e1 : sT pc with
    | some q =>
      rw [e1] at h
      rw [hs pc q e1]
      have h : (decide (sg.2.2.1[0]? = some (3, 0, 3000, 0, 0)) && (decide (sg.2.2.1[3]? = some (1, 5, 0, 0, 0)) && zgoL Z Co ann (zrunLT t sT Z RS P MT CS Co ann f) (q.2, (sg.1, sg.2.1, sg.2.2.1, (1, 6 + q.1, 0, 0, 0) :: sg.2.2.2.1, sg.2.2.2.2.1, sg.2.2.2.2.2)))) = true := h
      show (decide (sg.2.2.1[0]? = some (3, 0, 3000, 0, 0)) && (decide (sg.2.2.1[3]? = some (1, 5, 0, 0, 0)) && zgoL Z Co ann (zrunL Z RS P MT CS Co cc ann f) (q.2, (sg.1, sg.2.1, sg.2.2.1, (1, 6 + q.1, 0, 0, 0) :: sg.2.2.2.1, sg.2.2.2.2.1, sg.2.2.2.2.2)))) = true
      rw [Bool.and_eq_true, Bool.and_eq_true] at h ⊢
      exact ⟨h.1, h.2.1, zgoL_mono h.2.2 (zrunLT_ok ht hs hn f _ _)⟩
    | none =>
      rw [e1] at h
      cases e2 : t pc with
      | none =>
        rw [e2] at h
        cases h
      | some q =>
        rw [e2] at h
        rw [hn pc q e1 e2, ht pc q e2]
        obtain ⟨ins, len⟩ := q
        cases e3 : zstep Z RS P MT CS Co pc sg ins len with
        | none =>
          have h : (match zstep Z RS P MT CS Co pc sg ins len with
            | some su => su.all (fun x => zdeadL x.2 || zgoL Z Co ann (zrunLT t sT Z RS P MT CS Co ann f) x)
            | none => false) = true := h
          rw [e3] at h
          cases h
        | some su =>
          have h : (match zstep Z RS P MT CS Co pc sg ins len with
            | some su => su.all (fun x => zdeadL x.2 || zgoL Z Co ann (zrunLT t sT Z RS P MT CS Co ann f) x)
            | none => false) = true := h
          rw [e3] at h
          have h : su.all (fun x => zdeadL x.2 || zgoL Z Co ann (zrunLT t sT Z RS P MT CS Co ann f) x) = true := h
          show (match zstep Z RS P MT CS Co pc sg ins len with
            | some su => su.all (fun x => zdeadL x.2 || zgoL Z Co ann (zrunL Z RS P MT CS Co cc ann f) x)
            | none => false) = true
          rw [e3]
          show su.all (fun x => zdeadL x.2 || zgoL Z Co ann (zrunL Z RS P MT CS Co cc ann f) x) = true
          refine List.all_eq_true.mpr (fun x hx => ?_)
          have h1 := List.all_eq_true.mp h x hx
          rcases Bool.or_eq_true_iff.mp h1 with h1 | h1
          · exact Bool.or_eq_true_iff.mpr (Or.inl h1)
          · exact Bool.or_eq_true_iff.mpr (Or.inr (zgoL_mono h1 (zrunLT_ok ht hs hn f _ _)))
end ZLT
def zDokR (cc : ByteArray) (a m : Nat) (t : Nat → Option (Instr × Nat)) : Bool := (List.range m).all (fun i => match t (a + i) with
  | none => true
  | some q => decide (decode cc (a + i) = .ok q))
def zSokR (cc : ByteArray) (a m : Nat) (t : Nat → Option (Instr × Nat)) (sT : Nat → Option (Nat × Nat)) : Bool := (List.range m).all (fun i => match sT (a + i), t (a + i) with
  | some q, _ => decide (zscr cc (a + i) = some q)
  | none, some _ => decide (zscr cc (a + i) = none)
  | none, none => true)
theorem zDokR_ok {cc : ByteArray} {K : Nat} {t : Nat → Option (Instr × Nat)} (hn : ∀ pc : Nat, 100 * K ≤ pc → t pc = none) (h : ∀ k : Nat, k < K → zDokR cc (100 * k) 100 t = true) : ∀ (pc : Nat) (q : Instr × Nat), t pc = some q → decode cc pc = .ok q := by
  intro pc q hq
  by_cases hl : pc < 100 * K
  · have h1 : (match t (100 * (pc / 100) + pc % 100) with
      | none => true
      | some q => decide (decode cc (100 * (pc / 100) + pc % 100) = .ok q)) = true := List.all_eq_true.mp (h (pc / 100) (by omega)) (pc % 100) (List.mem_range.mpr (by omega))
    rw [show 100 * (pc / 100) + pc % 100 = pc by omega, hq] at h1
    exact of_decide_eq_true h1
  · rw [hn pc (by omega)] at hq
    cases hq
theorem zSokR_ok {cc : ByteArray} {K : Nat} {t : Nat → Option (Instr × Nat)} {sT : Nat → Option (Nat × Nat)} (h1 : ∀ pc : Nat, 100 * K ≤ pc → t pc = none) (h2 : ∀ pc : Nat, 100 * K ≤ pc → sT pc = none) (h : ∀ k : Nat, k < K → zSokR cc (100 * k) 100 t sT = true) : (∀ (pc : Nat) (q : Nat × Nat), sT pc = some q → zscr cc pc = some q) ∧ ∀ (pc : Nat) (q : Instr × Nat), sT pc = none → t pc = some q → zscr cc pc = none := by
  have key : ∀ pc : Nat, pc < 100 * K → (match sT pc, t pc with
    | some q, _ => decide (zscr cc pc = some q)
    | none, some _ => decide (zscr cc pc = none)
    | none, none => true) = true := fun pc hl => by
    have h3 : (match sT (100 * (pc / 100) + pc % 100), t (100 * (pc / 100) + pc % 100) with
      | some q, _ => decide (zscr cc (100 * (pc / 100) + pc % 100) = some q)
      | none, some _ => decide (zscr cc (100 * (pc / 100) + pc % 100) = none)
      | none, none => true) = true := List.all_eq_true.mp (h (pc / 100) (by omega)) (pc % 100) (List.mem_range.mpr (by omega))
    rw [show 100 * (pc / 100) + pc % 100 = pc by omega] at h3
    exact h3
  refine ⟨fun pc q hq => ?_, fun pc q hq ht => ?_⟩
  · by_cases hl : pc < 100 * K
    · have h3 := key pc hl
      rw [hq] at h3
      exact of_decide_eq_true h3
    · rw [h2 pc (by omega)] at hq
      cases hq
  · by_cases hl : pc < 100 * K
    · have h3 := key pc hl
      rw [hq, ht] at h3
      exact of_decide_eq_true h3
    · rw [h1 pc (by omega)] at ht
      cases ht
