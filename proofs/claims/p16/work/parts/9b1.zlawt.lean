/-! THE LAW'S WALK over instructions that are decoded once -/
def zisA (q : Instr × Nat) : Bool := match q with
  | (.aload_n _, 1) => true
  | _ => false
def zisL (q : Instr × Nat) : Bool := match q with
  | (.iload_n _, 1) => true
  | _ => false
def zscrT (t : Nat → Option (Instr × Nat)) (pc : Nat) : Option (Option (Nat × Nat)) := match t pc with
  | none => none
  | some q => if zisA q = false then some none else (match t (pc + 1) with
    | none => none
    | some q1 => if zisL q1 = false then some none else (if q = (.aload_n 0, 1) ∧ q1 = (.iload_n 3, 1) then (match t (pc + 2) with
      | some (.iaload, 1) => some (some (0, pc + 3))
      | some (.iconst k, 1) => if (t (pc + 3) = some (.iadd, 1) ∧ t (pc + 4) = some (.iaload, 1)) ∧ 0 ≤ k ∧ k ≤ 5 then some (some (k.toNat, pc + 5)) else none
      | _ => none) else none))
theorem zscr_A {cc : ByteArray} {pc : Nat} {q : Instr × Nat} (d0 : decode cc pc = .ok q) (h : zisA q = false) : zscr cc pc = none := by
  unfold zscr
  rw [d0]
  split
  · rename_i e0 e1 e2
    cases e0
    cases h
  · rename_i e0 e1 e2
    cases e0
    cases h
  · rfl
theorem zscr_L {cc : ByteArray} {pc : Nat} {q : Instr × Nat} (d1 : decode cc (pc + 1) = .ok q) (h : zisL q = false) : zscr cc pc = none := by
  unfold zscr
  rw [d1]
  split
  · rename_i e0 e1 e2
    cases e1
    cases h
  · rename_i e0 e1 e2
    cases e1
    cases h
  · rfl
theorem zscrT_ok {t : Nat → Option (Instr × Nat)} {cc : ByteArray} (ht : ∀ (pc : Nat) (q : Instr × Nat), t pc = some q → decode cc pc = .ok q) {pc : Nat} {r : Option (Nat × Nat)} (h : zscrT t pc = some r) : zscr cc pc = r := by
  unfold zscrT at h
  split at h
  · cases h
  · rename_i q hq
    have d0 := ht pc q hq
    split at h
    · rename_i hA
      cases h
      exact zscr_A d0 hA
    · split at h
      · cases h
      · rename_i q1 hq1
        have d1 := ht _ q1 hq1
        split at h
        · rename_i hL
          cases h
          exact zscr_L d1 hL
        · split at h
          · rename_i he
            rw [he.1] at d0
            rw [he.2] at d1
            split at h
            · rename_i h2
              cases h
              have d2 := ht _ _ h2
              unfold zscr
              rw [d0, d1, d2]
              rfl
            · rename_i k h2
              split at h
              · rename_i hk
                cases h
                have d2 := ht _ _ h2
                have d3 := ht _ _ hk.1.1
                have d4 := ht _ _ hk.1.2
                unfold zscr
                rw [d0, d1, d2]
                show (match decode cc (pc + 3), decode cc (pc + 4) with
                  | .ok (.iadd, 1), .ok (.iaload, 1) => if (((0 : Fin 4).val = 0 ∧ (3 : Fin 4).val = 3) ∧ 0 ≤ k ∧ k ≤ 5) then some (k.toNat, pc + 5) else none
                  | _, _ => none) = _
                rw [d3, d4]
                exact if_pos ⟨⟨rfl, rfl⟩, hk.2⟩
              · cases h
            · cases h
          · cases h
def zrunLT (t : Nat → Option (Instr × Nat)) (Z : zZ) (RS : List (List Int)) (P : zPool) (MT : zMT) (CS : List zC) (Co : zCo) (ann : zAnn) : Nat → Nat → zS → Bool
  | 0, _, _ => false
  | f + 1, pc, sg => match zscrT t pc with
    | none => false
    | some (some q) => decide (sg.2.2.1[0]? = some (3, 0, 3000, 0, 0)) && (decide (sg.2.2.1[3]? = some (1, 5, 0, 0, 0)) && zgoL Z Co ann (zrunLT t Z RS P MT CS Co ann f) (q.2, (sg.1, sg.2.1, sg.2.2.1, (1, 6 + q.1, 0, 0, 0) :: sg.2.2.2.1, sg.2.2.2.2.1, sg.2.2.2.2.2)))
    | some none => (match t pc with
      | some q => (match zstep Z RS P MT CS Co pc sg q.1 q.2 with
        | some su => su.all (fun x => zdeadL x.2 || zgoL Z Co ann (zrunLT t Z RS P MT CS Co ann f) x)
        | none => false)
      | none => false)
theorem zgoL_mono {Z : zZ} {Co : zCo} {ann : zAnn} {g g' : Nat → zS → Bool} {x : Nat × zS} (h : zgoL Z Co ann g x = true) (hg : g x.1 x.2 = true → g' x.1 x.2 = true) : zgoL Z Co ann g' x = true := by
  unfold zgoL at h ⊢
  split at h
  · rename_i hc
    rw [if_pos hc]
    exact h
  · rename_i hc
    rw [if_neg hc]
    exact hg h
section ZLT
variable {t : Nat → Option (Instr × Nat)} {cc : ByteArray} {Z : zZ} {RS : List (List Int)} {P : zPool} {MT : zMT} {CS : List zC} {Co : zCo} {ann : zAnn}
theorem zrunLT_ok (ht : ∀ (pc : Nat) (q : Instr × Nat), t pc = some q → decode cc pc = .ok q) : ∀ (f pc : Nat) (sg : zS), zrunLT t Z RS P MT CS Co ann f pc sg = true → zrunL Z RS P MT CS Co cc ann f pc sg = true
  | 0, _, _, h => by cases h
  | f + 1, pc, sg, h => by
    unfold zrunLT at h
    unfold zrunL
    cases e1 : zscrT t pc with
    | none =>
      rw [e1] at h
      cases h
    | some r =>
    rw [e1] at h
    rw [zscrT_ok ht e1]
    cases r with
    | some q =>
      have h : (decide (sg.2.2.1[0]? = some (3, 0, 3000, 0, 0)) && (decide (sg.2.2.1[3]? = some (1, 5, 0, 0, 0)) && zgoL Z Co ann (zrunLT t Z RS P MT CS Co ann f) (q.2, (sg.1, sg.2.1, sg.2.2.1, (1, 6 + q.1, 0, 0, 0) :: sg.2.2.2.1, sg.2.2.2.2.1, sg.2.2.2.2.2)))) = true := h
      show (decide (sg.2.2.1[0]? = some (3, 0, 3000, 0, 0)) && (decide (sg.2.2.1[3]? = some (1, 5, 0, 0, 0)) && zgoL Z Co ann (zrunL Z RS P MT CS Co cc ann f) (q.2, (sg.1, sg.2.1, sg.2.2.1, (1, 6 + q.1, 0, 0, 0) :: sg.2.2.2.1, sg.2.2.2.2.1, sg.2.2.2.2.2)))) = true
      rw [Bool.and_eq_true, Bool.and_eq_true] at h ⊢
      exact ⟨h.1, h.2.1, zgoL_mono h.2.2 (zrunLT_ok ht f _ _)⟩
    | none =>
      cases e2 : t pc with
      | none =>
        have h : (match t pc with
          | some q => (match zstep Z RS P MT CS Co pc sg q.1 q.2 with
            | some su => su.all (fun x => zdeadL x.2 || zgoL Z Co ann (zrunLT t Z RS P MT CS Co ann f) x)
            | none => false)
          | none => false) = true := h
        rw [e2] at h
        cases h
      | some q =>
        have h : (match t pc with
          | some q => (match zstep Z RS P MT CS Co pc sg q.1 q.2 with
            | some su => su.all (fun x => zdeadL x.2 || zgoL Z Co ann (zrunLT t Z RS P MT CS Co ann f) x)
            | none => false)
          | none => false) = true := h
        rw [e2] at h
        rw [ht pc q e2]
        obtain ⟨ins, len⟩ := q
        cases e3 : zstep Z RS P MT CS Co pc sg ins len with
        | none =>
          have h : (match zstep Z RS P MT CS Co pc sg ins len with
            | some su => su.all (fun x => zdeadL x.2 || zgoL Z Co ann (zrunLT t Z RS P MT CS Co ann f) x)
            | none => false) = true := h
          rw [e3] at h
          cases h
        | some su =>
          have h : (match zstep Z RS P MT CS Co pc sg ins len with
            | some su => su.all (fun x => zdeadL x.2 || zgoL Z Co ann (zrunLT t Z RS P MT CS Co ann f) x)
            | none => false) = true := h
          rw [e3] at h
          have h : su.all (fun x => zdeadL x.2 || zgoL Z Co ann (zrunLT t Z RS P MT CS Co ann f) x) = true := h
          show (match zstep Z RS P MT CS Co pc sg ins len with
            | some su => su.all (fun x => zdeadL x.2 || zgoL Z Co ann (zrunL Z RS P MT CS Co cc ann f) x)
            | none => false) = true
          rw [e3]
          show su.all (fun x => zdeadL x.2 || zgoL Z Co ann (zrunL Z RS P MT CS Co cc ann f) x) = true
          refine List.all_eq_true.mpr (fun x hx => ?_)
          have h1 := List.all_eq_true.mp h x hx
          rcases Bool.or_eq_true_iff.mp h1 with h1 | h1
          · exact Bool.or_eq_true_iff.mpr (Or.inl h1)
          · exact Bool.or_eq_true_iff.mpr (Or.inr (zgoL_mono h1 (zrunLT_ok ht f _ _)))
end ZLT
def zDokR (cc : ByteArray) (a m : Nat) (t : Nat → Option (Instr × Nat)) : Bool := (List.range m).all (fun i => match t (a + i) with
  | none => true
  | some q => decide (decode cc (a + i) = .ok q))
theorem zDokR_ok {cc : ByteArray} {K : Nat} {t : Nat → Option (Instr × Nat)} (hn : ∀ pc : Nat, 100 * K ≤ pc → t pc = none) (h : ∀ k : Nat, k < K → zDokR cc (100 * k) 100 t = true) : ∀ (pc : Nat) (q : Instr × Nat), t pc = some q → decode cc pc = .ok q := by
  intro pc q hq
  by_cases hl : pc < 100 * K
  · have h1 : (match t (100 * (pc / 100) + pc % 100) with
      | none => true
      | some q => decide (decode cc (100 * (pc / 100) + pc % 100) = .ok q)) = true := List.all_eq_true.mp (h (pc / 100) (by omega)) (pc % 100) (List.mem_range.mpr (by omega))
    rw [show 100 * (pc / 100) + pc % 100 = pc by omega, hq] at h1
    exact of_decide_eq_true h1
  · rw [hn pc (by omega)] at hq
    cases hq
