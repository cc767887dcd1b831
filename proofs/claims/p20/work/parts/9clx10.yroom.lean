/-! ROOMS: A WALK DOES NOT HANG ON THEM -/
/-- contracts one by one alike but for their rooms, which fit -/
def yRl (MT : zMT) (rm : Nat × Nat) : List yC → List yC → Prop
  | [], [] => True
  | c :: a, d :: b => (c.1 = d.1 ∧ c.2.2 = d.2.2 ∧ d.2.1.1 + 1 ≤ rm.1 ∧ 8 + ((MT d.1).2.2.1 + 11) + d.2.1.2 ≤ rm.2) ∧ yRl MT rm a b
  | [], _ :: _ => False
  | _ :: _, [] => False
theorem yRl_nil {MT : zMT} {rm : Nat × Nat} : yRl MT rm [] [] := trivial
theorem yRl_cons {MT : zMT} {rm : Nat × Nat} {c d : yC} {a b : List yC} (h1 : c.1 = d.1) (h2 : c.2.2 = d.2.2) (h3 : d.2.1.1 + 1 ≤ rm.1) (h4 : 8 + ((MT d.1).2.2.1 + 11) + d.2.1.2 ≤ rm.2) (h : yRl MT rm a b) : yRl MT rm (c :: a) (d :: b) := ⟨⟨h1, h2, h3, h4⟩, h⟩
theorem ybif3 {a b c : Bool} {P : Prop} (h : bif a && (b && c) then P else False) : c = true ∧ P := by
  cases a <;> cases b <;> cases c <;> first | exact ⟨rfl, h⟩ | exact False.elim h
theorem ybif3i {a b c : Bool} {P : Prop} (h1 : a = true) (h2 : b = true) (h3 : c = true) (h : P) : bif a && (b && c) then P else False := by
  rw [h1, h2, h3]
  exact h
theorem ycall_rl {MT : zMT} {rm rm' : Nat × Nat} {mid : Nat} {as r : List yV} {g : yM} {k : List yV → yM → Prop} : ∀ {CS CS' : List yC}, yRl MT rm' CS CS' → ycall MT CS rm mid as r g k → ycall MT CS' rm' mid as r g k
  | [], [], _, h => h
  | [], _ :: _, hR, _ => False.elim hR
  | _ :: _, [], hR, _ => False.elim hR
  | c :: a, d :: b, hR, h => by
    obtain ⟨⟨h1, h2, h3, h4⟩, hR⟩ := hR
    have e1 : (c :: a).find? (fun c => Nat.beq c.1 mid) = (match Nat.beq c.1 mid with | true => some c | false => a.find? (fun c => Nat.beq c.1 mid)) := rfl
    have e2 : (d :: b).find? (fun c => Nat.beq c.1 mid) = (match Nat.beq d.1 mid with | true => some d | false => b.find? (fun c => Nat.beq c.1 mid)) := rfl
    unfold ycall at h ⊢
    rw [e1] at h
    rw [e2, ← h1]
    cases e : Nat.beq c.1 mid with
    | true =>
      rw [e] at h
      have m : c.1 = mid := Nat.eq_of_beq_eq_true e
      have h9 := ybif3 (b := Nat.ble (8 + ((MT mid).2.2.1 + 11) + c.2.1.2) rm.2) h
      rw [h2] at h9
      rw [h1] at m
      subst m
      exact ybif3i (Nat.ble_eq_true_of_le h3) (Nat.ble_eq_true_of_le h4) h9.1 h9.2
    | false =>
      rw [e] at h
      exact ycall_rl (MT := MT) (rm := rm) hR h
theorem ytake_up {k k' : List yV → List yV → Prop} (hk : ∀ as r, k as r → k' as r) : ∀ (n : Nat) (st acc : List yV), ytake n st acc k → ytake n st acc k'
  | 0, _, _, h => hk _ _ h
  | n + 1, a :: r, acc, h => ytake_up hk n r (a :: acc) h
  | _ + 1, [], _, h => False.elim h
theorem yi_call_rl {Z : zZ} {P : zPool} {MT : zMT} {CS CS' : List yC} {rm rm' : Nat × Nat} {virt : Bool} {pc : Nat} {nx : yNx} {L st : List yV} {g : yM} {idx len : Nat} (hR : yRl MT rm' CS CS') (h1 : 1 ≤ rm'.1) (h2 : 1000 ≤ rm'.2) : yi_call Z P MT CS rm virt pc nx L st g idx len → yi_call Z P MT CS' rm' virt pc nx L st g idx len := by
  unfold yi_call
  cases P.2.2.2.1.find? (fun f => f.1 == idx) with
  | none => exact id
  | some q =>
    dsimp only
    generalize (Nat.beq len 3 && (virt && Nat.beq q.2.1 0)) = A
    generalize (Nat.beq len 3 && (!virt && (Nat.beq q.2.1 1 || Nat.beq q.2.1 2))) = B
    cases A with
    | true =>
      exact ytake_up (fun as r0 h => by
        cases r0 with
        | nil => exact h
        | cons t r =>
          obtain ⟨t, z⟩ := t
          dsimp only at h ⊢
          cases hy : yty Z t z with
          | none => rw [hy] at h; exact h
          | some o =>
            obtain ⟨k, ci, n, f⟩ := o
            rw [hy] at h
            cases k with
            | zero =>
              have h : (bif Nat.beq ci q.2.2.2.2 then ycall MT CS rm q.2.2.1 ((t, z) :: as) r g (fun v g' => nx (pc + 3) L (v ++ r) g') else False) := h
              show (bif Nat.beq ci q.2.2.2.2 then ycall MT CS' rm' q.2.2.1 ((t, z) :: as) r g (fun v g' => nx (pc + 3) L (v ++ r) g') else False)
              cases hc : Nat.beq ci q.2.2.2.2 with
              | true => rw [hc] at h; exact ycall_rl (rm := rm) hR h
              | false => rw [hc] at h; exact h
            | succ k => exact h) _ _ _
    | false =>
      cases B with
      | true => exact ytake_up (fun as r h => ycall_rl (rm := rm) hR h) _ _ _
      | false =>
        show (bif (Nat.beq len 3 && (!virt && (Nat.beq q.2.1 4 && (Nat.ble 1 rm.1 && Nat.ble 1000 rm.2)))) then _ else False) → (bif (Nat.beq len 3 && (!virt && (Nat.beq q.2.1 4 && (Nat.ble 1 rm'.1 && Nat.ble 1000 rm'.2)))) then _ else False)
        rw [Nat.ble_eq_true_of_le h1, Nat.ble_eq_true_of_le h2]
        generalize Nat.ble 1 rm.1 = u
        generalize Nat.ble 1000 rm.2 = v
        cases Nat.beq len 3 <;> cases virt <;> cases Nat.beq q.2.1 4 <;> cases u <;> cases v <;> first | exact id | exact (fun h => False.elim h)
theorem ystep_rl {Z : zZ} {RS : List (List Int)} {P : zPool} {MT : zMT} {CS CS' : List yC} {rm rm' : Nat × Nat} {rc : Nat} {K : List yV → yM → Prop} {nx : yNx} {pc : Nat} {L st : List yV} {g : yM} {ins : Instr} {len : Nat} (hR : yRl MT rm' CS CS') (h1 : 1 ≤ rm'.1) (h2 : 1000 ≤ rm'.2) (h : ystep (Z, RS, P, MT, CS, rm, rc) K nx pc L st g ins len) : ystep (Z, RS, P, MT, CS', rm', rc) K nx pc L st g ins len := by
  cases ins with
  | invokevirtual i => exact yi_call_rl (rm := rm) hR h1 h2 h
  | invokestatic i => exact yi_call_rl (rm := rm) hR h1 h2 h
  | if_icmp c off => cases c <;> exact h
  | ifCond c off => cases c <;> exact h
  | _ => exact h
theorem yCl.rl {t : Nat → Option (Instr × Nat)} {Z : zZ} {RS : List (List Int)} {P : zPool} {MT : zMT} {CS CS' : List yC} {rm rm' : Nat × Nat} {rc : Nat} {K : List yV → yM → Prop} {Y : yNx} (hR : yRl MT rm' CS CS') (h1 : 1 ≤ rm'.1) (h2 : 1000 ≤ rm'.2) (hY : yCl t (Z, RS, P, MT, CS', rm', rc) K Y) : yCl t (Z, RS, P, MT, CS, rm, rc) K Y := fun nx pc L st g q hq h hk => hY nx pc L st g q hq (ystep_rl (rm := rm) hR h1 h2 h) hk
/-- a contract may ask for more -/
theorem yMet.of {l : Launch} {Ts : List Cond} {cl : List vw_C} {Z : zZ} {RO : zRO} {MT : zMT} {mid : Nat} {rm : Nat × Nat} {P Q : yPT} (h : yMet l Ts cl Z RO MT (mid, rm, P)) (hi : ∀ (as : List yV) (g : yM) (K : List yV → yM → Prop), Q as g K → P as g K) : yMet l Ts cl Z RO MT (mid, rm, Q) := fun D tys A ad ws g as As K a1 a2 a3 a4 a5 => h D tys A ad ws g as As K a1 a2 a3 a4 (hi _ _ _ a5)
