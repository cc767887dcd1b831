/-! THE WORLD AT THE BEGINNING: what the constructors leave is typed -/
def zgh0 : Nat → Int := fun g => if g = 2 then -1 else if g = 3 then 10 else 0
def zinB (lo hi n : Int) : Bool := decide (lo ≤ n) && (decide (n ≤ hi) && (decide (-2147483648 ≤ n) && decide (n ≤ 2147483647)))
theorem zinB_ok {lo hi n : Int} (h : zinB lo hi n = true) : lo ≤ (Int32.ofInt n).toInt ∧ (Int32.ofInt n).toInt ≤ hi ∧ (Int32.ofInt n).toInt = n := by
  unfold zinB at h
  rw [Bool.and_eq_true, Bool.and_eq_true, Bool.and_eq_true, decide_eq_true_eq, decide_eq_true_eq, decide_eq_true_eq, decide_eq_true_eq] at h
  have e := zofI h.2.2.1 h.2.2.2
  exact ⟨by rw [e]; exact h.1, by rw [e]; exact h.2.1, e⟩
/-- a place at the beginning and the place among the typed cells -/
def zpmB (perm : List Nat) (nc r : Nat) (z : Int) : Bool := decide (r < nc) && decide (perm[r]? = some z.toNat)
def zftB (perm inv : List Nat) (nc q : Nat) (ft : zFT) (V : zMV) : Bool :=
  if ft.1 = 0 then V.1 == 1 && zinB ft.2.1 ft.2.2 V.2
  else if ft.1 = 1 then V.1 == 5
  else if ft.1 = 2 then V.1 == 3 && (decide (ft.2.1 ≤ (inv.getD V.2.toNat 0 : Nat)) && (decide (((inv.getD V.2.toNat 0 : Nat) : Int) ≤ ft.2.2) && zpmB perm nc (inv.getD V.2.toNat 0) V.2))
  else if ft.1 = 3 then V.1 == 1 && (V.2 == 0 && ft.2.1 == 1)
  else if ft.1 = 4 then V.1 == 3 && (inv.getD V.2.toNat 0 == q + ft.2.1.toNat && zpmB perm nc (inv.getD V.2.toNat 0) V.2)
  else if ft.1 = 5 then V.1 == 1 && decide (50 ≤ q)
  else if ft.1 = 7 then V.1 == 1 && zinB ft.2.1 ft.2.2 V.2
  else if ft.1 = 8 then V.1 == 1 && (zinB ft.2.1 ft.2.2 V.2 && decide (0 ≤ V.2))
  else false
theorem zftB_ok {perm inv : List Nat} {nc q : Nat} {ft : zFT} {V : zMV} {v : Value} {adc ad aa : Nat → Nat} {len : Nat} (had : ∀ r z, r < nc → perm[r]? = some z → ad r = adc z) (h : zftB perm inv nc q ft V = true) (hv : zvr 0 adc aa len V v) : zft ad zgh0 50 q ft v := by
  obtain ⟨tg, lo, hi⟩ := ft
  obtain ⟨tv, n⟩ := V
  unfold zftB at h
  simp only at h
  have hint : tv = 1 → ∃ x : Int32, v = .int x ∧ x = Int32.ofInt n := fun e => by
    subst e
    exact ⟨_, hv, rfl⟩
  have href : tv = 3 → v = .ref (adc n.toNat) := fun e => by
    subst e
    exact hv.2
  by_cases e0 : tg = 0
  · subst e0
    rw [if_pos rfl, Bool.and_eq_true, beq_iff_eq] at h
    obtain ⟨x, rfl, rfl⟩ := hint h.1
    have := zinB_ok h.2
    exact ⟨_, rfl, this.1, this.2.1⟩
  rw [if_neg e0] at h
  by_cases e1 : tg = 1
  · subst e1
    rw [if_pos rfl, beq_iff_eq] at h
    subst h
    exact ⟨0, hv⟩
  rw [if_neg e1] at h
  by_cases e2 : tg = 2
  · subst e2
    rw [if_pos rfl, Bool.and_eq_true, Bool.and_eq_true, Bool.and_eq_true, beq_iff_eq, decide_eq_true_eq, decide_eq_true_eq] at h
    obtain ⟨h1, h2, h3, h4⟩ := h
    unfold zpmB at h4
    rw [Bool.and_eq_true, decide_eq_true_eq, decide_eq_true_eq] at h4
    exact ⟨inv.getD n.toNat 0, by rw [href h1, had _ _ h4.1 h4.2], h2, h3⟩
  rw [if_neg e2] at h
  by_cases e3 : tg = 3
  · subst e3
    rw [if_pos rfl, Bool.and_eq_true, Bool.and_eq_true, beq_iff_eq, beq_iff_eq, beq_iff_eq] at h
    obtain ⟨h1, h2, h3⟩ := h
    obtain ⟨x, rfl, rfl⟩ := hint h1
    refine ⟨_, rfl, ?_⟩
    rw [h2, h3]
    decide
  rw [if_neg e3] at h
  by_cases e4 : tg = 4
  · subst e4
    rw [if_pos rfl, Bool.and_eq_true, Bool.and_eq_true, beq_iff_eq, beq_iff_eq] at h
    obtain ⟨h1, h2, h4⟩ := h
    unfold zpmB at h4
    rw [Bool.and_eq_true, decide_eq_true_eq, decide_eq_true_eq] at h4
    show v = .ref (ad (q + lo.toNat))
    rw [href h1, ← h2, had _ _ h4.1 h4.2]
  rw [if_neg e4] at h
  by_cases e5 : tg = 5
  · subst e5
    rw [if_pos rfl, Bool.and_eq_true, beq_iff_eq, decide_eq_true_eq] at h
    obtain ⟨x, rfl, rfl⟩ := hint h.1
    exact ⟨_, rfl, fun hlt => by
      have hlt : (q : Int) < 50 + 0 := hlt
      omega⟩
  rw [if_neg e5] at h
  by_cases e7 : tg = 7
  · subst e7
    rw [if_pos rfl, Bool.and_eq_true, beq_iff_eq] at h
    obtain ⟨x, rfl, rfl⟩ := hint h.1
    have := zinB_ok h.2
    exact ⟨_, rfl, this.1, this.2.1⟩
  rw [if_neg e7] at h
  by_cases e8 : tg = 8
  · subst e8
    rw [if_pos rfl, Bool.and_eq_true, Bool.and_eq_true, beq_iff_eq, decide_eq_true_eq] at h
    obtain ⟨x, rfl, rfl⟩ := hint h.1
    have := zinB_ok h.2.1
    refine ⟨_, rfl, ⟨this.1, this.2.1⟩, fun _ => ?_⟩
    show (-1 : Int) < _
    rw [this.2.2]
    have := h.2.2
    omega
  rw [if_neg e8] at h
  cases h
def zfsB (perm inv : List Nat) (nc q : Nat) : List zFT → List zMV → Bool
  | ft :: fts, V :: Vs => zftB perm inv nc q ft V && zfsB perm inv nc q fts Vs
  | [], [] => true
  | _, _ => false
theorem zfsB_ok {perm inv : List Nat} {nc q : Nat} : ∀ {fts : List zFT} {Vs : List zMV}, zfsB perm inv nc q fts Vs = true → fts.length = Vs.length ∧ ∀ (j : Nat) (ft : zFT) (V : zMV), fts[j]? = some ft → Vs[j]? = some V → zftB perm inv nc q ft V = true
  | [], [], _ => ⟨rfl, fun j ft V h => by cases h⟩
  | ft :: fts, [], h => by cases h
  | [], V :: Vs, h => by cases h
  | ft :: fts, V :: Vs, h => by
    unfold zfsB at h
    rw [Bool.and_eq_true] at h
    obtain ⟨h1, h2⟩ := zfsB_ok h.2
    refine ⟨by rw [List.length_cons, List.length_cons, h1], fun j ft' V' hf hV => ?_⟩
    cases j with
    | zero => cases hf; cases hV; exact h.1
    | succ j => rw [List.getElem?_cons_succ] at hf hV; exact h2 j ft' V' hf hV
def zz0 (b : List zMV) : Bool := (b.headD (0, 0)).2 == 0 && ((b.drop 1).headD (0, 0)).2 == 0
def zctB (DC : List zMC) (perm inv : List Nat) (nc q : Nat) (ct : zCT) (d : zMC) : Bool :=
  if ct.1 = 0 then d.1 == 0 && (d.2.1 == ct.2.1 && zfsB perm inv nc q ct.2.2.2 d.2.2.2)
  else if ct.1 = 1 ∧ d.1 = 7 then d.2.1 == ct.2.1 && (d.2.2.1 == ct.2.2.1 && (ct.2.2.2.length == 1 && ((ct.2.2.2.headD (9, 0, 0)).1 == 0 && (List.range ct.2.2.1).all (fun j => match d.2.2.2[j]? with
    | some e => decide ((ct.2.2.2.headD (9, 0, 0)).2.1 ≤ e.2) && decide (e.2 ≤ (ct.2.2.2.headD (9, 0, 0)).2.2)
    | none => false))))
  else if ct.1 = 1 then d.1 == 1 && (d.2.1 == ct.2.1 && (d.2.2.1 == ct.2.2.1 && (ct.2.2.2.length == 1 && ((ct.2.2.2.headD (9, 0, 0)).1 == 0 && (decide ((ct.2.2.2.headD (9, 0, 0)).2.1 ≤ (d.2.2.2.headD (0, 0)).2) && decide (((d.2.2.2.drop 1).headD (0, 0)).2 ≤ (ct.2.2.2.headD (9, 0, 0)).2.2))))))
  else if ct.1 = 2 then d.1 == 6 && (d.2.1 == ct.2.1 && (d.2.2.1 == ct.2.2.1 && (ct.2.2.2.length == 1 && ((ct.2.2.2.headD (9, 0, 0)).1 == 0 && (decide ((ct.2.2.2.headD (9, 0, 0)).2.1 ≤ 0) && decide (0 ≤ (ct.2.2.2.headD (9, 0, 0)).2.2))))))
  else if ct.1 = 3 then d.1 == 2 && (d.2.1 == ct.2.1 && d.2.2.1 == ct.2.2.1)
  else if ct.1 = 4 then d.1 == 3 && (d.2.1 == ct.2.1 && (d.2.2.1 == ct.2.2.1 && (ct.2.2.2.length == 1 && (List.range ct.2.2.1).all (fun j => zpmB perm nc ((ct.2.2.2.headD (9, 0, 0)).2.1.toNat + j) ((zbs d.2.2.2 + j : Nat) : Int)))))
  else if ct.1 = 5 then d.1 == 4 && (d.2.1 == ct.2.1 && (d.2.2.1 == ct.2.2.1 && (ct.2.2.2.length == 1 && (List.range ct.2.2.1).all (fun j => zpmB perm nc ((ct.2.2.2.headD (9, 0, 0)).2.1.toNat + j) ((zbs d.2.2.2 + j : Nat) : Int)))))
  else if ct.1 = 6 then d.1 == 1 && (d.2.1 == ct.2.1 && (d.2.2.1 == ct.2.2.1 && (zz0 d.2.2.2 && (match perm[q + (ct.2.2.2.headD (0, 0, 0)).1]? with
    | some p2 => (match DC[p2]? with
      | some d2 => decide (q + (ct.2.2.2.headD (0, 0, 0)).1 < nc) && (d2.1 == 1 && d2.2.2.1 == ct.2.2.1)
      | none => false)
    | none => false))))
  else if ct.1 = 7 then d.1 == 1 && (d.2.1 == ct.2.1 && d.2.2.1 == ct.2.2.1)
  else false
def zwB (Z : zZ) (DC : List zMC) (perm inv : List Nat) (nc : Nat) : Bool := Z.1.all (fun e => (List.range (e.2.1 + 1 - e.1)).all (fun j => decide (e.1 + j < nc) && (match perm[e.1 + j]? with
  | some pl => (match DC[pl]? with
    | some d => zctB DC perm inv nc (e.1 + j) e.2.2 d
    | none => false)
  | none => false)))
theorem zhead1 {α : Type} {l : List α} {x d : α} (h1 : l.length = 1) (h0 : l[0]? = some x) : l.headD d = x := by
  match l, h1 with
  | [y], _ => cases h0; rfl
theorem zwB_ok {Z : zZ} {DC : List zMC} {perm inv : List Nat} {nc : Nat} {adc ad aa : Nat → Nat} {len : Nat} {tys : List (ClassId × FieldType)} {ws : va_W} (hcb : Z.2.1 = 50) (had : ∀ r z, r < nc → perm[r]? = some z → ad r = adc z) (hws : ∀ r z d, r < nc → perm[r]? = some z → DC[z]? = some d → ∃ x, ws[r]? = some (ad r, x) ∧ zcr 0 adc aa len tys d x) (h : zwB Z DC perm inv nc = true) : zW Z ad zgh0 tys ws := by
  intro e he q q1 q2
  have h1 := List.all_eq_true.mp (List.all_eq_true.mp h e he) (q - e.1) (List.mem_range.mpr (by omega))
  rw [show e.1 + (q - e.1) = q by omega, Bool.and_eq_true, decide_eq_true_eq] at h1
  obtain ⟨hq, h1⟩ := h1
  split at h1
  · rename_i pl hpl
    split at h1
    · rename_i d hd
      obtain ⟨x, x1, x2⟩ := hws q pl d hq hpl hd
      rw [hcb]
      generalize e.2.2 = ct at h1 ⊢
      obtain ⟨tg, t0, ln, fts⟩ := ct
      obtain ⟨td, u0, un, ub⟩ := d
      unfold zctB at h1
      simp only at h1
      by_cases c0 : tg = 0
      · subst c0
        rw [if_pos rfl, Bool.and_eq_true, Bool.and_eq_true, beq_iff_eq, beq_iff_eq] at h1
        obtain ⟨rfl, rfl, h3⟩ := h1
        obtain ⟨fs, rfl, y1, y2⟩ := x2
        obtain ⟨z1, z2⟩ := zfsB_ok h3
        refine ⟨fs, x1, by rw [y1, z1], fun j ft v hf hv => ?_⟩
        have lj : j < ub.length := by rw [← z1]; exact (List.getElem?_eq_some_iff.mp hf).1
        have hV := List.getElem?_eq_getElem lj
        exact zftB_ok had (z2 j ft _ hf hV) (y2 j _ v hV hv)
      rw [if_neg c0] at h1
      by_cases cx : tg = 1 ∧ td = 7
      · obtain ⟨rfl, rfl⟩ := cx
        rw [if_pos ⟨rfl, rfl⟩, Bool.and_eq_true, Bool.and_eq_true, Bool.and_eq_true, Bool.and_eq_true, beq_iff_eq, beq_iff_eq, beq_iff_eq, beq_iff_eq] at h1
        obtain ⟨rfl, rfl, l1, f0, ha⟩ := h1
        obtain ⟨cA, f, rfl, y1, y2⟩ := x2
        refine ⟨cA, f, x1, y1, fun j ft hj hf => ?_⟩
        have h5 := List.all_eq_true.mp ha j (List.mem_range.mpr hj)
        rw [zhead1 l1 hf] at f0 h5
        obtain ⟨ta, lo, hi⟩ := ft
        have f0 : ta = 0 := f0
        subst f0
        split at h5
        · rename_i e he
          rw [Bool.and_eq_true, decide_eq_true_eq, decide_eq_true_eq] at h5
          have h6 := y2 j e hj he
          exact ⟨f j, rfl, by rw [h6]; exact h5.1, by rw [h6]; exact h5.2⟩
        · cases h5
      rw [if_neg cx] at h1
      by_cases c1 : tg = 1
      · subst c1
        rw [if_pos rfl, Bool.and_eq_true, Bool.and_eq_true, Bool.and_eq_true, Bool.and_eq_true, Bool.and_eq_true, Bool.and_eq_true, beq_iff_eq, beq_iff_eq, beq_iff_eq, beq_iff_eq, beq_iff_eq, decide_eq_true_eq, decide_eq_true_eq] at h1
        obtain ⟨rfl, rfl, rfl, l1, f0, b1, b2⟩ := h1
        obtain ⟨cA, f, rfl, y1, y2⟩ := x2
        refine ⟨cA, f, x1, y1, fun j ft hj hf => ?_⟩
        rw [zhead1 l1 hf] at f0 b1 b2
        obtain ⟨ta, lo, hi⟩ := ft
        have f0 : ta = 0 := f0
        subst f0
        exact ⟨f j, rfl, Int.le_trans b1 (y2 j hj).1, Int.le_trans (y2 j hj).2 b2⟩
      rw [if_neg c1] at h1
      by_cases c2 : tg = 2
      · subst c2
        rw [if_pos rfl, Bool.and_eq_true, Bool.and_eq_true, Bool.and_eq_true, Bool.and_eq_true, Bool.and_eq_true, Bool.and_eq_true, beq_iff_eq, beq_iff_eq, beq_iff_eq, beq_iff_eq, beq_iff_eq, decide_eq_true_eq, decide_eq_true_eq] at h1
        obtain ⟨rfl, rfl, rfl, l1, f0, b1, b2⟩ := h1
        obtain ⟨cA, rfl, y1⟩ := x2
        refine ⟨cA, _, x1, y1, fun j ft hj hf => ?_⟩
        rw [zhead1 l1 hf] at f0 b1 b2
        obtain ⟨ta, lo, hi⟩ := ft
        have f0 : ta = 0 := f0
        subst f0
        exact ⟨0, rfl, b1, b2⟩
      rw [if_neg c2] at h1
      by_cases c3 : tg = 3
      · subst c3
        rw [if_pos rfl, Bool.and_eq_true, Bool.and_eq_true, beq_iff_eq, beq_iff_eq, beq_iff_eq] at h1
        obtain ⟨rfl, rfl, rfl⟩ := h1
        obtain ⟨cA, rfl, y1⟩ := x2
        exact ⟨cA, _, x1, y1⟩
      rw [if_neg c3] at h1
      by_cases c4 : tg = 4
      · subst c4
        rw [if_pos rfl, Bool.and_eq_true, Bool.and_eq_true, Bool.and_eq_true, Bool.and_eq_true, beq_iff_eq, beq_iff_eq, beq_iff_eq, beq_iff_eq] at h1
        obtain ⟨rfl, rfl, rfl, l1, ha⟩ := h1
        obtain ⟨cA, f, rfl, y1, y2, y3⟩ := x2
        refine ⟨cA, "PushedIn$Comer", f, x1, y1, fun j ft hj hf => ?_⟩
        have h5 := List.all_eq_true.mp ha j (List.mem_range.mpr hj)
        rw [zhead1 l1 hf] at h5
        unfold zpmB at h5
        rw [Bool.and_eq_true, decide_eq_true_eq, decide_eq_true_eq, Int.toNat_natCast] at h5
        rw [y3 j hj, had _ _ h5.1 h5.2]
      rw [if_neg c4] at h1
      by_cases c5 : tg = 5
      · subst c5
        rw [if_pos rfl, Bool.and_eq_true, Bool.and_eq_true, Bool.and_eq_true, Bool.and_eq_true, beq_iff_eq, beq_iff_eq, beq_iff_eq, beq_iff_eq] at h1
        obtain ⟨rfl, rfl, rfl, l1, ha⟩ := h1
        obtain ⟨cA, f, rfl, y1, y2, y3⟩ := x2
        refine ⟨cA, f, x1, y1, fun j ft hj hf => ?_⟩
        have h5 := List.all_eq_true.mp ha j (List.mem_range.mpr hj)
        rw [zhead1 l1 hf] at h5
        unfold zpmB at h5
        rw [Bool.and_eq_true, decide_eq_true_eq, decide_eq_true_eq, Int.toNat_natCast] at h5
        rw [y3 j hj, had _ _ h5.1 h5.2]
      rw [if_neg c5] at h1
      by_cases c6 : tg = 6
      · subst c6
        rw [if_pos rfl, Bool.and_eq_true, Bool.and_eq_true, Bool.and_eq_true, Bool.and_eq_true, beq_iff_eq, beq_iff_eq, beq_iff_eq] at h1
        obtain ⟨rfl, rfl, rfl, hz, hp⟩ := h1
        unfold zz0 at hz
        rw [Bool.and_eq_true, beq_iff_eq, beq_iff_eq] at hz
        split at hp
        · rename_i p2 hp2
          split at hp
          · rename_i d2 hd2
            rw [Bool.and_eq_true, Bool.and_eq_true, decide_eq_true_eq, beq_iff_eq, beq_iff_eq] at hp
            obtain ⟨x', x1', x2'⟩ := hws _ p2 d2 hp.1 hp2 hd2
            obtain ⟨td2, u2, un2, ub2⟩ := d2
            obtain ⟨-, e1, e2⟩ := hp
            have e1 : td2 = 1 := e1
            have e2 : un2 = un := e2
            subst e1
            subst e2
            obtain ⟨cB, g, rfl, w1, w2⟩ := x2'
            obtain ⟨cA, f, rfl, y1, y2⟩ := x2
            refine ⟨cA, cB, f, g, x1, y1, x1', fun j hj => ?_, fun _ h0 => ?_⟩
            · have := y2 j hj
              rw [hz.1, hz.2] at this
              exact ⟨fun h => by omega, fun h => by omega⟩
            · have h0 : (0 : Int) ≤ -1 := h0
              omega
          · cases hp
        · cases hp
      rw [if_neg c6] at h1
      by_cases c7 : tg = 7
      · subst c7
        rw [if_pos rfl, Bool.and_eq_true, Bool.and_eq_true, beq_iff_eq, beq_iff_eq, beq_iff_eq] at h1
        obtain ⟨rfl, rfl, rfl⟩ := h1
        obtain ⟨cA, f, rfl, y1, y2⟩ := x2
        exact ⟨cA, f, x1, y1⟩
      rw [if_neg c7] at h1
      cases h1
    · cases h1
  · cases h1
