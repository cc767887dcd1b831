/-! FIELDS, ARRAYS, CALLS OF THE PURE MACHINE -/
theorem yrng_ok : ∀ {es : List (Nat × Nat × zCT)} {b n i e : Nat}, yrng es b n i = some e → i ≤ e ∧ ∃ x, es[e - i]? = some x ∧ x.1 = b ∧ b + n ≤ x.2.1 + 1
  | [], _, _, _, _, h => by cases h
  | y :: r, b, n, i, e, h => by
    unfold yrng at h
    cases hb : (Nat.beq y.1 b && Nat.ble (b + n) (y.2.1 + 1)) with
    | true =>
      rw [hb] at h
      cases h
      rw [Bool.and_eq_true] at hb
      exact ⟨Nat.le_refl _, y, by rw [Nat.sub_self]; rfl, ybeq hb.1, yble hb.2⟩
    | false =>
      rw [hb] at h
      obtain ⟨h1, x, h2, h3⟩ := yrng_ok (es := r) h
      refine ⟨by omega, x, ?_, h3⟩
      rw [show e - i = (e - (i + 1)) + 1 by omega, List.getElem?_cons_succ]
      exact h2
theorem yS.split {Z : zZ} {ad : Nat → Nat} : ∀ {as bs : List yV} {vs : List Value}, yS Z ad (as ++ bs) vs → ∃ v1 v2, vs = v1 ++ v2 ∧ yS Z ad as v1 ∧ yS Z ad bs v2
  | [], bs, vs, h => ⟨[], vs, rfl, trivial, h⟩
  | a :: as, bs, v :: vs, h => by
    obtain ⟨v1, v2, e, h1, h2⟩ := yS.split (as := as) h.2
    exact ⟨v :: v1, v2, by rw [e]; rfl, ⟨h.1, h1⟩, h2⟩
theorem yS.app {Z : zZ} {ad : Nat → Nat} : ∀ {as bs : List yV} {vs us : List Value}, yS Z ad as vs → yS Z ad bs us → yS Z ad (as ++ bs) (vs ++ us)
  | [], _, [], _, _, h => h
  | _ :: _, _, _ :: _, _, h1, h => ⟨h1.1, h1.2.app h⟩
theorem yS.rev {Z : zZ} {ad : Nat → Nat} : ∀ {as : List yV} {vs : List Value}, yS Z ad as vs → yS Z ad as.reverse vs.reverse
  | [], [], _ => trivial
  | a :: as, v :: vs, h => by
    rw [List.reverse_cons, List.reverse_cons]
    exact h.2.rev.app ⟨h.1, trivial⟩
theorem yS.len {Z : zZ} {ad : Nat → Nat} : ∀ {as : List yV} {vs : List Value}, yS Z ad as vs → as.length = vs.length
  | [], [], _ => rfl
  | _ :: _, _ :: _, h => by simp [h.2.len]
theorem yS.cats {Z : zZ} {ad : Nat → Nat} : ∀ {as : List yV} {vs : List Value}, yS Z ad as vs → (vs.map fun v => v.category).sum = (as.map ycat).sum
  | [], [], _ => rfl
  | a :: as, v :: vs, h => by rw [List.map_cons, List.map_cons, List.sum_cons, List.sum_cons, h.2.cats, ycat_ok h.1]
theorem ytake_ok : ∀ {n : Nat} {st acc : List yV} {k : List yV → List yV → Prop}, ytake n st acc k → ∃ a r, st = a ++ r ∧ a.length = n ∧ k (a.reverse ++ acc) r
  | 0, r, acc, k, h => ⟨[], r, rfl, rfl, by unfold ytake at h; exact h⟩
  | n + 1, [], acc, k, h => by unfold ytake at h; exact h.elim
  | n + 1, b :: r, acc, k, h => by
    unfold ytake at h
    obtain ⟨a, r', h1, h2, h3⟩ := ytake_ok (n := n) h
    exact ⟨b :: a, r', by rw [h1]; rfl, by simp [h2], by rw [List.reverse_cons, List.append_assoc]; exact h3⟩
/-- arguments as locals -/
theorem ylay_ok {Z : zZ} {ad : Nat → Nat} : ∀ {avs : List yV} {As : List Value}, yS Z ad avs As → (ylay avs).length = (lg_sl As).length ∧ ∀ (i b : Nat) (a : yV), (ylay avs)[i]? = some a → a.1 ≠ 0 → ∃ v, (b + i, v) ∈ lv_args b As ∧ yval Z ad a.1 a.2 v
  | [], [], _ => ⟨rfl, fun i b a h => by simp [ylay] at h⟩
  | a0 :: avs, v0 :: As, h => by
    obtain ⟨e1, e2⟩ := ylay_ok h.2
    have hc := ycat_ok h.1
    by_cases ht : a0.1 = 2
    · have hc2 : v0.category = 2 := by rw [hc]; simp [ycat, ht]
      have el : ylay (a0 :: avs) = a0 :: (0, 0) :: ylay avs := if_pos ht
      have es : lg_sl (v0 :: As) = .val v0 :: .second :: lg_sl As := by simp [lg_sl, hc2]
      have ev : ∀ b, lv_args b (v0 :: As) = (b, v0) :: lv_args (b + 2) As := fun b => by simp [lv_args, hc2]
      rw [el, es]
      refine ⟨by simp [e1], fun i b a hi ha => ?_⟩
      rw [ev]
      match i, hi with
      | 0, hi => rw [List.getElem?_cons_zero] at hi; cases hi; exact ⟨v0, List.mem_cons_self, h.1⟩
      | 1, hi => cases hi; exact absurd rfl ha
      | i + 2, hi =>
        rw [List.getElem?_cons_succ, List.getElem?_cons_succ] at hi
        obtain ⟨v, g1, g2⟩ := e2 i (b + 2) a hi ha
        exact ⟨v, List.mem_cons_of_mem _ (by rw [show b + (i + 2) = b + 2 + i by omega]; exact g1), g2⟩
    · have hc2 : ¬ v0.category = 2 := by rw [hc]; simp [ycat, ht]
      have el : ylay (a0 :: avs) = a0 :: ylay avs := if_neg ht
      have es : lg_sl (v0 :: As) = .val v0 :: lg_sl As := by simp [lg_sl, hc2]
      have ev : ∀ b, lv_args b (v0 :: As) = (b, v0) :: lv_args (b + 1) As := fun b => by simp [lv_args, hc2]
      rw [el, es]
      refine ⟨by simp [e1], fun i b a hi ha => ?_⟩
      rw [ev]
      match i, hi with
      | 0, hi => rw [List.getElem?_cons_zero] at hi; cases hi; exact ⟨v0, List.mem_cons_self, h.1⟩
      | i + 1, hi =>
        rw [List.getElem?_cons_succ] at hi
        obtain ⟨v, g1, g2⟩ := e2 i (b + 1) a hi ha
        exact ⟨v, List.mem_cons_of_mem _ (by rw [show b + (i + 1) = b + 1 + i by omega]; exact g1), g2⟩
theorem ylayP_ok {Z : zZ} {ad : Nat → Nat} {avs : List yV} {As : List Value} {n : Nat} (h : yS Z ad avs As) (hn : (ylay avs).length ≤ n) : yL Z ad n (zels As n) (ylayP avs n) := by
  obtain ⟨e1, e2⟩ := ylay_ok h
  have hl := lv_entry As (n := n) (by rw [← e1]; exact hn)
  refine ⟨hl.1, by simp [ylayP]; omega, hl.2.1, fun i a hi ha => ?_⟩
  unfold ylayP at hi
  by_cases hil : i < (ylay avs).length
  · rw [List.getElem?_append_left hil] at hi
    obtain ⟨v, g1, g2⟩ := e2 i 0 a hi ha
    exact ⟨v, hl.2.2 (i, v) (by rw [Nat.zero_add] at g1; exact g1), g2⟩
  · rw [List.getElem?_append_right (by omega)] at hi
    rw [List.getElem?_replicate] at hi
    split at hi
    · cases hi
      exact absurd rfl ha
    · cases hi
/-- a contract's end, a contract -/
def yrm (rm : Nat × Nat) : Room := { frames := rm.1, cells := 0, slots := 0, locals := rm.2 }
def yQc (Z : zZ) (D : va_G) (cl : List vw_C) (tys : List (ClassId × FieldType)) (A : Nat → Prop) (ad : Nat → Nat) (K : List yV → yM → Prop) : Array Value → State → Outcome → State → Prop := fun _ st o t =>
  va_F A st t ∧ ∃ (v : Option Value) (ws' : va_W) (r : List yV) (g' : yM), o = .returned v ∧ va_P D cl ws' t.heap ∧ va_D A ws' ∧ yMem Z ad tys ws' g' ∧ yS Z ad r v.toList ∧ K r g'
def yMet (l : Launch) (Ts : List Cond) (cl : List vw_C) (Z : zZ) (RO : zRO) (MT : zMT) (c : yC) : Prop := ∀ (D : va_G) (tys : List (ClassId × FieldType)) (A : Nat → Prop) (ad : Nat → Nat) (ws : va_W) (g : yM) (as : List yV) (As : List Value) (K : List yV → yM → Prop), yMem Z ad tys ws g → yS Z ad as As → (ylay as).length ≤ (MT c.1).2.2.1 → va_D A ws → c.2.2 as g K →
  Met l (MT c.1).1 (Cond.code (MT c.1).1 (MT c.1).2.1 (MT c.1).2.2.1 (MT c.1).2.2.2 :: Ts) (yrm c.2.1) (zPc D cl tys A ad RO ws As) (yQc Z D cl tys A ad K) 0 0 A
theorem ycell.mono {ad : Nat → Nat} {tys : List (ClassId × FieldType)} {ws ws' : va_W} {g g' : yM} {q : Nat} {ct : zCT} (h : ycell ad tys ws g q ct) (hw : ws'[q]? = ws[q]?) (hg : ∀ j, g' q j = g q j) : ycell ad tys ws' g' q ct := by
  obtain ⟨tg, ci, len, fts⟩ := ct
  match tg, h with
  | 0, ⟨fs, c1, c2, c3⟩ => exact ⟨fs, by rw [hw]; exact c1, c2, fun j ft v a b => by rw [hg]; exact c3 j ft v a b⟩
  | 1, ⟨cA, f, c1, c2, c3⟩ => exact ⟨cA, f, by rw [hw]; exact c1, c2, fun j a => by rw [hg]; exact c3 j a⟩
  | 2, ⟨cA, f, c1, c2, c3⟩ => exact ⟨cA, f, by rw [hw]; exact c1, c2, fun j a => by rw [hg]; exact c3 j a⟩
  | 3, ⟨cA, f, c1, c2, c3⟩ => exact ⟨cA, f, by rw [hw]; exact c1, c2, fun j a => by rw [hg]; exact c3 j a⟩
  | 4, ⟨cA, C, f, c1, c2⟩ => exact ⟨cA, C, f, by rw [hw]; exact c1, c2⟩
  | 5, ⟨cA, f, c1, c2⟩ => exact ⟨cA, f, by rw [hw]; exact c1, c2⟩
  | 6, ⟨cA, f, c1, c2, c3⟩ => exact ⟨cA, f, by rw [hw]; exact c1, c2, fun j a => by rw [hg]; exact c3 j a⟩
  | 7, ⟨cA, f, c1, c2, c3⟩ => exact ⟨cA, f, by rw [hw]; exact c1, c2, fun j a => by rw [hg]; exact c3 j a⟩
theorem yMem.upd {Z : zZ} {ad : Nat → Nat} {tys : List (ClassId × FieldType)} {ws ws' : va_W} {g g' : yM} {q : Nat} {e0 : Nat × Nat × zCT} (hZ : zDj Z) (h : yMem Z ad tys ws g) (he : e0 ∈ Z.1) (h1 : e0.1 ≤ q) (h2 : q ≤ e0.2.1) (ho : ∀ q' : Nat, q' ≠ q → ws'[q']? = ws[q']?) (hg : ∀ q' j : Nat, q' ≠ q → g' q' j = g q' j) (hq : ycell ad tys ws' g' q e0.2.2) : yMem Z ad tys ws' g' := by
  intro e hem q' g1 g2
  by_cases hqq : q' = q
  · subst hqq
    rw [← hZ.1 e0 he e hem q' h1 h2 g1 g2]
    exact hq
  · exact (h e hem q' g1 g2).mono (ho q' hqq) (fun j => hg q' j hqq)
theorem yset_eq {g : yM} {q j : Nat} {v : Int} : yset g q j v q j = v := if_pos ⟨rfl, rfl⟩
theorem yset_ne {g : yM} {q j a b : Nat} {v : Int} (h : ¬ (a = q ∧ b = j)) : yset g q j v a b = g a b := if_neg h
theorem yfld_ok {Z : zZ} {ad : Nat → Nat} {g : yM} {q j : Nat} {ft : zFT} {v : Value} (h : yfv ad q ft (g q j) v) : yval Z ad (yfld g q j ft).1 (yfld g q j ft).2 v := by
  obtain ⟨tg, lo, hi⟩ := ft
  match tg, h with
  | 0, ⟨x, h1, h2⟩ => subst h1; exact yvI h2
  | 1, ⟨x, h1, h2⟩ => subst h1; exact yvL h2
  | 2, ⟨r, h1, h2, h3, h4⟩ =>
    subst h1
    show yval Z ad (bif zleI hi lo then ((3, lo) : yV) else (3, g q j)).1 (bif zleI hi lo then ((3, lo) : yV) else (3, g q j)).2 _
    cases hb : zleI hi lo with
    | true =>
      have := zleI_ok hb
      exact yvR (by show (r : Int) = lo; omega)
    | false => exact yvR h4
  | 3, ⟨x, h1, h2⟩ => subst h1; exact yvI h2
  | 4, h => 
    have h : v = .ref (ad (q + lo.toNat)) := h
    subst h
    exact yvR rfl
  | n + 5, ⟨x, h1, h2⟩ => subst h1; exact yvI h2
theorem yfv_int {ad : Nat → Nat} {q : Nat} {ft : zFT} {z : Int} {x : Int32} (h : yint ft = true) (hx : x.toInt = z) : yfv ad q ft z (.int x) := by
  obtain ⟨tg, lo, hi⟩ := ft
  match tg, h with
  | 0, _ => exact ⟨x, rfl, hx⟩
  | 3, _ => exact ⟨x, rfl, hx⟩
  | n + 5, _ => exact ⟨x, rfl, hx⟩
theorem ycell_int {ad : Nat → Nat} {tys : List (ClassId × FieldType)} {ws : va_W} {g : yM} {q k t0 len : Nat} {fts : List zFT} (hk : yisI k = true) : ycell ad tys ws g q (k, t0, len, fts) ↔ ∃ (cA : ClassId) (f : Nat → Int32), ws[q]? = some (ad q, .inl (cA, len, .inl f)) ∧ tys[t0]? = some (cA, .int) ∧ ∀ j : Nat, j < len → (f j).toInt = g q j := by
  unfold yisI at hk
  rcases Bool.or_eq_true_iff.mp hk with h | h
  · have := ybeq h; subst this; exact Iff.rfl
  · rcases Bool.or_eq_true_iff.mp h with h | h
    · have := ybeq h; subst this; exact Iff.rfl
    · have := ybeq h; subst this; exact Iff.rfl
theorem yin {x : Int32} {i : Int} {n : Nat} (hx : x.toInt = i) (h : 0 ≤ i ∧ i < (n : Int)) : vp_in x n ∧ x.toNatClampNeg < n ∧ x.toNatClampNeg = i.toNat := by
  have e : x.toNatClampNeg = x.toInt.toNat := rfl
  rw [← hx] at h
  refine ⟨vp_in_iff.mpr ⟨by omega, by omega⟩, by rw [e]; omega, by rw [e, hx]⟩
section YH
variable {p : Program} {l : Launch} {e : Env} {R : Room} {s : State} {m : MethodId} {args : Array Value} {below : List Frame} {meth : Method} {c : Code} {Q : State → Prop} {cc : ByteArray} {pc ce sl : Nat}
variable {Z : zZ} {D : va_G} {cl : List vw_C} {tys : List (ClassId × FieldType)} {A : Nat → Prop} {ad : Nat → Nat} {H0 : Heap} {nL : Nat}
variable {nx : yNx} {L st : List yV} {g : yM} {len : Nat}
theorem yk_get (hx : p.tables.exec = Jvm.exec) (hb : c.code = cc) {own : String} (hown : s.vm.findClass own = some m.cls) (hK : va_K D cl tys s) {P : zPool} (hFl : ∀ f ∈ P.1, zFld cl s args own f.1 f.2.1 f.2.2.1) {idx : Nat} (h : yi_get Z P pc nx L st g idx len) (hd : decode cc pc = .ok (.getfield idx, len)) (k : ∀ (pc' : Nat) (L' st' : List yV) (g' : yM), nx pc' L' st' g' → yWP (yG Z D cl tys A ad H0 nL) (fun H locs pc ls st => W p l e R s m args below meth c H locs ce sl Q (F0 m pc ls st)) pc' L' st' g') : yWP (yG Z D cl tys A ad H0 nL) (fun H locs pc ls st => W p l e R s m args below meth c H locs ce sl Q (F0 m pc ls st)) pc L st g := by
  match st, h with
  | (t, z) :: r, h =>
    unfold yi_get at h
    simp only at h
    split at h
    · rename_i f ci x fts hf ht
      split at h
      · rename_i ft hj
        obtain ⟨h1, h2⟩ := ybif h
        rw [Bool.and_eq_true] at h1
        have e3 := ybeq h1.1
        subst e3
        have ec := ybeq h1.2
        have hfm := List.mem_of_find?_eq_some hf
        have hfi : f.1 = idx := by have := List.find?_some hf; simpa using this
        intro ls stc ws H locs hG
        obtain ⟨hP, hD, hS, hM, hL, hT⟩ := hG
        match stc, hT with
        | v1 :: stc, ⟨hv1, hT⟩ =>
          obtain ⟨hv, e0, he0, g1, g2, g3⟩ := yty_ok ht hv1
          subst hv
          have hc := hM e0 he0 _ g1 g2
          rw [g3] at hc
          obtain ⟨fs, c1, c2, c3⟩ := hc
          have hl : f.2.2.1 < fs.length := by rw [c2]; exact (List.getElem?_eq_some_iff.mp hj).1
          have hv : fs[f.2.2.1]? = some fs[f.2.2.1] := List.getElem?_eq_getElem hl
          have hG2 := k _ _ _ _ h2 ls (fs[f.2.2.1] :: stc) ws H locs ⟨hP, hD, hS, hM, hL, yfld_ok (c3 _ ft _ hj hv), hT⟩
          obtain ⟨C, T, N, ty0, f1, f2, f3, f4, f5, f6⟩ := hFl f hfm
          rw [← ec] at f1
          rw [hfi] at f6
          rcases f6 with f6 | ⟨host, f6⟩
          · exact va_get hx hb f3 (fun w hw => hw) hown hK hP (ypl Z t z) c1 f1 f.2.2.1 f2 f6 (fun x h => h) hv hd hG2
          · exact va_getN hx hb f3 (fun w hw => hw) hown hK hP (ypl Z t z) c1 f1 f.2.2.1 f2 f6 (fun x h => h) hv hd hG2
      · exact h.elim
    · exact h.elim
theorem yk_put (hx : p.tables.exec = Jvm.exec) (hb : c.code = cc) {own : String} (hown : s.vm.findClass own = some m.cls) (hK : va_K D cl tys s) (hZ : zDj Z) {P : zPool} (hFp : ∀ f ∈ P.1, f.2.2.2 ≤ 2 → zFldP cl s args own f.1 f.2.1 f.2.2.1 f.2.2.2) {idx : Nat} (h : yi_put Z P pc nx L st g idx len) (hd : decode cc pc = .ok (.putfield idx, len)) (k : ∀ (pc' : Nat) (L' st' : List yV) (g' : yM), nx pc' L' st' g' → yWP (yG Z D cl tys A ad H0 nL) (fun H locs pc ls st => W p l e R s m args below meth c H locs ce sl Q (F0 m pc ls st)) pc' L' st' g') : yWP (yG Z D cl tys A ad H0 nL) (fun H locs pc ls st => W p l e R s m args below meth c H locs ce sl Q (F0 m pc ls st)) pc L st g := by
  match st, h with
  | (tv, v) :: (t, z) :: r, h =>
    unfold yi_put at h
    simp only at h
    split at h
    · rename_i f ci x fts hf ht
      split at h
      · rename_i ft hj
        obtain ⟨h1, h2⟩ := ybif h
        rw [Bool.and_eq_true] at h1
        have e3 := ybeq h1.1
        subst e3
        have ec := ybeq h1.2
        have hfm := List.mem_of_find?_eq_some hf
        have hfi : f.1 = idx := by have := List.find?_some hf; simpa using this
        intro ls stc ws H locs hG
        obtain ⟨hP, hD, hS, hM, hL, hT⟩ := hG
        match stc, hT with
        | w :: v1 :: stc, ⟨hw, hv1, hT⟩ =>
          obtain ⟨hv, e0, he0, g1, g2, g3⟩ := yty_ok ht hv1
          subst hv
          have hc := hM e0 he0 _ g1 g2
          rw [g3] at hc
          obtain ⟨fs, c1, c2, c3⟩ := hc
          have hl : f.2.2.1 < fs.length := by rw [c2]; exact (List.getElem?_eq_some_iff.mp hj).1
          have hkd : f.2.2.2 ≤ 2 ∧ nx (pc + 3) L r (yset g (ypl Z t z) f.2.2.1 v) ∧ yfv ad (ypl Z t z) ft v w ∧ ∀ ty : FieldType, (f.2.2.2 = 0 → ty = .int) → (f.2.2.2 = 1 → ty = .boolean) → (f.2.2.2 = 2 → ∃ n, ty = .object n) → narrow ty w = w ∧ fits ty w = true := by
            unfold yputc at h2
            split at h2
            · rename_i hk0
              obtain ⟨b1, b2⟩ := ybif h2
              rw [Bool.and_eq_true] at b1
              have et := ybeq b1.2
              subst et
              obtain ⟨y, rfl, hy⟩ := yvI' hw
              refine ⟨by omega, b2, yfv_int b1.1 hy, fun ty a0 _ _ => ?_⟩
              rw [a0 hk0]
              exact ⟨rfl, rfl⟩
            · rename_i hk0
              obtain ⟨b1, b3, b2⟩ := ybif h2
              rw [Bool.and_eq_true] at b1
              have et := ybeq b1.2
              subst et
              obtain ⟨y, rfl, hy⟩ := yvI' hw
              have hy : y.toInt = v := hy
              refine ⟨by omega, b2, yfv_int b1.1 hy, fun ty _ a0 _ => ?_⟩
              rw [a0 hk0]
              rcases (show y.toInt = 0 ∨ y.toInt = 1 by omega) with e | e
              · have : y = 0 := Int32.toInt_inj.mp (by rw [e]; rfl)
                subst this
                exact ⟨by decide, by decide⟩
              · have : y = 1 := Int32.toInt_inj.mp (by rw [e]; rfl)
                subst this
                exact ⟨by decide, by decide⟩
            · rename_i hk0
              obtain ⟨b1, b3, b2⟩ := ybif h2
              rw [Bool.and_eq_true] at b1
              have et := ybeq b1.2
              subst et
              have ef := ybeq b1.1
              obtain ⟨tg, lo, hi⟩ := ft
              have ef : tg = 2 := ef
              subst ef
              have hw2 : ∃ q : Nat, w = .ref (ad q) ∧ (q : Int) = v := by
                unfold yval at hw
                rw [if_neg (by omega)] at hw
                exact hw
              obtain ⟨q, rfl, hq⟩ := hw2
              refine ⟨by omega, b2, ⟨q, rfl, by rw [hq]; exact b3.1, by rw [hq]; exact b3.2, hq⟩, fun ty _ _ a0 => ?_⟩
              obtain ⟨n, rfl⟩ := a0 hk0
              exact ⟨rfl, rfl⟩
            · exact h2.elim
          obtain ⟨k1, k2, k3, k4⟩ := hkd
          obtain ⟨C, T, N, ty0, f1, f2, f3, f4, f5, f6, f7, f8, f9, f10⟩ := hFp f hfm k1
          rw [← ec] at f1
          rw [hfi] at f6
          obtain ⟨n1, n2'⟩ := k4 (ty0 f.2.2.1) f8 f9 f10
          have hcell : ycell ad tys (ws.set (ypl Z t z) (ad (ypl Z t z), .inr (ci, fs.set f.2.2.1 w))) (yset g (ypl Z t z) f.2.2.1 v) (ypl Z t z) e0.2.2 := by
            rw [g3]
            refine ⟨fs.set f.2.2.1 w, zget_set c1, by rw [List.length_set]; exact c2, fun j' ft' v' hj' hv' => ?_⟩
            by_cases hjj : j' = f.2.2.1
            · subst hjj
              rw [List.getElem?_set_self hl] at hv'
              cases hv'
              rw [hj] at hj'
              cases hj'
              rw [yset_eq]
              exact k3
            · rw [List.getElem?_set_ne (Ne.symm hjj)] at hv'
              rw [yset_ne (fun q => hjj q.2)]
              exact c3 j' ft' v' hj' hv'
          have fin : ∀ (H1 : Heap) (locs1 : List Loc), va_P D cl (ws.set (ypl Z t z) (ad (ypl Z t z), .inr (ci, fs.set f.2.2.1 w))) H1 → va_D A (ws.set (ypl Z t z) (ad (ypl Z t z), .inr (ci, fs.set f.2.2.1 w))) → va_S A H0 H1 locs1 → W p l e R s m args below meth c H1 locs1 ce sl Q (F0 m (pc + 3) ls stc) := fun H1 locs1 p1 p2 p3 =>
            k _ _ _ _ k2 ls stc _ H1 locs1 ⟨p1, p2, p3, hM.upd hZ he0 g1 g2 (fun q' hq => List.getElem?_set_ne (Ne.symm hq)) (fun q' j hq => yset_ne (fun z => hq z.1)) hcell, hL, hT⟩
          rcases f6 with f6 | ⟨host, f6⟩
          · exact va_put hx hb f3 (fun w hw => hw) ty0 f4 f5 hown hK hP hD hS (ypl Z t z) c1 f1 f.2.2.1 f2 f6 (fun x h => h) f7 (f4 f.2.2.1 f2) n1 n2' hl hd fin
          · exact va_putN hx hb f3 (fun w hw => hw) ty0 f4 f5 hown hK hP hD hS (ypl Z t z) c1 f1 f.2.2.1 f2 f6 (fun x h => h) f7 (f4 f.2.2.1 f2) n1 n2' hl hd fin
      · exact h.elim
    · exact h.elim
theorem yk_iald (hx : p.tables.exec = Jvm.exec) (hb : c.code = cc) (hK : va_K D cl tys s) {RS : List (List Int)} (hRS : ∀ (i : Nat) (tb : List Int), RS[i]? = some tb → ∀ (H : Heap) (locs : List Loc) (ls : Array Slot) (rest : List Value) (x : Int32), decode cc pc = .ok (.iaload, 1) → va_S A H0 H locs → vp_in x tb.length → W p l e R s m args below meth c H locs ce sl Q (F0 m (pc + 1) ls (.int (Int32.ofInt (tb.getD x.toNatClampNeg 0)) :: rest)) → W p l e R s m args below meth c H locs ce sl Q (F0 m pc ls (.int x :: .ref (ad (1000 + i)) :: rest)))
    (hRb : ∀ tb ∈ RS, ∀ v ∈ tb, -2147483648 ≤ v ∧ v ≤ 2147483647) (h : yi_iald Z RS pc nx L st g len) (hd : decode cc pc = .ok (.iaload, len)) (k : ∀ (pc' : Nat) (L' st' : List yV) (g' : yM), nx pc' L' st' g' → yWP (yG Z D cl tys A ad H0 nL) (fun H locs pc ls st => W p l e R s m args below meth c H locs ce sl Q (F0 m pc ls st)) pc' L' st' g') : yWP (yG Z D cl tys A ad H0 nL) (fun H locs pc ls st => W p l e R s m args below meth c H locs ce sl Q (F0 m pc ls st)) pc L st g := by
  match st, h with
  | (ti, i) :: (t, z) :: r, h =>
    unfold yi_iald at h
    simp only at h
    split at h
    · rename_i kk t0 n fts ht
      obtain ⟨h1, h0, h2⟩ := ybif h
      rw [Bool.and_eq_true, Bool.and_eq_true] at h1
      have e3 := ybeq h1.1
      subst e3
      have ei := ybeq h1.2.1
      subst ei
      intro ls stc ws H locs hG
      obtain ⟨hP, hD, hS, hM, hL, hT⟩ := hG
      match stc, hT with
      | v2 :: v1 :: stc, ⟨hv2, hv1, hT⟩ =>
        obtain ⟨x, rfl, gx⟩ := yvI' hv2
        have gx : x.toInt = i := gx
        obtain ⟨hv, e0, he0, g1, g2, g3⟩ := yty_ok ht hv1
        subst hv
        have hc := hM e0 he0 _ g1 g2
        rw [g3] at hc
        obtain ⟨cA, f, c1, c2, c3⟩ := (ycell_int h1.2.2).mp hc
        obtain ⟨b1, b2, b3⟩ := yin gx h0
        exact va_iald hx hb hK hP (ypl Z t z) t0 c1 c2 b1 hd (k _ _ _ _ h2 ls _ ws H locs ⟨hP, hD, hS, hM, hL, yvI (by rw [c3 _ b2, b3]), hT⟩)
    · rename_i ht
      obtain ⟨h1, h2⟩ := ybif h
      rw [Bool.and_eq_true, Bool.and_eq_true, Bool.and_eq_true] at h1
      have e3 := ybeq h1.1
      subst e3
      have ei := ybeq h1.2.1
      subst ei
      have et := ybeq h1.2.2.1
      subst et
      have hz := zleI_ok h1.2.2.2
      split at h2
      · rename_i tb htb
        obtain ⟨h0, h2⟩ := h2
        intro ls stc ws H locs hG
        obtain ⟨hP, hD, hS, hM, hL, hT⟩ := hG
        match stc, hT with
        | v2 :: v1 :: stc, ⟨hv2, hv1, hT⟩ =>
          obtain ⟨x, rfl, gx⟩ := yvI' hv2
          have gx : x.toInt = i := gx
          have hv := yvR' hv1 (Or.inl rfl)
          have hv : v1 = .ref (ad z.toNat) := hv
          rw [show z.toNat = 1000 + (z - 1000).toNat by omega] at hv
          subst hv
          obtain ⟨b1, b2, b3⟩ := yin gx h0
          have hmem : tb.getD i.toNat 0 ∈ tb := by
            rw [List.getD_eq_getElem?_getD, List.getElem?_eq_getElem (by omega)]
            exact List.getElem_mem _
          have hb2 := hRb tb (List.mem_of_getElem? htb) _ hmem
          exact hRS _ tb htb H locs ls stc x hd hS b1 (k _ _ _ _ h2 ls _ ws H locs ⟨hP, hD, hS, hM, hL, yvI (by rw [b3, zofI hb2.1 hb2.2]), hT⟩)
      · exact h2.elim
theorem yk_bald (hx : p.tables.exec = Jvm.exec) (hb : c.code = cc) (hK : va_K D cl tys s) (h : yi_bald Z pc nx L st g len) (hd : decode cc pc = .ok (.baload, len)) (k : ∀ (pc' : Nat) (L' st' : List yV) (g' : yM), nx pc' L' st' g' → yWP (yG Z D cl tys A ad H0 nL) (fun H locs pc ls st => W p l e R s m args below meth c H locs ce sl Q (F0 m pc ls st)) pc' L' st' g') : yWP (yG Z D cl tys A ad H0 nL) (fun H locs pc ls st => W p l e R s m args below meth c H locs ce sl Q (F0 m pc ls st)) pc L st g := by
  match st, h with
  | (ti, i) :: (t, z) :: r, h =>
    unfold yi_bald at h
    simp only at h
    split at h
    · rename_i kk t0 n fts ht
      obtain ⟨h1, h0, h2⟩ := ybif h
      rw [Bool.and_eq_true, Bool.and_eq_true] at h1
      have e3 := ybeq h1.1
      subst e3
      have ei := ybeq h1.2.1
      subst ei
      have ek := ybeq h1.2.2
      subst ek
      intro ls stc ws H locs hG
      obtain ⟨hP, hD, hS, hM, hL, hT⟩ := hG
      match stc, hT with
      | v2 :: v1 :: stc, ⟨hv2, hv1, hT⟩ =>
        obtain ⟨x, rfl, gx⟩ := yvI' hv2
        have gx : x.toInt = i := gx
        obtain ⟨hv, e0, he0, g1, g2, g3⟩ := yty_ok ht hv1
        subst hv
        have hc := hM e0 he0 _ g1 g2
        rw [g3] at hc
        obtain ⟨cA, f, c1, c2, c3⟩ := hc
        obtain ⟨b1, b2, b3⟩ := yin gx h0
        exact va_bald hx hb hK hP (ypl Z t z) t0 c1 c2 b1 hd (k _ _ _ _ h2 ls _ ws H locs ⟨hP, hD, hS, hM, hL, yvI (by rw [c3 _ b2, b3]), hT⟩)
    · exact h.elim
theorem yk_lald (hx : p.tables.exec = Jvm.exec) (hb : c.code = cc) (hK : va_K D cl tys s) (h : yi_lald Z pc nx L st g len) (hd : decode cc pc = .ok (.laload, len)) (k : ∀ (pc' : Nat) (L' st' : List yV) (g' : yM), nx pc' L' st' g' → yWP (yG Z D cl tys A ad H0 nL) (fun H locs pc ls st => W p l e R s m args below meth c H locs ce sl Q (F0 m pc ls st)) pc' L' st' g') : yWP (yG Z D cl tys A ad H0 nL) (fun H locs pc ls st => W p l e R s m args below meth c H locs ce sl Q (F0 m pc ls st)) pc L st g := by
  match st, h with
  | (ti, i) :: (t, z) :: r, h =>
    unfold yi_lald at h
    simp only at h
    split at h
    · rename_i kk t0 n fts ht
      obtain ⟨h1, h0, h2⟩ := ybif h
      rw [Bool.and_eq_true, Bool.and_eq_true] at h1
      have e3 := ybeq h1.1
      subst e3
      have ei := ybeq h1.2.1
      subst ei
      have ek := ybeq h1.2.2
      subst ek
      intro ls stc ws H locs hG
      obtain ⟨hP, hD, hS, hM, hL, hT⟩ := hG
      match stc, hT with
      | v2 :: v1 :: stc, ⟨hv2, hv1, hT⟩ =>
        obtain ⟨x, rfl, gx⟩ := yvI' hv2
        have gx : x.toInt = i := gx
        obtain ⟨hv, e0, he0, g1, g2, g3⟩ := yty_ok ht hv1
        subst hv
        have hc := hM e0 he0 _ g1 g2
        rw [g3] at hc
        obtain ⟨cA, f, c1, c2, c3⟩ := hc
        obtain ⟨b1, b2, b3⟩ := yin gx h0
        exact va_lald hx hb hK hP (ypl Z t z) t0 c1 c2 b1 hd (k _ _ _ _ h2 ls _ ws H locs ⟨hP, hD, hS, hM, hL, yvL (by rw [c3 _ b2, b3]), hT⟩)
    · exact h.elim
theorem yk_aald (hx : p.tables.exec = Jvm.exec) (hb : c.code = cc) (hK : va_K D cl tys s) (h : yi_aald Z pc nx L st g len) (hd : decode cc pc = .ok (.aaload, len)) (k : ∀ (pc' : Nat) (L' st' : List yV) (g' : yM), nx pc' L' st' g' → yWP (yG Z D cl tys A ad H0 nL) (fun H locs pc ls st => W p l e R s m args below meth c H locs ce sl Q (F0 m pc ls st)) pc' L' st' g') : yWP (yG Z D cl tys A ad H0 nL) (fun H locs pc ls st => W p l e R s m args below meth c H locs ce sl Q (F0 m pc ls st)) pc L st g := by
  match st, h with
  | (ti, i) :: (t, z) :: r, h =>
    unfold yi_aald at h
    simp only at h
    split at h
    · rename_i kk t0 n ft fts ht
      split at h
      · rename_i er her
        obtain ⟨h1, h0, h2⟩ := ybif h
        rw [Bool.and_eq_true, Bool.and_eq_true] at h1
        have e3 := ybeq h1.1
        subst e3
        have ei := ybeq h1.2.1
        subst ei
        obtain ⟨-, xr, r1, r2, r3⟩ := yrng_ok her
        intro ls stc ws H locs hG
        obtain ⟨hP, hD, hS, hM, hL, hT⟩ := hG
        match stc, hT with
        | v2 :: v1 :: stc, ⟨hv2, hv1, hT⟩ =>
          obtain ⟨x, rfl, gx⟩ := yvI' hv2
          have gx : x.toInt = i := gx
          obtain ⟨hv, e0, he0, g1, g2, g3⟩ := yty_ok ht hv1
          subst hv
          have hc := hM e0 he0 _ g1 g2
          rw [g3] at hc
          obtain ⟨b1, b2, b3⟩ := yin gx h0
          have hval : yval Z ad (100 + er) i (.ref (ad (ft.2.1.toNat + x.toNatClampNeg))) := by
            unfold yval
            rw [if_pos (by omega)]
            refine ⟨xr, by rw [show 100 + er - 100 = er - 0 by omega]; exact r1, h0.1, by omega, ?_⟩
            rw [r2, b3]
          rcases Bool.or_eq_true_iff.mp h1.2.2 with hk | hk
          · have hk := ybeq hk
            subst hk
            obtain ⟨cA, C, f, c1, c2, c3⟩ := hc
            refine va_aldq hx hb hK hP (ypl Z t z) t0 c1 c2 b1 hd ?_
            rw [c3 _ ft b2 rfl]
            exact k _ _ _ _ h2 ls _ ws H locs ⟨hP, hD, hS, hM, hL, hval, hT⟩
          · have hk := ybeq hk
            subst hk
            obtain ⟨cA, f, c1, c2, c3⟩ := hc
            refine W.aald (v := va_rf (f x.toNatClampNeg)) (ty := .array .long) hx hb (hP (ypl Z t z) _ c1) ((hK.2 t0 _ c2).1 n (fun j => va_rf (f j))) rfl (fun q => by cases q) (by show ¬ (x < 0 ∨ (arrV _ _ _).slots.size ≤ _); rw [arrV_size]; exact b1) (by show (arrV _ _ _).slots[_]? = _; rw [arrV_read _ _ b2]) rfl rfl hd ?_
            rw [c3 _ ft b2 rfl]
            exact k _ _ _ _ h2 ls _ ws H locs ⟨hP, hD, hS, hM, hL, hval, hT⟩
      · exact h.elim
    · exact h.elim
theorem yk_iast (hx : p.tables.exec = Jvm.exec) (hb : c.code = cc) (hK : va_K D cl tys s) (hZ : zDj Z) (h : yi_iast Z pc nx L st g len) (hd : decode cc pc = .ok (.iastore, len)) (k : ∀ (pc' : Nat) (L' st' : List yV) (g' : yM), nx pc' L' st' g' → yWP (yG Z D cl tys A ad H0 nL) (fun H locs pc ls st => W p l e R s m args below meth c H locs ce sl Q (F0 m pc ls st)) pc' L' st' g') : yWP (yG Z D cl tys A ad H0 nL) (fun H locs pc ls st => W p l e R s m args below meth c H locs ce sl Q (F0 m pc ls st)) pc L st g := by
  match st, h with
  | (tv, v) :: (ti, i) :: (t, z) :: r, h =>
    unfold yi_iast at h
    simp only at h
    split at h
    · rename_i kk t0 n fts ht
      obtain ⟨h1, h0, h2⟩ := ybif h
      rw [Bool.and_eq_true, Bool.and_eq_true, Bool.and_eq_true] at h1
      have e3 := ybeq h1.1
      subst e3
      have ev := ybeq h1.2.1
      subst ev
      have ei := ybeq h1.2.2.1
      subst ei
      intro ls stc ws H locs hG
      obtain ⟨hP, hD, hS, hM, hL, hT⟩ := hG
      match stc, hT with
      | v3 :: v2 :: v1 :: stc, ⟨hv3, hv2, hv1, hT⟩ =>
        obtain ⟨y, rfl, gy⟩ := yvI' hv3
        have gy : y.toInt = v := gy
        obtain ⟨x, rfl, gx⟩ := yvI' hv2
        have gx : x.toInt = i := gx
        obtain ⟨hv, e0, he0, g1, g2, g3⟩ := yty_ok ht hv1
        subst hv
        have hc := hM e0 he0 _ g1 g2
        rw [g3] at hc
        obtain ⟨cA, f, c1, c2, c3⟩ := (ycell_int h1.2.2.2).mp hc
        obtain ⟨b1, b2, b3⟩ := yin gx h0
        have hcell : ycell ad tys (ws.set (ypl Z t z) (ad (ypl Z t z), .inl (cA, n, .inl (upd f x.toNatClampNeg y)))) (yset g (ypl Z t z) i.toNat v) (ypl Z t z) e0.2.2 := by
          rw [g3]
          refine (ycell_int h1.2.2.2).mpr ⟨cA, _, zget_set c1, c2, fun j hj => ?_⟩
          by_cases hjj : j = x.toNatClampNeg
          · subst hjj
            rw [b3, yset_eq]
            simp only [upd, if_true]
            exact gy
          · rw [yset_ne (fun q => hjj (by rw [b3]; exact q.2))]
            simp only [upd, if_neg hjj]
            exact c3 j hj
        exact va_iast hx hb hK hP hD hS (ypl Z t z) t0 c1 c2 b1 hd (fun H1 locs1 p1 p2 p3 =>
          k _ _ _ _ h2 ls stc _ H1 locs1 ⟨p1, p2, p3, hM.upd hZ he0 g1 g2 (fun q' hq => List.getElem?_set_ne (Ne.symm hq)) (fun q' j hq => yset_ne (fun z => hq z.1)) hcell, hL, hT⟩)
    · exact h.elim
theorem ynarB (y : Int32) : (vp_nar .byte y).toInt = y.toInt.bmod 256 := by
  rw [vp_nar_byte, Int8.toInt_toInt32, Int32.toInt_toInt8]
theorem yk_bast (hx : p.tables.exec = Jvm.exec) (hb : c.code = cc) (hK : va_K D cl tys s) (hZ : zDj Z) (h : yi_bast Z pc nx L st g len) (hd : decode cc pc = .ok (.bastore, len)) (k : ∀ (pc' : Nat) (L' st' : List yV) (g' : yM), nx pc' L' st' g' → yWP (yG Z D cl tys A ad H0 nL) (fun H locs pc ls st => W p l e R s m args below meth c H locs ce sl Q (F0 m pc ls st)) pc' L' st' g') : yWP (yG Z D cl tys A ad H0 nL) (fun H locs pc ls st => W p l e R s m args below meth c H locs ce sl Q (F0 m pc ls st)) pc L st g := by
  match st, h with
  | (tv, v) :: (ti, i) :: (t, z) :: r, h =>
    unfold yi_bast at h
    simp only at h
    split at h
    · rename_i kk t0 n fts ht
      obtain ⟨h1, h0, h2⟩ := ybif h
      rw [Bool.and_eq_true, Bool.and_eq_true, Bool.and_eq_true] at h1
      have e3 := ybeq h1.1
      subst e3
      have ev := ybeq h1.2.1
      subst ev
      have ei := ybeq h1.2.2.1
      subst ei
      have ek := ybeq h1.2.2.2
      subst ek
      intro ls stc ws H locs hG
      obtain ⟨hP, hD, hS, hM, hL, hT⟩ := hG
      match stc, hT with
      | v3 :: v2 :: v1 :: stc, ⟨hv3, hv2, hv1, hT⟩ =>
        obtain ⟨y, rfl, gy⟩ := yvI' hv3
        have gy : y.toInt = v := gy
        obtain ⟨x, rfl, gx⟩ := yvI' hv2
        have gx : x.toInt = i := gx
        obtain ⟨hv, e0, he0, g1, g2, g3⟩ := yty_ok ht hv1
        subst hv
        have hc := hM e0 he0 _ g1 g2
        rw [g3] at hc
        obtain ⟨cA, f, c1, c2, c3⟩ := hc
        obtain ⟨b1, b2, b3⟩ := yin gx h0
        have hcell : ycell ad tys (ws.set (ypl Z t z) (ad (ypl Z t z), .inl (cA, n, .inl (upd f x.toNatClampNeg (vp_nar .byte y))))) (yset g (ypl Z t z) i.toNat (v.bmod 256)) (ypl Z t z) e0.2.2 := by
          rw [g3]
          refine ⟨cA, _, zget_set c1, c2, fun j hj => ?_⟩
          by_cases hjj : j = x.toNatClampNeg
          · subst hjj
            rw [b3, yset_eq]
            simp only [upd, if_true]
            rw [ynarB, gy]
          · rw [yset_ne (fun q => hjj (by rw [b3]; exact q.2))]
            simp only [upd, if_neg hjj]
            exact c3 j hj
        exact va_bast hx hb hK hP hD hS (ypl Z t z) t0 c1 c2 b1 hd (fun H1 locs1 p1 p2 p3 =>
          k _ _ _ _ h2 ls stc _ H1 locs1 ⟨p1, p2, p3, hM.upd hZ he0 g1 g2 (fun q' hq => List.getElem?_set_ne (Ne.symm hq)) (fun q' j hq => yset_ne (fun z => hq z.1)) hcell, hL, hT⟩)
    · exact h.elim
theorem yk_last (hx : p.tables.exec = Jvm.exec) (hb : c.code = cc) (hK : va_K D cl tys s) (hZ : zDj Z) (h : yi_last Z pc nx L st g len) (hd : decode cc pc = .ok (.lastore, len)) (k : ∀ (pc' : Nat) (L' st' : List yV) (g' : yM), nx pc' L' st' g' → yWP (yG Z D cl tys A ad H0 nL) (fun H locs pc ls st => W p l e R s m args below meth c H locs ce sl Q (F0 m pc ls st)) pc' L' st' g') : yWP (yG Z D cl tys A ad H0 nL) (fun H locs pc ls st => W p l e R s m args below meth c H locs ce sl Q (F0 m pc ls st)) pc L st g := by
  match st, h with
  | (tv, v) :: (ti, i) :: (t, z) :: r, h =>
    unfold yi_last at h
    simp only at h
    split at h
    · rename_i kk t0 n fts ht
      obtain ⟨h1, h0, h2⟩ := ybif h
      rw [Bool.and_eq_true, Bool.and_eq_true, Bool.and_eq_true] at h1
      have e3 := ybeq h1.1
      subst e3
      have ev := ybeq h1.2.1
      subst ev
      have ei := ybeq h1.2.2.1
      subst ei
      have ek := ybeq h1.2.2.2
      subst ek
      intro ls stc ws H locs hG
      obtain ⟨hP, hD, hS, hM, hL, hT⟩ := hG
      match stc, hT with
      | v3 :: v2 :: v1 :: stc, ⟨hv3, hv2, hv1, hT⟩ =>
        obtain ⟨y, rfl, gy⟩ := yvL' hv3
        have gy : y.toInt = v := gy
        obtain ⟨x, rfl, gx⟩ := yvI' hv2
        have gx : x.toInt = i := gx
        obtain ⟨hv, e0, he0, g1, g2, g3⟩ := yty_ok ht hv1
        subst hv
        have hc := hM e0 he0 _ g1 g2
        rw [g3] at hc
        obtain ⟨cA, f, c1, c2, c3⟩ := hc
        obtain ⟨b1, b2, b3⟩ := yin gx h0
        have hcell : ycell ad tys (ws.set (ypl Z t z) (ad (ypl Z t z), .inl (cA, n, .inr (.inl (vp_updL f x.toNatClampNeg y))))) (yset g (ypl Z t z) i.toNat v) (ypl Z t z) e0.2.2 := by
          rw [g3]
          refine ⟨cA, _, zget_set c1, c2, fun j hj => ?_⟩
          by_cases hjj : j = x.toNatClampNeg
          · subst hjj
            rw [b3, yset_eq]
            simp only [vp_updL, if_true]
            exact gy
          · rw [yset_ne (fun q => hjj (by rw [b3]; exact q.2))]
            simp only [vp_updL, if_neg hjj]
            exact c3 j hj
        exact va_last hx hb hK hP hD hS (ypl Z t z) t0 c1 c2 b1 hd (fun H1 locs1 p1 p2 p3 =>
          k _ _ _ _ h2 ls stc _ H1 locs1 ⟨p1, p2, p3, hM.upd hZ he0 g1 g2 (fun q' hq => List.getElem?_set_ne (Ne.symm hq)) (fun q' j hq => yset_ne (fun z => hq z.1)) hcell, hL, hT⟩)
    · exact h.elim
/-- behind a call -/
theorem ys_run {ws : va_W} {ls : Array Slot} {stc restc : List Value} {H : Heap} {locs : List Loc} {KK : List yV → yM → Prop} {a : Array Value} (hG : yG Z D cl tys A ad H0 nL L st g ls restc ws H locs)
    (hr : va_Run p l e R s m args below meth c H locs ce sl 0 0 (F0 m pc ls stc) restc (yQc Z D cl tys A ad KK a) A) (k : ∀ (r : List yV) (g' : yM), KK r g' → yWP (yG Z D cl tys A ad H0 nL) (fun H locs pc ls st => W p l e R s m args below meth c H locs ce sl Q (F0 m pc ls st)) (pc + 3) L (r ++ st) g') : W p l e R s m args below meth c H locs ce sl Q (F0 m pc ls stc) := by
  intro T hT X
  obtain ⟨v, st₀, t, T', L', g0, X', hL', e1, e2, ⟨⟨hz, hk⟩, v', ws', r, g', hv, hP', hD', hM', hr', hK'⟩, hst⟩ := hr T hT X
  cases hv
  obtain ⟨hP, hD, hS, hM, hL, hT2⟩ := hG
  rw [g0] at hz hk
  have hS1 : va_S A H0 T'.heap (locs ++ L') := ⟨Nat.le_trans hS.1 (by rw [e1]; exact hz), fun q h1 h2 => by rw [e1, hk q (Nat.lt_of_lt_of_le h1 hS.1) h2]; exact hS.2.1 q h1 h2, fun q hq => by
    rcases List.mem_append.mp hq with h | h
    · exact hS.2.2 q h
    · exact hL' q h⟩
  obtain ⟨t2, a1, b1⟩ := k r g' hK' ls (v.toList ++ restc) ws' T'.heap _ ⟨by rw [e1]; exact hP', hD', hS1, hM', hL, hr'.app hT2⟩ T' rfl X'
  exact ⟨t2, hst t2 a1, b1⟩
/-- the pool's rows on calls, for any contract of that method -/
theorem yok8_ok {st : List yV} (h : yok8 st = true) : (st.map ycat).sum ≤ 8 := by
  unfold yok8 at h
  rw [Bool.and_eq_true] at h
  exact yble h.1
def yzC (mid : Nat) : zC := (mid, (0, 0), ([], ([], [], [], [], [], [])), [], [])
theorem ys_callV (hx : p.tables.exec = Jvm.exec) (hb : c.code = cc) (hcs : ce ≤ R.cells ∧ sl ≤ R.slots) (hml : c.maxLocals = nL) (hH0 : H0 = s.heap) {own : String} {Ts : List Cond} {RO : zRO} {MT : zMT} (hown : s.vm.findClass own = some m.cls) (hts : ∀ w ∈ Ts, w.before args s = true) (hTg : ∀ w ∈ Ts, goodWord w = true) (hK : va_K D cl tys s) (hR : zROk RO) (hro : RO ad A s s.heap) {cn : yC} (hM0 : yMet l Ts cl Z RO MT cn)
    {idx t ci x N : Nat} {z : Int} {T : u_T} {fts : List zFT} {as r : List yV} {KK : List yV → yM → Prop} (hd : decode cc pc = .ok (.invokevirtual idx, 3)) (hlk : zLkV Ts own idx (zKof MT (yzC cn.1)) as.length) (ht : yty Z t z = some (0, ci, x, fts)) (hcl : cl[ci]? = some ((MT cn.1).1.cls, T, N)) (hl : (ylay ((t, z) :: as)).length ≤ (MT cn.1).2.2.1)
    (hroom : cn.2.1.1 + 1 ≤ R.frames ∧ 8 + ((MT cn.1).2.2.1 + 11) + cn.2.1.2 ≤ R.locals) (h8 : yok8 r = true) (hpt : cn.2.2 ((t, z) :: as) g KK)
    (k : ∀ (v : List yV) (g' : yM), KK v g' → yWP (yG Z D cl tys A ad H0 nL) (fun H locs pc ls st => W p l e R s m args below meth c H locs ce sl Q (F0 m pc ls st)) (pc + 3) L (v ++ r) g') : yWP (yG Z D cl tys A ad H0 nL) (fun H locs pc ls st => W p l e R s m args below meth c H locs ce sl Q (F0 m pc ls st)) pc L (as.reverse ++ (t, z) :: r) g := by
  intro ls stc ws H locs hG
  obtain ⟨hP, hD, hS, hM, hL, hT⟩ := hG
  obtain ⟨v1, v2, rfl, hS1, hS2⟩ := hT.split
  match v2, hS2 with
  | v0 :: restc, ⟨hv0, hS3⟩ =>
    have hS1r := hS1.rev
    rw [List.reverse_reverse] at hS1r
    have hA : yS Z ad ((t, z) :: as) (v0 :: v1.reverse) := ⟨hv0, hS1r⟩
    obtain ⟨hv, e0, he0, g1, g2, g3⟩ := yty_ok ht hv0
    have hc := hM e0 he0 _ g1 g2
    rw [g3] at hc
    obtain ⟨fs, c1, -⟩ := hc
    obtain ⟨l1, l2, l3, l4, l5, l6, l7, l8⟩ := hlk
    have hgd : GoodIn Ts (wsV own idx (MT cn.1).1.cls (MT cn.1).1 (Cond.code (MT cn.1).1 (MT cn.1).2.1 (MT cn.1).2.2.1 (MT cn.1).2.2.2 :: Ts)) := zgoodIn hTg (fun w hw => by
      unfold wsV at hw
      rcases List.mem_append.mp hw with hw | hw
      · simp only [List.mem_cons, List.not_mem_nil, or_false] at hw
        rcases hw with rfl | rfl | rfl | rfl
        · exact l1
        · exact l2
        · exact l3
        · exact l4
      · rcases List.mem_cons.mp hw with rfl | hw
        · exact l5
        · exact hw)
    have hsum : (restc.map fun v => v.category).sum ≤ 8 := by rw [hS3.cats]; exact yok8_ok h8
    have hv : v0 = .ref (ad (ypl Z t z)) := hv
    subst hv
    refine ys_run (a := (Value.ref (ad (ypl Z t z)) :: v1.reverse).toArray) (st := r) ⟨hP, hD, hS, hM, hL, hS3⟩ ?_ k
    refine va_runV (As := v1.reverse) (rest := restc) (n := as.length) ⟨hx, hb, hml, hown, hts⟩ (hM0 D tys A ad ws g ((t, z) :: as) (.ref (ad (ypl Z t z)) :: v1.reverse) KK hM hA hl hD hpt) (cwV as.length hts hgd rfl rfl rfl ⟨rfl, l6, l7, l8⟩ hroom)
      ⟨zPc.blind hR, va_recv hK hP hcl c1, fun U hU hW => ⟨rfl, by rw [hU]; exact hP, va_K.moved hW.alike hK, ?_⟩⟩ rfl (by rw [List.length_reverse]; have := hS1.len; rw [List.length_reverse] at this; omega) hL.1 (by rw [List.reverse_reverse]) (lv_room hsum) hd ⟨hcs.1, hcs.2⟩
    rw [hU]
    refine hR.1 ad A s U H hW (hR.2.2 ad A s s.heap H (fun a h1 h2 => ?_) hro)
    rw [hH0] at hS
    exact hS.2.1 a h1 h2
theorem ys_callS (hx : p.tables.exec = Jvm.exec) (hb : c.code = cc) (hcs : ce ≤ R.cells ∧ sl ≤ R.slots) (hml : c.maxLocals = nL) (hH0 : H0 = s.heap) {own : String} {Ts : List Cond} {RO : zRO} {MT : zMT} (hown : s.vm.findClass own = some m.cls) (hts : ∀ w ∈ Ts, w.before args s = true) (hTg : ∀ w ∈ Ts, goodWord w = true) (hK : va_K D cl tys s) (hR : zROk RO) (hro : RO ad A s s.heap) {cn : yC} (hM0 : yMet l Ts cl Z RO MT cn)
    {idx : Nat} {as r : List yV} {KK : List yV → yM → Prop} (hd : decode cc pc = .ok (.invokestatic idx, 3)) (hlk : zLkS Ts (zKof MT (yzC cn.1)) as.length) (hln : (Cond.methodLink own idx (MT cn.1).1) ∈ Ts ∨ ∃ host, va_Nw (Cond.methodLinkNest own idx (MT cn.1).1 host) s) (hl : (ylay as).length ≤ (MT cn.1).2.2.1)
    (hroom : cn.2.1.1 + 1 ≤ R.frames ∧ 8 + ((MT cn.1).2.2.1 + 11) + cn.2.1.2 ≤ R.locals) (h8 : yok8 r = true) (hpt : cn.2.2 as g KK)
    (k : ∀ (v : List yV) (g' : yM), KK v g' → yWP (yG Z D cl tys A ad H0 nL) (fun H locs pc ls st => W p l e R s m args below meth c H locs ce sl Q (F0 m pc ls st)) (pc + 3) L (v ++ r) g') : yWP (yG Z D cl tys A ad H0 nL) (fun H locs pc ls st => W p l e R s m args below meth c H locs ce sl Q (F0 m pc ls st)) pc L (as.reverse ++ r) g := by
  intro ls stc ws H locs hG
  obtain ⟨hP, hD, hS, hM, hL, hT⟩ := hG
  obtain ⟨v1, restc, rfl, hS1, hS3⟩ := hT.split
  have hS1r := hS1.rev
  rw [List.reverse_reverse] at hS1r
  obtain ⟨l3, l4, l5, l6, l7, l8⟩ := hlk
  have hgd : GoodIn Ts (Cond.code (MT cn.1).1 (MT cn.1).2.1 (MT cn.1).2.2.1 (MT cn.1).2.2.2 :: Ts) := zgoodIn hTg (fun w hw => by
    rcases List.mem_cons.mp hw with rfl | hw
    · exact l5
    · exact hw)
  have hsum : (restc.map fun v => v.category).sum ≤ 8 := by rw [hS3.cats]; exact yok8_ok h8
  have hpre : PreS s H (zPc D cl tys A ad RO ws v1.reverse) v1.reverse := ⟨zPc.blind hR, fun U hU hW => ⟨rfl, by rw [hU]; exact hP, va_K.moved hW.alike hK, by
    rw [hU]
    refine hR.1 ad A s U H hW (hR.2.2 ad A s s.heap H (fun a h1 h2 => ?_) hro)
    rw [hH0] at hS
    exact hS.2.1 a h1 h2⟩⟩
  have hlen : v1.reverse.length = as.length := by rw [List.length_reverse]; have := hS1.len; rw [List.length_reverse] at this; omega
  refine ys_run (a := v1.reverse.toArray) (st := r) ⟨hP, hD, hS, hM, hL, hS3⟩ ?_ k
  rcases hln with hln | ⟨host, hln⟩
  · exact va_runS (As := v1.reverse) (rest := restc) (n := as.length) ⟨hx, hb, hml, hown, hts⟩ (hM0 D tys A ad ws g as v1.reverse KK hM hS1r hl hD hpt) ⟨callB_of as.length hts hgd rfl rfl rfl (hts _ l4) (hts _ hln) ⟨l6, l7, l8⟩ hroom, hts _ l3⟩ hpre rfl hlen hL.1 (by rw [List.reverse_reverse]) (lv_room hsum) hd ⟨hcs.1, hcs.2⟩
  · exact va_runSN (As := v1.reverse) (rest := restc) (n := as.length) ⟨hx, hb, hml, hown, hts⟩ (hM0 D tys A ad ws g as v1.reverse KK hM hS1r hl hD hpt) ⟨va_cnB as.length hts hgd rfl rfl rfl hln (hts _ l4) ⟨l6, l7, l8⟩ hroom, hts _ l3, trivial⟩ hpre rfl hlen hL.1 (by rw [List.reverse_reverse]) (lv_room hsum) hd ⟨hcs.1, hcs.2⟩
theorem ys_copy (hx : p.tables.exec = Jvm.exec) (hb : c.code = cc) {Ts : List Cond} {own : String} (hml : c.maxLocals = nL) (hown : s.vm.findClass own = some m.cls) (hts : ∀ w ∈ Ts, w.before args s = true) (hK : va_K D cl tys s) (hZ : zDj Z) {idx t u k1 k0 t1 t0 n1 n0 : Nat} {n dp z sp y : Int} {f1 f0 : List zFT} {r : List yV} (hd : decode cc pc = .ok (.invokestatic idx, 3))
    (hlk : Cond.methodLink own idx arraycopyName ∈ Ts ∧ Cond.native arraycopyName ∈ Ts ∧ Cond.static arraycopyName ∈ Ts ∧ Cond.initialized "java/lang/System" ∈ Ts) (h8 : yok8 r = true) (hrm : 1 ≤ R.frames ∧ 1000 ≤ R.locals) (ht1 : yty Z t z = some (k1, t1, n1, f1)) (ht0 : yty Z u y = some (k0, t0, n0, f0)) (hkk : ((Nat.beq k1 1 && Nat.beq k0 1) || (Nat.beq k1 3 && Nat.beq k0 3)) = true)
    (hb0 : 0 ≤ n ∧ 0 ≤ dp ∧ 0 ≤ sp ∧ sp + n ≤ (n0 : Int) ∧ dp + n ≤ (n1 : Int)) (kk : yWP (yG Z D cl tys A ad H0 nL) (fun H locs pc ls st => W p l e R s m args below meth c H locs ce sl Q (F0 m pc ls st)) (pc + 3) L r (ycpy g (ypl Z t z) (ypl Z u y) sp.toNat dp.toNat n.toNat)) : yWP (yG Z D cl tys A ad H0 nL) (fun H locs pc ls st => W p l e R s m args below meth c H locs ce sl Q (F0 m pc ls st)) pc L ((1, n) :: (1, dp) :: (t, z) :: (1, sp) :: (u, y) :: r) g := by
  intro ls stc ws H locs hG
  obtain ⟨hP, hD, hS, hM, hL, hT⟩ := hG
  match stc, hT with
  | v5 :: v4 :: v3 :: v2 :: v1 :: stc, ⟨hv5, hv4, hv3, hv2, hv1, hT⟩ =>
    obtain ⟨x, rfl, gx⟩ := yvI' hv5
    obtain ⟨w, rfl, gw⟩ := yvI' hv4
    obtain ⟨q, rfl, gq⟩ := yvI' hv2
    have gx : x.toInt = n := gx
    have gw : w.toInt = dp := gw
    have gq : q.toInt = sp := gq
    obtain ⟨hv, e1, he1, a1, a2, a3⟩ := yty_ok ht1 hv3
    have hv : v3 = .ref (ad (ypl Z t z)) := hv
    subst hv
    obtain ⟨hv', e0, he0, c1, c2, c3⟩ := yty_ok ht0 hv1
    have hv' : v1 = .ref (ad (ypl Z u y)) := hv'
    subst hv'
    have hc1 := hM e1 he1 _ a1 a2
    have hc0 := hM e0 he0 _ c1 c2
    rw [a3] at hc1
    rw [c3] at hc0
    have nx0 : ¬ x < 0 := by rw [Int32.lt_iff_toInt_lt, Int32.toInt_zero]; omega
    have nw0 : ¬ w < 0 := by rw [Int32.lt_iff_toInt_lt, Int32.toInt_zero]; omega
    have nq0 : ¬ q < 0 := by rw [Int32.lt_iff_toInt_lt, Int32.toInt_zero]; omega
    have cx : x.toNatClampNeg = n.toNat := by have e : x.toNatClampNeg = x.toInt.toNat := rfl; rw [e, gx]
    have cw : w.toNatClampNeg = dp.toNat := by have e : w.toNatClampNeg = w.toInt.toNat := rfl; rw [e, gw]
    have cq : q.toNatClampNeg = sp.toNat := by have e : q.toNatClampNeg = q.toInt.toNat := rfl; rw [e, gq]
    have hloc : (stc.map fun v => v.category).sum + (nativeFrameWords "java/lang/System" "arraycopy" 5 + 11) ≤ R.locals := by
      rw [hT.cats]
      have h9 : nativeFrameWords "java/lang/System" "arraycopy" 5 + 11 ≤ 900 := by decide
      have := yok8_ok h8
      omega
    rcases Bool.or_eq_true_iff.mp hkk with hk | hk
    · rw [Bool.and_eq_true] at hk
      have ek1 := ybeq hk.1
      have ek0 := ybeq hk.2
      subst ek1
      subst ek0
      obtain ⟨cB, f', s4, s5, s6⟩ := hc1
      obtain ⟨cA, f, s1, s2, s3⟩ := hc0
      refine va_copyi hx hb (hml.trans hL.1.symm) hown (hts _ hlk.1) (hts _ hlk.2.1) (hts _ hlk.2.2.1) (hts _ hlk.2.2.2) hK hP hD hS (ypl Z u y) (ypl Z t z) t0 t1 s1 s4 s2 s5 rfl nq0 nw0 nx0 (by omega) (by omega) (fun i hi => rfl) hrm.1 hloc hd (fun H1 locs1 p1 p2 p3 => ?_)
      have hcell : ycell ad tys (ws.set (ypl Z t z) (ad (ypl Z t z), .inl (cB, n1, .inl (va_cpy f f' q.toNatClampNeg w.toNatClampNeg x.toNatClampNeg)))) (ycpy g (ypl Z t z) (ypl Z u y) sp.toNat dp.toNat n.toNat) (ypl Z t z) e1.2.2 := by
        rw [a3]
        refine ⟨cB, _, zget_set s4, s5, fun j hj => ?_⟩
        unfold va_cpy ycpy
        rw [cx, cw, cq]
        by_cases hin : dp.toNat ≤ j ∧ j < dp.toNat + n.toNat
        · rw [if_pos hin, if_pos ⟨rfl, hin⟩]
          exact s3 _ (by omega)
        · rw [if_neg hin, if_neg (fun q => hin q.2)]
          exact s6 j hj
      exact kk ls stc _ H1 locs1 ⟨p1, p2, p3, hM.upd hZ he1 a1 a2 (fun q' hq => List.getElem?_set_ne (Ne.symm hq)) (fun q' j hq => if_neg (fun z => hq z.1)) hcell, hL, hT⟩
    · rw [Bool.and_eq_true] at hk
      have ek1 := ybeq hk.1
      have ek0 := ybeq hk.2
      subst ek1
      subst ek0
      obtain ⟨cB, f', s4, s5, s6⟩ := hc1
      obtain ⟨cA, f, s1, s2, s3⟩ := hc0
      refine va_copyl hx hb (hml.trans hL.1.symm) hown (hts _ hlk.1) (hts _ hlk.2.1) (hts _ hlk.2.2.1) (hts _ hlk.2.2.2) hK hP hD hS (ypl Z u y) (ypl Z t z) t0 t1 s1 s4 s2 s5 rfl nq0 nw0 nx0 (by omega) (by omega) (fun i hi => rfl) hrm.1 hloc hd (fun H1 locs1 p1 p2 p3 => ?_)
      have hcell : ycell ad tys (ws.set (ypl Z t z) (ad (ypl Z t z), .inl (cB, n1, .inr (.inl (va_cpy f f' q.toNatClampNeg w.toNatClampNeg x.toNatClampNeg))))) (ycpy g (ypl Z t z) (ypl Z u y) sp.toNat dp.toNat n.toNat) (ypl Z t z) e1.2.2 := by
        rw [a3]
        refine ⟨cB, _, zget_set s4, s5, fun j hj => ?_⟩
        unfold va_cpy ycpy
        rw [cx, cw, cq]
        by_cases hin : dp.toNat ≤ j ∧ j < dp.toNat + n.toNat
        · rw [if_pos hin, if_pos ⟨rfl, hin⟩]
          exact s3 _ (by omega)
        · rw [if_neg hin, if_neg (fun q => hin q.2)]
          exact s6 j hj
      exact kk ls stc _ H1 locs1 ⟨p1, p2, p3, hM.upd hZ he1 a1 a2 (fun q' hq => List.getElem?_set_ne (Ne.symm hq)) (fun q' j hq => if_neg (fun z => hq z.1)) hcell, hL, hT⟩
end YH
