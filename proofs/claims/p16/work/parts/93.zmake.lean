/-! MAKING: what a constructor leaves -/
abbrev zMV : Type := Nat × Int
abbrev zMC : Type := Nat × Nat × Nat × List zMV
/-- a value: null, an int, the one that is made, a new cell, an argument, a long 0 -/
def zvr (a : Nat) (na aa : Nat → Nat) (len : Nat) (V : zMV) (v : Value) : Prop := match V with
  | (0, _) => v = .null
  | (1, n) => v = .int (Int32.ofInt n)
  | (2, _) => v = .ref a
  | (3, n) => n.toNat < len ∧ v = .ref (na n.toNat)
  | (4, n) => v = .ref (aa n.toNat)
  | (5, _) => v = .long 0
  | _ => False
def zvs (a : Nat) (na aa : Nat → Nat) (len : Nat) (Vs : List zMV) (fs : List Value) : Prop := fs.length = Vs.length ∧ ∀ (j : Nat) (V : zMV) (v : Value), Vs[j]? = some V → fs[j]? = some v → zvr a na aa len V v
def zbs (b : List zMV) : Nat := (b.headD (0, 0)).2.toNat
def zct (b : List zMV) : Nat := ((b.drop 1).headD (0, 0)).2.toNat
/-- a cell: an object; ints between two ends; longs; cells of comers, rows of longs; comers not yet set; bytes; ints, each one known -/
def zcr (a : Nat) (na aa : Nat → Nat) (len : Nat) (tys : List (ClassId × FieldType)) (C : zMC) (x : va_E) : Prop := match C with
  | (0, ci, _, Vs) => ∃ fs : List Value, x = .inr (ci, fs) ∧ zvs a na aa len Vs fs
  | (1, t, n, b) => ∃ (cA : ClassId) (f : Nat → Int32), x = .inl (cA, n, .inl f) ∧ tys[t]? = some (cA, .int) ∧ ∀ j : Nat, j < n → (b.headD (0, 0)).2 ≤ (f j).toInt ∧ (f j).toInt ≤ ((b.drop 1).headD (0, 0)).2
  | (2, t, n, _) => ∃ cA : ClassId, x = .inl (cA, n, .inr (.inl (fun _ => 0))) ∧ tys[t]? = some (cA, .long)
  | (3, t, n, b) => ∃ (cA : ClassId) (f : Nat → Option Nat), x = .inl (cA, n, .inr (.inr (.inr (.inr f)))) ∧ tys[t]? = some (cA, .object "PushedIn$Comer") ∧ zbs b + n ≤ len ∧ ∀ j : Nat, j < n → f j = some (na (zbs b + j))
  | (4, t, n, b) => ∃ (cA : ClassId) (f : Nat → Option Nat), x = .inl (cA, n, .inr (.inr (.inr (.inr f)))) ∧ tys[t]? = some (cA, .array .long) ∧ zbs b + n ≤ len ∧ ∀ j : Nat, j < n → f j = some (na (zbs b + j))
  | (5, t, n, b) => ∃ (cA : ClassId) (f : Nat → Option Nat), x = .inl (cA, n, .inr (.inr (.inr (.inr f)))) ∧ tys[t]? = some (cA, .object "PushedIn$Comer") ∧ ∀ j : Nat, j < zct b → zbs b + j < len ∧ f j = some (na (zbs b + j))
  | (6, t, n, _) => ∃ cA : ClassId, x = .inl (cA, n, .inl (fun _ => 0)) ∧ tys[t]? = some (cA, .byte)
  | (7, t, n, b) => ∃ (cA : ClassId) (f : Nat → Int32), x = .inl (cA, n, .inl f) ∧ tys[t]? = some (cA, .int) ∧ ∀ (j : Nat) (e : zMV), j < n → b[j]? = some e → (f j).toInt = e.2
  | _ => False
theorem zvr.mono {a : Nat} {na na' aa : Nat → Nat} {len len' : Nat} {V : zMV} {v : Value} (hn : ∀ k, k < len → na' k = na k) (hl : len ≤ len') (h : zvr a na aa len V v) : zvr a na' aa len' V v := by
  obtain ⟨tg, n⟩ := V
  match tg, h with
  | 0, h => exact h
  | 1, h => exact h
  | 2, h => exact h
  | 3, ⟨h1, h2⟩ => exact ⟨by omega, by rw [h2, hn _ h1]⟩
  | 4, h => exact h
  | 5, h => exact h
theorem zvs.mono {a : Nat} {na na' aa : Nat → Nat} {len len' : Nat} {Vs : List zMV} {fs : List Value} (hn : ∀ k, k < len → na' k = na k) (hl : len ≤ len') (h : zvs a na aa len Vs fs) : zvs a na' aa len' Vs fs := ⟨h.1, fun j V v h1 h2 => (h.2 j V v h1 h2).mono hn hl⟩
theorem zcr.mono {a : Nat} {na na' aa : Nat → Nat} {len len' : Nat} {tys tys' : List (ClassId × FieldType)} {C : zMC} {x : va_E} (hn : ∀ k, k < len → na' k = na k) (hl : len ≤ len') (ht : ∀ (t : Nat) (y : ClassId × FieldType), tys[t]? = some y → tys'[t]? = some y) (h : zcr a na aa len tys C x) : zcr a na' aa len' tys' C x := by
  obtain ⟨tg, t, n, b⟩ := C
  match tg, h with
  | 0, ⟨fs, h1, h2⟩ => exact ⟨fs, h1, h2.mono hn hl⟩
  | 1, ⟨cA, f, h1, h2, h3⟩ => exact ⟨cA, f, h1, ht _ _ h2, h3⟩
  | 2, ⟨cA, h1, h2⟩ => exact ⟨cA, h1, ht _ _ h2⟩
  | 3, ⟨cA, f, h1, h2, h3, h4⟩ => exact ⟨cA, f, h1, ht _ _ h2, by omega, fun j hj => by rw [h4 j hj, hn _ (by omega)]⟩
  | 4, ⟨cA, f, h1, h2, h3, h4⟩ => exact ⟨cA, f, h1, ht _ _ h2, by omega, fun j hj => by rw [h4 j hj, hn _ (by omega)]⟩
  | 5, ⟨cA, f, h1, h2, h3⟩ => exact ⟨cA, f, h1, ht _ _ h2, fun j hj => ⟨by have := (h3 j hj).1; omega, by rw [(h3 j hj).2, hn _ (h3 j hj).1]⟩⟩
  | 6, ⟨cA, h1, h2⟩ => exact ⟨cA, h1, ht _ _ h2⟩
  | 7, ⟨cA, f, h1, h2, h3⟩ => exact ⟨cA, f, h1, ht _ _ h2, h3⟩
/-- the world: as it was, but the one that is made at place q, and new cells behind -/
def zMW (ws0 ws : va_W) (q a : Nat) (na aa : Nat → Nat) (tys : List (ClassId × FieldType)) (F : List zMV) (ci : Nat) (cs : List zMC) : Prop := q < ws0.length ∧ ws.length = ws0.length + cs.length ∧ (∀ i : Nat, i < ws0.length → i ≠ q → ws[i]? = ws0[i]?) ∧ (∃ fs : List Value, ws[q]? = some (a, .inr (ci, fs)) ∧ zvs a na aa cs.length F fs) ∧ ∀ (k : Nat) (C : zMC), cs[k]? = some C → ∃ x : va_E, ws[ws0.length + k]? = some (na k, x) ∧ zcr a na aa cs.length tys C x
def zna (na : Nat → Nat) (k r : Nat) : Nat → Nat := fun i => if i = k then r else na i
theorem zna_self {na : Nat → Nat} {k r : Nat} : zna na k r k = r := if_pos rfl
theorem zna_lt {na : Nat → Nat} {k r i : Nat} (h : i < k) : zna na k r i = na i := if_neg (by omega)
theorem zMW.push {ws0 ws : va_W} {q a r : Nat} {na aa : Nat → Nat} {tys tys' : List (ClassId × FieldType)} {F : List zMV} {ci : Nat} {cs : List zMC} {C : zMC} {x : va_E} (ht : ∀ (t : Nat) (y : ClassId × FieldType), tys[t]? = some y → tys'[t]? = some y) (h : zMW ws0 ws q a na aa tys F ci cs) (hx : zcr a (zna na cs.length r) aa (cs.length + 1) tys' C x) : zMW ws0 (ws ++ [(r, x)]) q a (zna na cs.length r) aa tys' F ci (cs ++ [C]) := by
  obtain ⟨h1, h2, h3, ⟨fs, h4, h5⟩, h6⟩ := h
  have hl : (cs ++ [C]).length = cs.length + 1 := by simp
  refine ⟨h1, by rw [List.length_append, hl, h2]; simp; omega, fun i hi hq => ?_, ⟨fs, ?_, ?_⟩, fun k C' hk => ?_⟩
  · rw [List.getElem?_append_left (by omega)]
    exact h3 i hi hq
  · rw [List.getElem?_append_left (by omega)]
    exact h4
  · rw [hl]
    exact h5.mono (fun k hk => zna_lt hk) (by omega)
  · rw [hl]
    by_cases hkl : k < cs.length
    · rw [List.getElem?_append_left hkl] at hk
      obtain ⟨x', g1, g2⟩ := h6 k C' hk
      exact ⟨x', by rw [List.getElem?_append_left (by omega), zna_lt hkl]; exact g1, g2.mono (fun k hk => zna_lt hk) (by omega) ht⟩
    · rw [List.getElem?_append_right (by omega)] at hk
      have hz : k - cs.length < 1 := (List.getElem?_eq_some_iff.mp hk).1
      have hk' : k = cs.length := by omega
      subst hk'
      rw [Nat.sub_self] at hk
      cases hk
      exact ⟨x, by rw [List.getElem?_append_right (by omega), h2, Nat.sub_self, zna_self]; rfl, hx⟩
theorem zMW.fld {ws0 ws : va_W} {q a : Nat} {na aa : Nat → Nat} {tys : List (ClassId × FieldType)} {F : List zMV} {ci j : Nat} {cs : List zMC} {fs : List Value} {V : zMV} {v : Value} (h : zMW ws0 ws q a na aa tys F ci cs) (c1 : ws[q]? = some (a, .inr (ci, fs))) (hv : zvr a na aa cs.length V v) : zMW ws0 (ws.set q (a, .inr (ci, fs.set j v))) q a na aa tys (F.set j V) ci cs := by
  obtain ⟨h1, h2, h3, ⟨fs', h4, h5⟩, h6⟩ := h
  rw [c1] at h4
  cases h4
  refine ⟨h1, by rw [List.length_set]; exact h2, fun i hi hq => ?_, ⟨fs.set j v, List.getElem?_set_self (by omega), by rw [List.length_set, List.length_set]; exact h5.1, fun k V' v' hV hv' => ?_⟩, fun k C hk => ?_⟩
  · rw [List.getElem?_set_ne (Ne.symm hq)]
    exact h3 i hi hq
  · by_cases hk : k = j
    · subst hk
      have l1 : k < (F.set k V).length := (List.getElem?_eq_some_iff.mp hV).1
      have l2 : k < (fs.set k v).length := (List.getElem?_eq_some_iff.mp hv').1
      rw [List.length_set] at l1 l2
      rw [List.getElem?_set_self l1] at hV
      rw [List.getElem?_set_self l2] at hv'
      cases hV
      cases hv'
      exact hv
    · rw [List.getElem?_set_ne (Ne.symm hk)] at hV hv'
      exact h5.2 k V' v' hV hv'
  · obtain ⟨x, g1, g2⟩ := h6 k C hk
    exact ⟨x, by rw [List.getElem?_set_ne (by omega)]; exact g1, g2⟩
theorem zMW.cell {ws0 ws : va_W} {q a k : Nat} {na aa : Nat → Nat} {tys : List (ClassId × FieldType)} {F : List zMV} {ci : Nat} {cs : List zMC} {C : zMC} {x : va_E} (h : zMW ws0 ws q a na aa tys F ci cs) (hk : k < cs.length) (hx : zcr a na aa cs.length tys C x) : zMW ws0 (ws.set (ws0.length + k) (na k, x)) q a na aa tys F ci (cs.set k C) := by
  obtain ⟨h1, h2, h3, ⟨fs, h4, h5⟩, h6⟩ := h
  refine ⟨h1, by rw [List.length_set, List.length_set]; exact h2, fun i hi hq => ?_, ⟨fs, ?_, by rw [List.length_set]; exact h5⟩, fun k' C' hk' => ?_⟩
  · rw [List.getElem?_set_ne (by omega)]
    exact h3 i hi hq
  · rw [List.getElem?_set_ne (by omega)]
    exact h4
  · rw [List.length_set]
    by_cases e : k' = k
    · subst e
      rw [List.getElem?_set_self hk] at hk'
      cases hk'
      exact ⟨x, List.getElem?_set_self (by omega), hx⟩
    · rw [List.getElem?_set_ne (Ne.symm e)] at hk'
      obtain ⟨x', g1, g2⟩ := h6 k' C' hk'
      exact ⟨x', by rw [List.getElem?_set_ne (by omega)]; exact g1, g2⟩
/-- a descriptor is widened -/
theorem zMW.wide {ws0 ws : va_W} {q a k : Nat} {na aa : Nat → Nat} {tys : List (ClassId × FieldType)} {F : List zMV} {ci : Nat} {cs : List zMC} {C C' : zMC} (h : zMW ws0 ws q a na aa tys F ci cs) (hk : cs[k]? = some C) (hC : ∀ x, zcr a na aa cs.length tys C x → zcr a na aa cs.length tys C' x) : zMW ws0 ws q a na aa tys F ci (cs.set k C') := by
  obtain ⟨h1, h2, h3, ⟨fs, h4, h5⟩, h6⟩ := h
  refine ⟨h1, by rw [List.length_set]; exact h2, h3, ⟨fs, h4, by rw [List.length_set]; exact h5⟩, fun k' C'' hk' => ?_⟩
  rw [List.length_set]
  by_cases e : k' = k
  · subst e
    rw [List.getElem?_set_self (List.getElem?_eq_some_iff.mp hk).1] at hk'
    cases hk'
    obtain ⟨x', g1, g2⟩ := h6 k' C hk
    exact ⟨x', g1, hC x' g2⟩
  · rw [List.getElem?_set_ne (Ne.symm e)] at hk'
    exact h6 k' C'' hk'
def zTy3 (tn : Nat) (tys : List (ClassId × FieldType)) : Prop := tys.length = tn ∧ ∃ cI cB cL : ClassId, tys[0]? = some (cI, .int) ∧ tys[1]? = some (cB, .byte) ∧ tys[2]? = some (cL, .long)
/-- a constructor's contract -/
def zCt (l : Launch) (Ts : List Cond) (cl : List vw_C) (RO : zRO) (y : MethodName) (bytes : ByteArray) (maxL fr lo mc ms n ci tn : Nat) (Fz Ff : List zMV) (cs : List zMC) (ext : List FieldType) : Prop := ∀ (D : va_G) (tys : List (ClassId × FieldType)) (A : Nat → Prop) (ad : Nat → Nat) (ws0 : va_W) (q a : Nat) (aa : Nat → Nat), zTy3 tn tys → (∃ fs : List Value, ws0[q]? = some (a, .inr (ci, fs)) ∧ zvs a (fun _ => 0) aa 0 Fz fs) → va_D A ws0 →
  Met l y (Cond.code y bytes maxL none :: Ts) { frames := fr, cells := mc, slots := ms, locals := lo } (fun ar U => ar = (Value.ref a :: (List.range n).map (fun i => Value.ref (aa i))).toArray ∧ va_P D cl ws0 U.heap ∧ va_K D cl tys U ∧ RO ad A U U.heap ∧ ∀ p : Nat, U.heap.size ≤ p → A p)
    (fun _ st o t => va_F A st t ∧ o = .returned none ∧ ∃ (ws' : va_W) (na : Nat → Nat) (xs : List (ClassId × FieldType)), xs.map Prod.snd = ext ∧ va_K D cl (tys ++ xs) t ∧ va_P D cl ws' t.heap ∧ va_D A ws' ∧ zMW ws0 ws' q a na aa (tys ++ xs) Ff ci cs) mc ms A
theorem zct_of {l : Launch} {Ts : List Cond} {cl : List vw_C} {RO : zRO} {y : MethodName} {bytes : ByteArray} {maxL fr lo mc ms n ci tn : Nat} {Fz Ff : List zMV} {cs : List zMC} {ext : List FieldType} (hy : plainName y.cls = true) (hlen : n + 1 ≤ maxL)
    (body : ∀ (p : Program) (e : Env) (R : Room) (s : State) (m : MethodId) (args : Array Value) (below : List Frame) (meth : Method) (c : Code) (D : va_G) (tys : List (ClassId × FieldType)) (A : Nat → Prop) (ad : Nat → Nat) (ws0 : va_W) (q a : Nat) (na aa : Nat → Nat) (ls : Array Slot) (Q : State → Prop), p.tables.exec = Jvm.exec → c.code = bytes → meth.name = y.name → c.maxLocals = maxL → s.vm.findClass y.cls = some m.cls → (∀ w ∈ Ts, w.before args s = true) → RO ad A s s.heap → (fr ≤ R.frames ∧ lo ≤ R.locals ∧ mc ≤ R.cells ∧ ms ≤ R.slots) → (∀ p : Nat, s.heap.size ≤ p → A p) → zTy3 tn tys → lv_has ls maxL (lv_args 0 (Value.ref a :: (List.range n).map (fun i => Value.ref (aa i)))) → va_K D cl tys s → va_P D cl ws0 s.heap → va_D A ws0 → zMW ws0 ws0 q a na aa tys Fz ci [] →
      (∀ (pc : Nat) (H : Heap) (locs : List Loc) (ls : Array Slot) (ws' : va_W) (na : Nat → Nat) (xs : List (ClassId × FieldType)), decode bytes pc = .ok (.return_, 1) → xs.map Prod.snd = ext → va_K D cl (tys ++ xs) s → va_P D cl ws' H → va_D A ws' → va_S A s.heap H locs → zMW ws0 ws' q a na aa (tys ++ xs) Ff ci cs → W p l e R s m args below meth c H locs mc ms Q (F0 m pc ls [])) →
      W p l e R s m args below meth c s.heap [] 0 0 Q (F0 m 0 ls [])) : zCt l Ts cl RO y bytes maxL fr lo mc ms n ci tn Fz Ff cs ext := by
  intro D tys A ad ws0 q a aa hty hq hD
  refine Met.ofW (cc := bytes) (maxL := maxL) (ret := none) hy rfl ?_
  intro p e s m args below meth c s₁ B hml hv
  obtain ⟨rfl, hP, hK, hro, hA⟩ := hv
  have hts0 := atoms_spec (ws := Cond.code y bytes maxL none :: Ts) B.pre
  obtain ⟨fs, hq1, hq2⟩ := hq
  have hnm : meth.name = y.name := (name_of_methodNamed B.named B.method).1
  rw [lg_entry_eq]
  refine body p e (headSpec (Cond.code y bytes maxL none :: Ts) { frames := fr, cells := mc, slots := ms, locals := lo }).room s m _ below meth c D tys A ad ws0 q a (fun _ => 0) aa _ _ B.exec B.bytes hnm hml (findClass_of_methodNamed B.named) (fun w hw => hts0 w (List.mem_cons_of_mem _ hw)) hro ⟨Nat.le_refl _, Nat.le_refl _, Nat.le_refl _, Nat.le_refl _⟩ hA hty (lv_entry _ ?_) hK hP hD ⟨(List.getElem?_eq_some_iff.mp hq1).1, rfl, fun _ _ _ => rfl, ⟨fs, hq1, hq2⟩, fun k C hk => by cases hk⟩ ?_
  · have es : ∀ (z : Nat) (r : List Value), lg_sl (Value.ref z :: r) = .val (.ref z) :: lg_sl r := fun z r => by
      have hc2 : ¬ (Value.ref z).category = 2 := fun h => by cases h
      simp [lg_sl, hc2]
    have key : ∀ (l0 : List Nat), (lg_sl (l0.map (fun i => Value.ref (aa i)))).length = l0.length := fun l0 => by
      induction l0 with
      | nil => rfl
      | cons x r ih => rw [List.map_cons, es, List.length_cons, ih, List.length_cons]
    rw [es, List.length_cons, key, List.length_range]
    exact hlen
  · intro pc H locs ls ws' na xs hd hxs hK' hP' hD' hS' hM'
    exact W.vret B.exec B.bytes B.returns (fun t ht hW => ⟨hS'.F ht, rfl, ws', na, xs, hxs, va_K.moved hW.alike hK', by rw [ht]; exact hP', hD', hM'⟩) hS'.2.2 hd B.notSynchronized
section ZMK
variable {p : Program} {l : Launch} {e : Env} {R : Room} {s : State} {m : MethodId} {args : Array Value} {below : List Frame} {meth : Method} {c : Code} {Q : State → Prop} {cc : ByteArray} {pc ce sl : Nat} {D : va_G} {cl : List vw_C} {tys : List (ClassId × FieldType)} {A : Nat → Prop} {ad : Nat → Nat} {H0 H : Heap} {locs : List Loc} {ls : Array Slot} {rest : List Value} {ws0 ws : va_W} {q a ci : Nat} {na aa : Nat → Nat} {F : List zMV} {cs : List zMC} {Ts : List Cond} {own : String}
theorem zn_newI (hx : p.tables.exec = Jvm.exec) (hb : c.code = cc) (harr : (Cond.arrayClass .int).before args s = true) (hK : va_K D cl tys s) (hP : va_P D cl ws H) (hD : va_D A ws) (hS : va_S A H0 H locs) (hA : ∀ q, H0.size ≤ q → A q) {cI : ClassId} (hcI : tys[0]? = some (cI, .int)) (hM : zMW ws0 ws q a na aa tys F ci cs) {n : Int32} {N' : Nat} (hn : ¬ n < 0) (hN : n.toNatClampNeg = N') (hbytes : N' * 4 ≤ 536870912) (hcells : ce + 1 ≤ R.cells) (hslots : sl + N' ≤ R.slots) (hdg : decode cc pc = .ok (.newarray .int, 2))
    (kk : ∀ (r : Nat) (H1 : Heap) (ws1 : va_W), va_P D cl ws1 H1 → va_D A ws1 → va_S A H0 H1 locs → zMW ws0 ws1 q a (zna na cs.length r) aa tys F ci (cs ++ [(1, 0, N', [(0, 0), (0, 0)])]) → W p l e R s m args below meth c H1 locs (ce + 1) (sl + N') Q (F0 m (pc + 2) ls (.ref r :: rest))) : W p l e R s m args below meth c H locs ce sl Q (F0 m pc ls (.int n :: rest)) := by
  refine va_newa (atype := .int) (ty := .int) (a0 := (N', .inl (fun _ => 0))) hx hb harr rfl hK hP hD hS hA (fun cA => rfl) hn hN hbytes hcells hslots hdg (fun r cA H1 hK1 p1 p2 p3 => ?_)
  have e : cA = cI := by
    have h1 := (hK1.2 tys.length (cA, .int) (by rw [List.getElem?_append_right (Nat.le_refl _), Nat.sub_self]; rfl)).2
    have h2 := (hK.2 0 _ hcI).2
    exact Option.some.inj (h1.symm.trans h2)
  subst e
  exact kk r H1 _ p1 p2 p3 (hM.push (fun _ _ h => h) ⟨cA, _, rfl, hcI, fun j hj => ⟨Int.le_refl _, Int.le_refl _⟩⟩)
theorem zn_newB (hx : p.tables.exec = Jvm.exec) (hb : c.code = cc) (harr : (Cond.arrayClass .byte).before args s = true) (hK : va_K D cl tys s) (hP : va_P D cl ws H) (hD : va_D A ws) (hS : va_S A H0 H locs) (hA : ∀ q, H0.size ≤ q → A q) {cI : ClassId} (hcI : tys[1]? = some (cI, .byte)) (hM : zMW ws0 ws q a na aa tys F ci cs) {n : Int32} {N' : Nat} (hn : ¬ n < 0) (hN : n.toNatClampNeg = N') (hbytes : N' * 1 ≤ 536870912) (hcells : ce + 1 ≤ R.cells) (hslots : sl + N' ≤ R.slots) (hdg : decode cc pc = .ok (.newarray .byte, 2))
    (kk : ∀ (r : Nat) (H1 : Heap) (ws1 : va_W), va_P D cl ws1 H1 → va_D A ws1 → va_S A H0 H1 locs → zMW ws0 ws1 q a (zna na cs.length r) aa tys F ci (cs ++ [(6, 1, N', [])]) → W p l e R s m args below meth c H1 locs (ce + 1) (sl + N') Q (F0 m (pc + 2) ls (.ref r :: rest))) : W p l e R s m args below meth c H locs ce sl Q (F0 m pc ls (.int n :: rest)) := by
  refine va_newa (atype := .byte) (ty := .byte) (a0 := (N', .inl (fun _ => 0))) hx hb harr rfl hK hP hD hS hA (fun cA => rfl) hn hN hbytes hcells hslots hdg (fun r cA H1 hK1 p1 p2 p3 => ?_)
  have e : cA = cI := by
    have h1 := (hK1.2 tys.length (cA, .byte) (by rw [List.getElem?_append_right (Nat.le_refl _), Nat.sub_self]; rfl)).2
    have h2 := (hK.2 1 _ hcI).2
    exact Option.some.inj (h1.symm.trans h2)
  subst e
  exact kk r H1 _ p1 p2 p3 (hM.push (fun _ _ h => h) ⟨cA, rfl, hcI⟩)
theorem zn_newJ (hx : p.tables.exec = Jvm.exec) (hb : c.code = cc) (harr : (Cond.arrayClass .long).before args s = true) (hK : va_K D cl tys s) (hP : va_P D cl ws H) (hD : va_D A ws) (hS : va_S A H0 H locs) (hA : ∀ q, H0.size ≤ q → A q) {cI : ClassId} (hcI : tys[2]? = some (cI, .long)) (hM : zMW ws0 ws q a na aa tys F ci cs) {n : Int32} {N' : Nat} (hn : ¬ n < 0) (hN : n.toNatClampNeg = N') (hbytes : N' * 8 ≤ 536870912) (hcells : ce + 1 ≤ R.cells) (hslots : sl + N' ≤ R.slots) (hdg : decode cc pc = .ok (.newarray .long, 2))
    (kk : ∀ (r : Nat) (H1 : Heap) (ws1 : va_W), va_P D cl ws1 H1 → va_D A ws1 → va_S A H0 H1 locs → zMW ws0 ws1 q a (zna na cs.length r) aa tys F ci (cs ++ [(2, 2, N', [])]) → W p l e R s m args below meth c H1 locs (ce + 1) (sl + N') Q (F0 m (pc + 2) ls (.ref r :: rest))) : W p l e R s m args below meth c H locs ce sl Q (F0 m pc ls (.int n :: rest)) := by
  refine va_newa (atype := .long) (ty := .long) (a0 := (N', .inr (.inl (fun _ => 0)))) hx hb harr rfl hK hP hD hS hA (fun cA => rfl) hn hN hbytes hcells hslots hdg (fun r cA H1 hK1 p1 p2 p3 => ?_)
  have e : cA = cI := by
    have h1 := (hK1.2 tys.length (cA, .long) (by rw [List.getElem?_append_right (Nat.le_refl _), Nat.sub_self]; rfl)).2
    have h2 := (hK.2 2 _ hcI).2
    exact Option.some.inj (h1.symm.trans h2)
  subst e
  exact kk r H1 _ p1 p2 p3 (hM.push (fun _ _ h => h) ⟨cA, rfl, hcI⟩)
theorem zn_put (hx : p.tables.exec = Jvm.exec) (hb : c.code = cc) (hts : ∀ w ∈ Ts, w.before args s = true) (hown : s.vm.findClass own = some m.cls) (hK : va_K D cl tys s) (hP : va_P D cl ws H) (hD : va_D A ws) (hS : va_S A H0 H locs) {C : String} {T : u_T} {N idx j : Nat} (hc : cl[ci]? = some (C, T, N)) (hcl : zclsOk Ts (C, T, N)) (hj : j < N) (hl : Cond.fieldLink own idx (T j).1 (T j).2.1 (T j).2.2.1 ∈ Ts) (hfin : (T j).2.2.2 = false ∨ ((T j).2.2.2 = true ∧ meth.name = "<init>" ∧ (T j).1 = own)) (hM : zMW ws0 ws q a na aa tys F ci cs) (hF : F.length = N) {V : zMV} {v : Value} (hv : zvr a na aa cs.length V v) (hn : narrow (zTy0 T j) v = v) (hfit : fits (zTy0 T j) v = true) (hd : decode cc pc = .ok (.putfield idx, 3))
    (kk : ∀ (H1 : Heap) (locs1 : List Loc) (ws1 : va_W), va_P D cl ws1 H1 → va_D A ws1 → va_S A H0 H1 locs1 → zMW ws0 ws1 q a na aa tys (F.set j V) ci cs → W p l e R s m args below meth c H1 locs1 ce sl Q (F0 m (pc + 3) ls rest)) : W p l e R s m args below meth c H locs ce sl Q (F0 m pc ls (v :: .ref a :: rest)) := by
  obtain ⟨fs, c1, c2⟩ := hM.2.2.2.1
  have hjl : j < fs.length := by rw [c2.1, hF]; exact hj
  rcases hfin with hfin | ⟨hfin, h1, h2⟩
  · exact va_put hx hb hts hcl.1 (zTy0 T) hcl.2.1 hcl.2.2 hown hK hP hD hS q c1 hc j hj (hts _ hl) (fun x h => h) hfin (hcl.2.1 j hj) hn hfit hjl hd (fun H1 locs1 p1 p2 p3 => kk H1 locs1 _ p1 p2 p3 (hM.fld c1 hv))
  · exact va_putF hx hb hts hcl.1 (zTy0 T) hcl.2.1 hcl.2.2 hown hK hP hD hS q c1 hc j hj (hts _ hl) (fun x h => h) hfin h1 h2 (hcl.2.1 j hj) hn hfit hjl hd (fun H1 locs1 p1 p2 p3 => kk H1 locs1 _ p1 p2 p3 (hM.fld c1 hv))
theorem zn_get (hx : p.tables.exec = Jvm.exec) (hb : c.code = cc) (hts : ∀ w ∈ Ts, w.before args s = true) (hown : s.vm.findClass own = some m.cls) (hK : va_K D cl tys s) (hP : va_P D cl ws H) {C : String} {T : u_T} {N idx j k : Nat} (hc : cl[ci]? = some (C, T, N)) (hcl : zclsOk Ts (C, T, N)) (hj : j < N) (hl : Cond.fieldLink own idx (T j).1 (T j).2.1 (T j).2.2.1 ∈ Ts) (hM : zMW ws0 ws q a na aa tys F ci cs) (hF : F[j]? = some (3, (k : Int))) (hd : decode cc pc = .ok (.getfield idx, 3))
    (kk : W p l e R s m args below meth c H locs ce sl Q (F0 m (pc + 3) ls (.ref (na k) :: rest))) : W p l e R s m args below meth c H locs ce sl Q (F0 m pc ls (.ref a :: rest)) := by
  obtain ⟨fs, c1, c2⟩ := hM.2.2.2.1
  have hjl : j < fs.length := by rw [c2.1]; exact (List.getElem?_eq_some_iff.mp hF).1
  have h1 := List.getElem?_eq_getElem hjl
  obtain ⟨-, h2⟩ := c2.2 j _ _ hF h1
  have h2 : fs[j] = .ref (na k) := h2
  exact va_get hx hb hts hcl.1 hown hK hP q c1 hc j hj (hts _ hl) (fun x h => h) (by rw [h1, h2]) hd kk
theorem zn_new (hx : p.tables.exec = Jvm.exec) (hb : c.code = cc) (hts : ∀ w ∈ Ts, w.before args s = true) (hown : s.vm.findClass own = some m.cls) (hK : va_K D cl tys s) (hP : va_P D cl ws H) (hD : va_D A ws) (hS : va_S A H0 H locs) (hA : ∀ q, H0.size ≤ q → A q) {C : String} {T : u_T} {N idx cj : Nat} (hc : cl[cj]? = some (C, T, N)) (hcl : zclsOk Ts (C, T, N)) (hw : Cond.classLink own idx C ∈ Ts ∧ Cond.instantiable C N ∈ Ts ∧ Cond.initialized C ∈ Ts) (hM : zMW ws0 ws q a na aa tys F ci cs) {fs : List Value} {F1 : List zMV} (hfs : ∀ j, j < N → defaultValue (zTy0 T j) = vp_V fs j) (hF1 : ∀ (a : Nat) (na aa : Nat → Nat) (len : Nat), zvs a na aa len F1 fs) (hcells : ce + 1 ≤ R.cells) (hslots : sl + N ≤ R.slots) (hd : decode cc pc = .ok (.new idx, 3))
    (kk : ∀ (r : Nat) (H1 : Heap) (ws1 : va_W), va_P D cl ws1 H1 → va_D A ws1 → va_S A H0 H1 locs → zMW ws0 ws1 q a (zna na cs.length r) aa tys F ci (cs ++ [(0, cj, 0, F1)]) → W p l e R s m args below meth c H1 locs (ce + 1) (sl + N) Q (F0 m (pc + 3) ls (.ref r :: rest))) : W p l e R s m args below meth c H locs ce sl Q (F0 m pc ls rest) :=
  va_new hx hb hts hcl.1 (zTy0 T) hcl.2.1 hown (hts _ hw.1) (hts _ hw.2.1) (hts _ hw.2.2) hK hP hD hS hA hc hfs hcells hslots hd (fun r H1 p1 p2 p3 => kk r H1 _ p1 p2 p3 (hM.push (fun _ _ h => h) ⟨fs, rfl, hF1 _ _ _ _⟩))
end ZMK
