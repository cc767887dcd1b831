/-! TEMPLATES: a state is an instance of one -/
abbrev zSrc : Type := Nat × Nat × Int × Nat
abbrev zTm : Type := List zSrc × zS
def zlin (a : zAV) : Option (Nat × Int) := if a.1 = 1 ∨ a.1 = 2 ∨ a.1 = 3 then some (a.2.1, a.2.2.1) else none
theorem zlin_ok {ad : Nat → Nat} {nu : List Int} {a : zAV} {b : Nat × Int} {v : Value} (h : zlin a = some b) (hv : zm ad nu a v) : ∃ z, zV nu b.1 b.2 z ∧ zval ad a.1 z v := by
  unfold zlin at h
  split at h
  · rename_i hh
    cases h
    obtain ⟨tg, n, k, n2, k2⟩ := a
    match tg, hv, hh with
    | 1, ⟨x, h1, h2⟩, _ => exact ⟨x.toInt, h2, x, h1, rfl⟩
    | 2, ⟨x, h1, h2⟩, _ => exact ⟨x.toInt, h2, x, h1, rfl⟩
    | 3, ⟨x, h1, h2⟩, _ => exact ⟨x, h2, x, h1, rfl⟩
    | 0, _, hh => simp at hh
    | 4, _, hh => simp at hh
  · cases h
def zeqI (a b : Int) : Bool := match a, b with
  | .ofNat m, .ofNat n => Nat.beq m n
  | .negSucc m, .negSucc n => Nat.beq m n
  | _, _ => false
theorem zeqI_ok {a b : Int} (h : zeqI a b = true) : a = b := by
  unfold zeqI at h
  split at h
  · rw [Nat.eq_of_beq_eq_true h]
  · rw [Nat.eq_of_beq_eq_true h]
  · cases h
def zff (fa : List zFa) (n : Nat) (k : Int) (j : Nat) : Option zAV := (fa.find? (fun f => Nat.beq f.2.2.1 j && (zeqI f.2.1 k && Nat.beq f.1 n))).map (fun f => f.2.2.2)
theorem zff_ok {ad : Nat → Nat} {nu : List Int} {ws : va_W} {fa : List zFa} {n j : Nat} {k : Int} {a : zAV} (h : zff fa n k j = some a) (hF : zF ad nu ws fa) : ∃ (q : Nat) (v : Value), zV nu n k q ∧ zfv ws q j = some v ∧ zm ad nu a v := by
  unfold zff at h
  obtain ⟨f, h1, rfl⟩ := Option.map_eq_some_iff.mp h
  have hp0 := List.find?_some h1
  have hp : (Nat.beq f.2.2.1 j && (zeqI f.2.1 k && Nat.beq f.1 n)) = true := hp0
  rw [Bool.and_eq_true, Bool.and_eq_true] at hp
  have p3 := Nat.eq_of_beq_eq_true hp.1
  have p2 := zeqI_ok hp.2.1
  have p1 := Nat.eq_of_beq_eq_true hp.2.2
  obtain ⟨q, v, g1, g2, g3⟩ := hF f (List.mem_of_find?_eq_some h1)
  rw [p1, p2] at g1
  rw [p3] at g2
  exact ⟨q, v, g1, g2, g3⟩
def zsrc (sg : zS) (acc : List (Nat × Int)) (sr : zSrc) : Option (Nat × Int) := match sr with
  | (0, i, _, _) => (sg.2.2.1[i]?).bind zlin
  | (1, i, _, _) => (sg.2.2.2.1[i]?).bind zlin
  | (2, n, k, j) => (acc[n]?).bind (fun a => (zff sg.2.2.2.2.1 a.1 (a.2 + k) j).bind zlin)
  | (_, _, k, _) => some (0, k)
def zinst (sg : zS) : List (Nat × Int) → List zSrc → Option (List (Nat × Int))
  | acc, [] => some acc
  | acc, sr :: r => match zsrc sg acc sr with
    | some a => zinst sg (acc ++ [a]) r
    | none => none
def zpre (pre : Nat) : List (Nat × Int) := (List.range pre).map (fun i => (i, 0))
def ztr (ins : List (Nat × Int)) (a : Nat × Int) : Option (Nat × Int) := (ins[a.1]?).map (fun b => (b.1, b.2 + a.2))
def zeqB (env : List zIv) (cd : List zCd) (a b : Nat × Int) : Bool := (a.1 == b.1 && decide (a.2 = b.2)) || (zle env cd a b && zle env cd b a)
/-- the template's value is the state's -/
def zavB (env : List zIv) (cd : List zCd) (ins : List (Nat × Int)) (t a : zAV) : Bool :=
  if t.1 = 0 then true else match ztr ins (t.2.1, t.2.2.1), zlin a with
    | some x, some y => t.1 == a.1 && zeqB env cd x y
    | _, _ => false
def zlsB (env : List zIv) (cd : List zCd) (ins : List (Nat × Int)) : List zAV → List zAV → Bool
  | [], [] => true
  | t :: ts, a :: as => zavB env cd ins t a && zlsB env cd ins ts as
  | _, _ => false
def zinV (env : List zIv) (cd : List zCd) (a : Nat × Int) (iv : zIv) : Bool := zin env a iv || (match iv with
  | [(lo, hi)] => zinX env cd a lo hi
  | _ => false)
theorem zinV_ok {env : List zIv} {cd : List zCd} {nu : List Int} {a : Nat × Int} {iv : zIv} {x : Int} (h : zinV env cd a iv = true) (h0 : nu[0]? = some 0) (he : zEnv env nu) (hc : zCds cd nu) (hx : zV nu a.1 a.2 x) : zInIv x iv := by
  unfold zinV at h
  rcases Bool.or_eq_true_iff.mp h with h | h
  · exact zin_ok h he hx
  · split at h
    · obtain ⟨g1, g2⟩ := zinX_ok h h0 he hc hx
      exact ⟨_, List.mem_cons_self, g1, g2⟩
    · cases h
def zevB (env : List zIv) (cd : List zCd) : List (Nat × Int) → List zIv → Bool
  | [], [] => true
  | a :: as, iv :: ivs => zinV env cd a iv && zevB env cd as ivs
  | _, _ => false
def zcdB (env : List zIv) (cd : List zCd) (ins : List (Nat × Int)) (q : zCd) : Bool := match ins[q.1]?, ins[q.2.1]? with
  | some a, some b => zle env cd a (b.1, b.2 + q.2.2)
  | _, _ => false
def zfaB (env : List zIv) (cd : List zCd) (fa : List zFa) (ins : List (Nat × Int)) (f : zFa) : Bool := match ztr ins (f.1, f.2.1) with
  | some a => (match zff fa a.1 a.2 f.2.2.1 with
    | some v => zavB env cd ins f.2.2.2 v
    | none => false)
  | none => false
def zmB (sg : zS) (ins : List (Nat × Int)) (T : zS) : Bool :=
  zevB sg.1 sg.2.1 ins T.1 && (T.2.1.all (zcdB sg.1 sg.2.1 ins) && (zlsB sg.1 sg.2.1 ins T.2.2.1 sg.2.2.1 && (zlsB sg.1 sg.2.1 ins T.2.2.2.1 sg.2.2.2.1 && (T.2.2.2.2.1.all (zfaB sg.1 sg.2.1 sg.2.2.2.2.1 ins) && T.2.2.2.2.2.isEmpty))))
/-- every instance has its number -/
def zIn (nu : List Int) (ins : List (Nat × Int)) (nu' : List Int) : Prop := nu'.length = ins.length ∧ ∀ (i : Nat) (a : Nat × Int), ins[i]? = some a → ∃ z, nu'[i]? = some z ∧ zV nu a.1 a.2 z
theorem zIn.snoc {nu nu' : List Int} {ins : List (Nat × Int)} {a : Nat × Int} {z : Int} (h : zIn nu ins nu') (ha : zV nu a.1 a.2 z) : zIn nu (ins ++ [a]) (nu' ++ [z]) := by
  refine ⟨by simp [h.1], fun i b hb => ?_⟩
  by_cases hl : i < ins.length
  · rw [List.getElem?_append_left hl] at hb
    obtain ⟨w, h1, h2⟩ := h.2 i b hb
    exact ⟨w, by rw [List.getElem?_append_left (by rw [h.1]; exact hl)]; exact h1, h2⟩
  · rw [List.getElem?_append_right (by omega)] at hb
    have h0 : i - ins.length < 1 := (List.getElem?_eq_some_iff.mp hb).1
    have e : i = ins.length := by omega
    subst e
    rw [Nat.sub_self] at hb
    cases hb
    refine ⟨z, ?_, ha⟩
    rw [← h.1, List.getElem?_append_right (Nat.le_refl _), Nat.sub_self]
    rfl
theorem zpre_ok {nu : List Int} {pre : Nat} (h : pre ≤ nu.length) : zIn nu (zpre pre) (nu.take pre) := by
  refine ⟨by simp [zpre]; omega, fun i a ha => ?_⟩
  unfold zpre at ha
  rw [List.getElem?_map] at ha
  by_cases hl : i < pre
  · rw [List.getElem?_range hl] at ha
    cases ha
    have hl2 : i < nu.length := by omega
    exact ⟨nu[i], by rw [List.getElem?_take_of_lt hl]; exact List.getElem?_eq_getElem hl2, nu[i], List.getElem?_eq_getElem hl2, by simp⟩
  · have hn0 : (List.range pre)[i]? = none := List.getElem?_eq_none (by rw [List.length_range]; omega)
    rw [hn0] at ha
    cases ha
theorem ztr_ok {nu nu' : List Int} {ins : List (Nat × Int)} {a b : Nat × Int} (h : zIn nu ins nu') (ht : ztr ins a = some b) : ∃ z, zV nu' a.1 a.2 z ∧ zV nu b.1 b.2 z := by
  unfold ztr at ht
  obtain ⟨c, h1, rfl⟩ := Option.map_eq_some_iff.mp ht
  obtain ⟨z, h2, u, h3, h4⟩ := h.2 _ _ h1
  exact ⟨z + a.2, ⟨z, h2, rfl⟩, ⟨u, h3, by omega⟩⟩
theorem zsrc_ok {ad : Nat → Nat} {nu nu' : List Int} {nL : Nat} {ls : Array Slot} {stc : List Value} {ws : va_W} {sg : zS} {acc : List (Nat × Int)} {sr : zSrc} {a : Nat × Int} (h0 : nu[0]? = some 0) (hL : zL ad nu nL ls sg.2.2.1) (hS : zall (zm ad nu) sg.2.2.2.1 stc) (hF : zF ad nu ws sg.2.2.2.2.1) (h : zsrc sg acc sr = some a) : ∃ z, zV nu a.1 a.2 z := by
  obtain ⟨tg, i, k, j⟩ := sr
  match tg, h with
  | 0, h =>
    obtain ⟨b, h1, h2⟩ := Option.bind_eq_some_iff.mp h
    have hb : b.1 ≠ 0 := by
      intro q
      unfold zlin at h2
      rw [q] at h2
      simp at h2
    obtain ⟨v, h3, h4⟩ := hL.2.2.2 i b h1 hb
    obtain ⟨z, h5, -⟩ := zlin_ok h2 h4
    exact ⟨z, h5⟩
  | 1, h =>
    obtain ⟨b, h1, h2⟩ := Option.bind_eq_some_iff.mp h
    obtain ⟨v, h3, h4⟩ := hS.get h1
    obtain ⟨z, h5, -⟩ := zlin_ok h2 h4
    exact ⟨z, h5⟩
  | 2, h =>
    obtain ⟨b, h1, h2⟩ := Option.bind_eq_some_iff.mp h
    obtain ⟨c, h3, h4⟩ := Option.bind_eq_some_iff.mp h2
    obtain ⟨q, v, g1, g2, g3⟩ := zff_ok h3 hF
    obtain ⟨z, h5, -⟩ := zlin_ok h4 g3
    exact ⟨z, h5⟩
  | n + 3, h =>
    cases h
    exact ⟨k, 0, h0, by omega⟩
theorem zinst_ok {ad : Nat → Nat} {nu : List Int} {nL : Nat} {ls : Array Slot} {stc : List Value} {ws : va_W} {sg : zS} (h0 : nu[0]? = some 0) (hL : zL ad nu nL ls sg.2.2.1) (hS : zall (zm ad nu) sg.2.2.2.1 stc) (hF : zF ad nu ws sg.2.2.2.2.1) :
    ∀ (srs : List zSrc) (acc ins : List (Nat × Int)) (nu' : List Int), zIn nu acc nu' → zinst sg acc srs = some ins → ∃ t, zIn nu ins (nu' ++ t)
  | [], acc, ins, nu', h, hi => by cases hi; exact ⟨[], by rw [List.append_nil]; exact h⟩
  | sr :: r, acc, ins, nu', h, hi => by
    unfold zinst at hi
    split at hi
    · rename_i a ha
      obtain ⟨z, hz⟩ := zsrc_ok (nu' := nu') h0 hL hS hF ha
      obtain ⟨t, ht⟩ := zinst_ok h0 hL hS hF r _ ins _ (h.snoc hz) hi
      exact ⟨[z] ++ t, by rw [← List.append_assoc]; exact ht⟩
    · cases hi
theorem zeqB_ok {env : List zIv} {cd : List zCd} {nu : List Int} {a b : Nat × Int} {x y : Int} (h : zeqB env cd a b = true) (he : zEnv env nu) (hc : zCds cd nu) (hx : zV nu a.1 a.2 x) (hy : zV nu b.1 b.2 y) : x = y := by
  unfold zeqB at h
  rcases Bool.or_eq_true_iff.mp h with h | h
  · rw [Bool.and_eq_true, beq_iff_eq, decide_eq_true_eq] at h
    rw [h.1, h.2] at hx
    exact hx.eq hy
  · rw [Bool.and_eq_true] at h
    have h1 := zle_ok h.1 he hc hx hy
    have h2 := zle_ok h.2 he hc hy hx
    omega
theorem zval_zm {ad : Nat → Nat} {nu : List Int} {t : zAV} {v : Value} {z : Int} (h : zval ad t.1 z v) (hz : zV nu t.2.1 t.2.2.1 z) : zm ad nu t v := by
  obtain ⟨tg, n, k, n2, k2⟩ := t
  match tg, h with
  | 1, ⟨x, h1, h2⟩ => exact ⟨x, h1, by rw [h2]; exact hz⟩
  | 2, ⟨x, h1, h2⟩ => exact ⟨x, h1, by rw [h2]; exact hz⟩
  | 3, ⟨x, h1, h2⟩ => exact ⟨x, h1, by rw [h2]; exact hz⟩
theorem zavB_ok {ad : Nat → Nat} {env : List zIv} {cd : List zCd} {nu nu' : List Int} {ins : List (Nat × Int)} {t a : zAV} {v : Value} (h : zavB env cd ins t a = true) (he : zEnv env nu) (hc : zCds cd nu) (hi : zIn nu ins nu') (hv : zm ad nu a v) : zm ad nu' t v := by
  unfold zavB at h
  by_cases h0 : t.1 = 0
  · obtain ⟨tg, n, k, n2, k2⟩ := t
    have h0 : tg = 0 := h0
    subst h0
    trivial
  · rw [if_neg h0] at h
    split at h
    · rename_i x y hx hy
      rw [Bool.and_eq_true, beq_iff_eq] at h
      obtain ⟨z, g1, g2⟩ := ztr_ok hi hx
      obtain ⟨w, g3, g4⟩ := zlin_ok hy hv
      have e := zeqB_ok h.2 he hc g2 g3
      subst e
      rw [← h.1] at g4
      exact zval_zm g4 g1
    · cases h
theorem zlsB_len {env : List zIv} {cd : List zCd} {ins : List (Nat × Int)} : ∀ {ts as : List zAV}, zlsB env cd ins ts as = true → ts.length = as.length
  | [], [], _ => rfl
  | t :: ts, a :: as, h => by
    have h : (zavB env cd ins t a && zlsB env cd ins ts as) = true := h
    rw [Bool.and_eq_true] at h
    rw [List.length_cons, List.length_cons, zlsB_len h.2]
  | [], a :: as, h => by cases h
  | t :: ts, [], h => by cases h
theorem zlsB_get {env : List zIv} {cd : List zCd} {ins : List (Nat × Int)} : ∀ {ts as : List zAV}, zlsB env cd ins ts as = true → ∀ {i : Nat} {t : zAV}, ts[i]? = some t → ∃ a, as[i]? = some a ∧ zavB env cd ins t a = true
  | t0 :: ts, a0 :: as, h, i, t, ht => by
    have h : (zavB env cd ins t0 a0 && zlsB env cd ins ts as) = true := h
    rw [Bool.and_eq_true] at h
    cases i with
    | zero => rw [List.getElem?_cons_zero] at ht; cases ht; exact ⟨a0, rfl, h.1⟩
    | succ i => rw [List.getElem?_cons_succ] at ht; rw [List.getElem?_cons_succ]; exact zlsB_get h.2 ht
  | [], _, h, i, t, ht => by simp at ht
  | t :: ts, [], h, _, _, _ => by cases h
theorem zlsB_all {ad : Nat → Nat} {env : List zIv} {cd : List zCd} {nu nu' : List Int} {ins : List (Nat × Int)} (he : zEnv env nu) (hc : zCds cd nu) (hi : zIn nu ins nu') : ∀ {ts as : List zAV} {vs : List Value}, zlsB env cd ins ts as = true → zall (zm ad nu) as vs → zall (zm ad nu') ts vs
  | [], [], [], _, _ => trivial
  | t :: ts, a :: as, v :: vs, h, hv => by
    have h : (zavB env cd ins t a && zlsB env cd ins ts as) = true := h
    rw [Bool.and_eq_true] at h
    exact ⟨zavB_ok h.1 he hc hi hv.1, zlsB_all he hc hi h.2 hv.2⟩
  | [], a :: as, _, h, _ => by cases h
  | t :: ts, [], _, h, _ => by cases h
theorem zevB_ok {env : List zIv} {cd : List zCd} {nu : List Int} (h0 : nu[0]? = some 0) (he : zEnv env nu) (hc : zCds cd nu) : ∀ {ins : List (Nat × Int)} {ivs : List zIv}, zevB env cd ins ivs = true → ins.length = ivs.length ∧ ∀ (i : Nat) (a : Nat × Int) (iv : zIv), ins[i]? = some a → ivs[i]? = some iv → ∀ z, zV nu a.1 a.2 z → zInIv z iv
  | [], [], _ => ⟨rfl, fun i a iv h => by simp at h⟩
  | a0 :: as, iv0 :: ivs, h => by
    have h : (zinV env cd a0 iv0 && zevB env cd as ivs) = true := h
    rw [Bool.and_eq_true] at h
    obtain ⟨h1, h2⟩ := zevB_ok h0 he hc h.2
    refine ⟨by simp [h1], fun i a iv ha hv z hz => ?_⟩
    cases i with
    | zero =>
      rw [List.getElem?_cons_zero] at ha hv
      cases ha
      cases hv
      exact zinV_ok h.1 h0 he hc hz
    | succ i =>
      rw [List.getElem?_cons_succ] at ha hv
      exact h2 i a iv ha hv z hz
  | [], _ :: _, h => by cases h
  | _ :: _, [], h => by cases h
/-- THE MATCH: the numbers of the template's names; they hold what it says -/
theorem zmB_ok {ad : Nat → Nat} {nu nu' : List Int} {nL : Nat} {ls : Array Slot} {stc : List Value} {ws : va_W} {sg T : zS} {ins : List (Nat × Int)} (h : zmB sg ins T = true) (h0 : nu[0]? = some 0) (he : zEnv sg.1 nu) (hc : zCds sg.2.1 nu) (hL : zL ad nu nL ls sg.2.2.1) (hS : zall (zm ad nu) sg.2.2.2.1 stc) (hF : zF ad nu ws sg.2.2.2.2.1) (hi : zIn nu ins nu') :
    zEnv T.1 nu' ∧ zCds T.2.1 nu' ∧ zL ad nu' nL ls T.2.2.1 ∧ zall (zm ad nu') T.2.2.2.1 stc ∧ zF ad nu' ws T.2.2.2.2.1 ∧ zMes T.2.2.2.2.2 nu' := by
  unfold zmB at h
  rw [Bool.and_eq_true, Bool.and_eq_true, Bool.and_eq_true, Bool.and_eq_true, Bool.and_eq_true] at h
  obtain ⟨h1, h2, h3, h4, h5, h6⟩ := h
  obtain ⟨e1, e2⟩ := zevB_ok h0 he hc h1
  refine ⟨⟨by rw [hi.1]; exact e1, fun i iv hv => ?_⟩, fun q hq => ?_, ⟨hL.1, by rw [zlsB_len h3]; exact hL.2.1, hL.2.2.1, fun i t ht h0 => ?_⟩, zlsB_all he hc hi h4 hS, fun f hf => ?_, fun q hq => ?_⟩
  · have hl : i < ins.length := by rw [e1]; exact (List.getElem?_eq_some_iff.mp hv).1
    obtain ⟨z, g1, g2⟩ := hi.2 i _ (List.getElem?_eq_getElem hl)
    exact ⟨z, g1, e2 i _ iv (List.getElem?_eq_getElem hl) hv z g2⟩
  · have g := List.all_eq_true.mp h2 q hq
    unfold zcdB at g
    split at g
    · rename_i a b ha hb
      obtain ⟨x, x1, x2⟩ := hi.2 _ _ ha
      obtain ⟨y, y1, y2⟩ := hi.2 _ _ hb
      exact ⟨x, y, x1, y1, zle_ok (b := (b.1, b.2 + q.2.2)) g he hc x2 (y2.up q.2.2)⟩
    · cases g
  · obtain ⟨a, g1, g2⟩ := zlsB_get h3 ht
    have ha0 : a.1 ≠ 0 := by
      intro z
      unfold zavB at g2
      rw [if_neg h0] at g2
      split at g2
      · rename_i x y hx hy
        unfold zlin at hy
        rw [z] at hy
        simp at hy
      · cases g2
    obtain ⟨v, g3, g4⟩ := hL.2.2.2 i a g1 ha0
    exact ⟨v, g3, zavB_ok g2 he hc hi g4⟩
  · have g := List.all_eq_true.mp h5 f hf
    unfold zfaB at g
    split at g
    · rename_i a ha
      split at g
      · rename_i w hw
        obtain ⟨z, z1, z2⟩ := ztr_ok hi ha
        obtain ⟨q, v, q1, q2, q3⟩ := zff_ok hw hF
        have e : z = q := z2.eq q1
        subst e
        exact ⟨q, v, z1, q2, zavB_ok g he hc hi q3⟩
      · cases g
    · cases g
  · rw [List.isEmpty_iff] at h6
    rw [h6] at hq
    cases hq
