section
/-! THE ABSTRACT DOMAIN: names with sets of intervals, differences of names, values by names, facts on cells. Pure. -/
abbrev zAV : Type := Nat × Nat × Int × Nat × Int
abbrev zIv : Type := List (Int × Int)
abbrev zCd : Type := Nat × Nat × Int
abbrev zFa : Type := Nat × Int × Nat × zAV
/-- a quotient or a rest that was worked out: which, of what, by what, and its name -/
abbrev zMe : Type := Nat × Nat × Int × Int × Nat × Int
abbrev zS : Type := List zIv × List zCd × List zAV × List zAV × List zFa × List zMe
def zpure (op : Nat) (z c : Int) : Int := if op = 0 then z.tdiv c else z.tmod c
def zInIv (z : Int) (iv : zIv) : Prop := ∃ p ∈ iv, p.1 ≤ z ∧ z ≤ p.2
/-- less than: by their Nats, for the kernel's sake -/
def zltI (a b : Int) : Bool := match a, b with
  | .ofNat m, .ofNat n => Nat.ble (m + 1) n
  | .negSucc m, .negSucc n => Nat.ble (n + 1) m
  | .negSucc _, .ofNat _ => true
  | .ofNat _, .negSucc _ => false
theorem zltI_ok {a b : Int} (h : zltI a b = true) : a < b := by
  unfold zltI at h
  split at h
  · rename_i m n
    have h1 := Nat.le_of_ble_eq_true h
    show (m : Int) < (n : Int)
    omega
  · rename_i m n
    have h1 := Nat.le_of_ble_eq_true h
    rw [Int.negSucc_eq, Int.negSucc_eq]
    omega
  · rename_i m n
    rw [Int.negSucc_eq]
    show -((m : Int) + 1) < (n : Int)
    omega
  · cases h
theorem zltI_no {a b : Int} (h : zltI a b = false) : b ≤ a := by
  unfold zltI at h
  split at h
  · rename_i m n
    have h1 : ¬ m + 1 ≤ n := fun q => by rw [Nat.ble_eq_true_of_le q] at h; cases h
    show (n : Int) ≤ (m : Int)
    omega
  · rename_i m n
    have h1 : ¬ n + 1 ≤ m := fun q => by rw [Nat.ble_eq_true_of_le q] at h; cases h
    rw [Int.negSucc_eq, Int.negSucc_eq]
    omega
  · cases h
  · rename_i m n
    rw [Int.negSucc_eq]
    show -((n : Int) + 1) ≤ (m : Int)
    omega
def zLoA : Int → zIv → Int
  | a, [] => a
  | a, p :: r => bif zltI p.1 a then zLoA p.1 r else zLoA a r
theorem zLoA_le : ∀ (r : zIv) (a : Int), zLoA a r ≤ a ∧ ∀ p ∈ r, zLoA a r ≤ p.1
  | [], a => ⟨Int.le_refl _, fun p hp => by cases hp⟩
  | q :: r, a => by
    unfold zLoA
    cases h : zltI q.1 a with
    | true =>
      have h1 := zltI_ok h
      obtain ⟨g1, g2⟩ := zLoA_le r q.1
      refine ⟨?_, fun p hp => ?_⟩
      · show zLoA q.1 r ≤ a
        omega
      · show zLoA q.1 r ≤ p.1
        rcases List.mem_cons.mp hp with rfl | hp
        · exact g1
        · exact g2 p hp
    | false =>
      have h1 := zltI_no h
      obtain ⟨g1, g2⟩ := zLoA_le r a
      refine ⟨g1, fun p hp => ?_⟩
      show zLoA a r ≤ p.1
      rcases List.mem_cons.mp hp with rfl | hp
      · omega
      · exact g2 p hp
def zLo : zIv → Int
  | [] => 0
  | p :: r => zLoA p.1 r
def zHiA : Int → zIv → Int
  | a, [] => a
  | a, p :: r => bif zltI a p.2 then zHiA p.2 r else zHiA a r
theorem zHiA_ge : ∀ (r : zIv) (a : Int), a ≤ zHiA a r ∧ ∀ p ∈ r, p.2 ≤ zHiA a r
  | [], a => ⟨Int.le_refl _, fun p hp => by cases hp⟩
  | q :: r, a => by
    unfold zHiA
    cases h : zltI a q.2 with
    | true =>
      have h1 := zltI_ok h
      obtain ⟨g1, g2⟩ := zHiA_ge r q.2
      refine ⟨?_, fun p hp => ?_⟩
      · show a ≤ zHiA q.2 r
        omega
      · show p.2 ≤ zHiA q.2 r
        rcases List.mem_cons.mp hp with rfl | hp
        · exact g1
        · exact g2 p hp
    | false =>
      have h1 := zltI_no h
      obtain ⟨g1, g2⟩ := zHiA_ge r a
      refine ⟨g1, fun p hp => ?_⟩
      show p.2 ≤ zHiA a r
      rcases List.mem_cons.mp hp with rfl | hp
      · omega
      · exact g2 p hp
def zHi : zIv → Int
  | [] => 0
  | p :: r => zHiA p.2 r
theorem zLo_le : ∀ {iv : zIv} {z : Int}, zInIv z iv → zLo iv ≤ z
  | [], z, h => by obtain ⟨p, hp, -⟩ := h; cases hp
  | p :: r, z, h => by
    obtain ⟨x, hx, h1, h2⟩ := h
    obtain ⟨g1, g2⟩ := zLoA_le r p.1
    show zLoA p.1 r ≤ z
    rcases List.mem_cons.mp hx with rfl | hx
    · omega
    · have g3 := g2 x hx
      omega
theorem zHi_ge : ∀ {iv : zIv} {z : Int}, zInIv z iv → z ≤ zHi iv
  | [], z, h => by obtain ⟨p, hp, -⟩ := h; cases hp
  | p :: r, z, h => by
    obtain ⟨x, hx, h1, h2⟩ := h
    obtain ⟨g1, g2⟩ := zHiA_ge r p.2
    show z ≤ zHiA p.2 r
    rcases List.mem_cons.mp hx with rfl | hx
    · omega
    · have g3 := g2 x hx
      omega
def zE (env : List zIv) (n : Nat) : zIv := (env[n]?).getD []
def zlo (env : List zIv) (n : Nat) : Int := zLo (zE env n)
def zhi (env : List zIv) (n : Nat) : Int := zHi (zE env n)
/-- the number that a name with an offset stands for -/
def zV (nu : List Int) (n : Nat) (k z : Int) : Prop := ∃ a, nu[n]? = some a ∧ z = a + k
def zEnv (env : List zIv) (nu : List Int) : Prop := nu.length = env.length ∧ ∀ (n : Nat) (iv : zIv), env[n]? = some iv → ∃ a, nu[n]? = some a ∧ zInIv a iv
def zCds (cd : List zCd) (nu : List Int) : Prop := ∀ q ∈ cd, ∃ x y, nu[q.1]? = some x ∧ nu[q.2.1]? = some y ∧ x ≤ y + q.2.2
theorem zV.eq {nu : List Int} {n : Nat} {k z z' : Int} (h : zV nu n k z) (h' : zV nu n k z') : z = z' := by
  obtain ⟨a, h1, rfl⟩ := h
  obtain ⟨b, h2, rfl⟩ := h'
  rw [h1] at h2
  cases h2
  rfl
theorem zV.app {nu t : List Int} {n : Nat} {k z : Int} (h : zV nu n k z) : zV (nu ++ t) n k z := by
  obtain ⟨a, h1, h2⟩ := h
  refine ⟨a, ?_, h2⟩
  rw [List.getElem?_append_left (List.getElem?_eq_some_iff.mp h1).1]
  exact h1
theorem zEnv.at {env : List zIv} {nu : List Int} (h : zEnv env nu) {n : Nat} {a : Int} (ha : nu[n]? = some a) : zInIv a (zE env n) := by
  have hl : n < env.length := by rw [← h.1]; exact (List.getElem?_eq_some_iff.mp ha).1
  have he : env[n]? = some env[n] := List.getElem?_eq_getElem hl
  obtain ⟨b, hb, hi⟩ := h.2 n _ he
  rw [ha] at hb
  cases hb
  unfold zE
  rw [he]
  exact hi
theorem zV.bd {env : List zIv} {nu : List Int} {n : Nat} {k z : Int} (h : zV nu n k z) (he : zEnv env nu) : zlo env n + k ≤ z ∧ z ≤ zhi env n + k := by
  obtain ⟨a, h1, rfl⟩ := h
  have hi := he.at h1
  have h2 := zLo_le hi
  have h3 := zHi_ge hi
  unfold zlo zhi
  omega
def zleI (a b : Int) : Bool := bif zltI b a then false else true
theorem zleI_ok {a b : Int} (h : zleI a b = true) : a ≤ b := by
  unfold zleI at h
  cases g : zltI b a with
  | false => exact zltI_no g
  | true =>
    rw [g] at h
    cases h
def zle1 (env : List zIv) (cd : List zCd) (a b : Nat × Int) : Bool := (a.1 == b.1 && zleI a.2 b.2) || (zleI (zhi env a.1 + a.2) (zlo env b.1 + b.2) || cd.any (fun q => q.1 == a.1 && (q.2.1 == b.1 && zleI (q.2.2 + a.2) b.2)))
def zle (env : List zIv) (cd : List zCd) (a b : Nat × Int) : Bool := zle1 env cd a b || cd.any (fun q => q.1 == a.1 && zle1 env cd (q.2.1, q.2.2 + a.2) b)
theorem zle1_ok {env : List zIv} {cd : List zCd} {a b : Nat × Int} {nu : List Int} {x y : Int} (h : zle1 env cd a b = true) (he : zEnv env nu) (hc : zCds cd nu) (hx : zV nu a.1 a.2 x) (hy : zV nu b.1 b.2 y) : x ≤ y := by
  have bx := hx.bd he
  have by' := hy.bd he
  obtain ⟨u, hu, rfl⟩ := hx
  obtain ⟨v, hv, rfl⟩ := hy
  unfold zle1 at h
  rcases Bool.or_eq_true_iff.mp h with h | h
  · rw [Bool.and_eq_true, beq_iff_eq] at h
    have h2 := zleI_ok h.2
    rw [h.1, hv] at hu
    cases hu
    omega
  · rcases Bool.or_eq_true_iff.mp h with h | h
    · have h2 := zleI_ok h
      omega
    · obtain ⟨q, hq, h⟩ := List.any_eq_true.mp h
      rw [Bool.and_eq_true, Bool.and_eq_true, beq_iff_eq, beq_iff_eq] at h
      have h9 := zleI_ok h.2.2
      obtain ⟨x1, y1, h1, h2, h3⟩ := hc q hq
      rw [h.1, hu] at h1
      rw [h.2.1, hv] at h2
      cases h1
      cases h2
      omega
theorem zle_ok {env : List zIv} {cd : List zCd} {a b : Nat × Int} {nu : List Int} {x y : Int} (h : zle env cd a b = true) (he : zEnv env nu) (hc : zCds cd nu) (hx : zV nu a.1 a.2 x) (hy : zV nu b.1 b.2 y) : x ≤ y := by
  unfold zle at h
  rcases Bool.or_eq_true_iff.mp h with h | h
  · exact zle1_ok h he hc hx hy
  · obtain ⟨q, hq, h⟩ := List.any_eq_true.mp h
    rw [Bool.and_eq_true, beq_iff_eq] at h
    obtain ⟨x1, y1, h1, h2, h3⟩ := hc q hq
    obtain ⟨u, hu, rfl⟩ := hx
    rw [h.1, hu] at h1
    cases h1
    have := zle1_ok (x := y1 + (q.2.2 + a.2)) h.2 he hc ⟨y1, h2, rfl⟩ hy
    omega
/-- a name with an offset lies in a set of intervals -/
def zin (env : List zIv) (a : Nat × Int) (iv : zIv) : Bool := (zE env a.1).all (fun p => iv.any (fun q => zleI q.1 (p.1 + a.2) && zleI (p.2 + a.2) q.2))
theorem zin_ok {env : List zIv} {a : Nat × Int} {iv : zIv} {nu : List Int} {x : Int} (h : zin env a iv = true) (he : zEnv env nu) (hx : zV nu a.1 a.2 x) : zInIv x iv := by
  obtain ⟨u, hu, rfl⟩ := hx
  obtain ⟨p, hp, h1, h2⟩ := he.at hu
  have h3 := List.all_eq_true.mp h p hp
  obtain ⟨q, hq, h4⟩ := List.any_eq_true.mp h3
  rw [Bool.and_eq_true] at h4
  have h5 := zleI_ok h4.1
  have h6 := zleI_ok h4.2
  exact ⟨q, hq, by omega, by omega⟩
def zclipHi (iv : zIv) (h : Int) : zIv := iv.filterMap (fun p => if p.1 ≤ h then some (p.1, if p.2 ≤ h then p.2 else h) else none)
def zclipLo (iv : zIv) (l : Int) : zIv := iv.filterMap (fun p => if l ≤ p.2 then some (if l ≤ p.1 then p.1 else l, p.2) else none)
def zcut (iv : zIv) (c : Int) : zIv := iv.flatMap (fun p => if p.1 ≤ c ∧ c ≤ p.2 then (if p.1 < c then [(p.1, c - 1)] else []) ++ (if c < p.2 then [(c + 1, p.2)] else []) else [p])
theorem zclipHi_ok {iv : zIv} {h z : Int} (hz : zInIv z iv) (hh : z ≤ h) : zInIv z (zclipHi iv h) := by
  obtain ⟨p, hp, h1, h2⟩ := hz
  refine ⟨(p.1, if p.2 ≤ h then p.2 else h), List.mem_filterMap.mpr ⟨p, hp, ?_⟩, h1, ?_⟩
  · rw [if_pos (by omega)]
  · show z ≤ (if p.2 ≤ h then p.2 else h)
    split <;> omega
theorem zclipLo_ok {iv : zIv} {l z : Int} (hz : zInIv z iv) (hh : l ≤ z) : zInIv z (zclipLo iv l) := by
  obtain ⟨p, hp, h1, h2⟩ := hz
  refine ⟨(if l ≤ p.1 then p.1 else l, p.2), List.mem_filterMap.mpr ⟨p, hp, ?_⟩, ?_, h2⟩
  · rw [if_pos (by omega)]
  · show (if l ≤ p.1 then p.1 else l) ≤ z
    split <;> omega
theorem zcut_ok {iv : zIv} {c z : Int} (hz : zInIv z iv) (hh : z ≠ c) : zInIv z (zcut iv c) := by
  obtain ⟨p, hp, h1, h2⟩ := hz
  by_cases hc : p.1 ≤ c ∧ c ≤ p.2
  · rcases Int.lt_or_gt_of_ne hh with q | q
    · refine ⟨(p.1, c - 1), List.mem_flatMap.mpr ⟨p, hp, ?_⟩, h1, by show z ≤ c - 1; omega⟩
      rw [if_pos hc, if_pos (by omega)]
      exact List.mem_append.mpr (Or.inl List.mem_cons_self)
    · refine ⟨(c + 1, p.2), List.mem_flatMap.mpr ⟨p, hp, ?_⟩, by show c + 1 ≤ z; omega, h2⟩
      rw [if_pos hc, if_pos (show c < p.2 by omega)]
      exact List.mem_append.mpr (Or.inr List.mem_cons_self)
  · refine ⟨p, List.mem_flatMap.mpr ⟨p, hp, ?_⟩, h1, h2⟩
    rw [if_neg hc]
    exact List.mem_cons_self
/-- one name's set made smaller -/
theorem zEnv.set {env : List zIv} {nu : List Int} (h : zEnv env nu) {n : Nat} {iv : zIv} (hi : ∀ a, nu[n]? = some a → zInIv a iv) : zEnv (env.set n iv) nu := by
  refine ⟨by rw [List.length_set]; exact h.1, fun j jv hj => ?_⟩
  by_cases hjn : j = n
  · subst hjn
    have hl : j < env.length := by
      have := (List.getElem?_eq_some_iff.mp hj).1
      rw [List.length_set] at this
      exact this
    rw [List.getElem?_set_self hl] at hj
    cases hj
    have hl2 : j < nu.length := by rw [h.1]; exact hl
    exact ⟨nu[j], List.getElem?_eq_getElem hl2, hi _ (List.getElem?_eq_getElem hl2)⟩
  · rw [List.getElem?_set_ne (Ne.symm hjn)] at hj
    exact h.2 j jv hj
theorem zEnv.push {env : List zIv} {nu : List Int} (h : zEnv env nu) {iv : zIv} {z : Int} (hz : zInIv z iv) : zEnv (env ++ [iv]) (nu ++ [z]) := by
  refine ⟨by rw [List.length_append, List.length_append, h.1]; rfl, fun j jv hj => ?_⟩
  by_cases hl : j < env.length
  · rw [List.getElem?_append_left hl] at hj
    obtain ⟨a, h1, h2⟩ := h.2 j jv hj
    exact ⟨a, by rw [List.getElem?_append_left (by rw [h.1]; exact hl)]; exact h1, h2⟩
  · rw [List.getElem?_append_right (by omega)] at hj
    have h0 : j - env.length < 1 := (List.getElem?_eq_some_iff.mp hj).1
    have e : j = env.length := by omega
    subst e
    rw [Nat.sub_self] at hj
    cases hj
    refine ⟨z, ?_, hz⟩
    rw [← h.1, List.getElem?_append_right (Nat.le_refl _), Nat.sub_self]
    rfl
theorem zV.new {env : List zIv} {nu : List Int} (h : zEnv env nu) (z : Int) : zV (nu ++ [z]) env.length 0 z := by
  refine ⟨z, ?_, by omega⟩
  rw [← h.1, List.getElem?_append_right (Nat.le_refl _), Nat.sub_self]
  rfl
theorem zCds.app {cd : List zCd} {nu t : List Int} (h : zCds cd nu) : zCds cd (nu ++ t) := by
  intro q hq
  obtain ⟨x, y, h1, h2, h3⟩ := h q hq
  exact ⟨x, y, by rw [List.getElem?_append_left (List.getElem?_eq_some_iff.mp h1).1]; exact h1, by rw [List.getElem?_append_left (List.getElem?_eq_some_iff.mp h2).1]; exact h2, h3⟩
/-- what is known behind 'a ≤ b' -/
def zasE (env : List zIv) (a b : Nat × Int) : List zIv :=
  (env.set a.1 (zclipHi (zE env a.1) (zhi env b.1 + b.2 - a.2))).set b.1 (zclipLo (zE (env.set a.1 (zclipHi (zE env a.1) (zhi env b.1 + b.2 - a.2))) b.1) (zlo env a.1 + a.2 - b.2))
theorem zasE_ok {env : List zIv} {nu : List Int} {a b : Nat × Int} {x y : Int} (h : zEnv env nu) (hx : zV nu a.1 a.2 x) (hy : zV nu b.1 b.2 y) (hl : x ≤ y) : zEnv (zasE env a b) nu := by
  have b1 := hx.bd h
  have b2 := hy.bd h
  obtain ⟨u, hu, rfl⟩ := hx
  obtain ⟨v, hv, rfl⟩ := hy
  have h1 : zEnv (env.set a.1 (zclipHi (zE env a.1) (zhi env b.1 + b.2 - a.2))) nu := h.set (fun z hz => by
    rw [hu] at hz
    cases hz
    exact zclipHi_ok (h.at hu) (by omega))
  refine h1.set (fun z hz => ?_)
  rw [hv] at hz
  cases hz
  exact zclipLo_ok (h1.at hv) (by omega)
def zasC (cd : List zCd) (a b : Nat × Int) : List zCd := (a.1, b.1, b.2 - a.2) :: cd
theorem zasC_ok {cd : List zCd} {nu : List Int} {a b : Nat × Int} {x y : Int} (h : zCds cd nu) (hx : zV nu a.1 a.2 x) (hy : zV nu b.1 b.2 y) (hl : x ≤ y) : zCds (zasC cd a b) nu := by
  obtain ⟨u, hu, rfl⟩ := hx
  obtain ⟨v, hv, rfl⟩ := hy
  intro q hq
  rcases List.mem_cons.mp hq with rfl | hq
  · exact ⟨u, v, hu, hv, by show u ≤ v + (b.2 - a.2); omega⟩
  · exact h q hq
def zMes (me : List zMe) (nu : List Int) : Prop := ∀ q ∈ me, ∃ z r, zV nu q.2.1 q.2.2.1 z ∧ zV nu q.2.2.2.2.1 q.2.2.2.2.2 r ∧ r = zpure q.1 z q.2.2.2.1
theorem zMes.app {me : List zMe} {nu t : List Int} (h : zMes me nu) : zMes me (nu ++ t) := fun q hq => by
  obtain ⟨z, r, h1, h2, h3⟩ := h q hq
  exact ⟨z, r, h1.app, h2.app, h3⟩
end
section
/-! THE TYPED WORLD: cells by their places in the list; what a field or an element may hold; what an abstract state says -/
abbrev zFT : Type := Nat × Int × Int
abbrev zCT : Type := Nat × Nat × Nat × List zFT
/-- static data: the table of cells (from, to, type), the first comer's cell, how many names are ghosts -/
abbrev zZ : Type := List (Nat × Nat × zCT) × Int × Nat
abbrev zWr : Type := List (Int × Int × Nat × Nat)
def zft (ad : Nat → Nat) (gh : Nat → Int) (cb : Int) (q : Nat) (ft : zFT) (v : Value) : Prop := match ft with
  | (0, lo, hi) => ∃ x : Int32, v = .int x ∧ lo ≤ x.toInt ∧ x.toInt ≤ hi
  | (1, _, _) => ∃ x : Int64, v = .long x
  | (2, lo, hi) => ∃ r : Nat, v = .ref (ad r) ∧ lo ≤ (r : Int) ∧ (r : Int) ≤ hi
  | (3, g, _) => ∃ x : Int32, v = .int x ∧ x.toInt = gh g.toNat
  | (4, d, _) => v = .ref (ad (q + d.toNat))
  | (5, lo, hi) => ∃ x : Int32, v = .int x ∧ ((q : Int) < cb + gh 1 → lo ≤ x.toInt ∧ x.toInt ≤ hi)
  | (7, lo, hi) => ∃ x : Int32, v = .int x ∧ lo ≤ x.toInt ∧ x.toInt ≤ hi
  | (8, lo, hi) => ∃ x : Int32, v = .int x ∧ (lo ≤ x.toInt ∧ x.toInt ≤ hi) ∧ ((q : Int) = gh 3 → gh 2 < x.toInt)
  | _ => False
/-- a sign and its number -/
def zTI (a b : Int32) : Prop := (a.toInt = 78 → 0 ≤ b.toInt ∧ b.toInt ≤ 7) ∧ (a.toInt = 63 → 0 ≤ b.toInt)
def zcell (ad : Nat → Nat) (gh : Nat → Int) (cb : Int) (tys : List (ClassId × FieldType)) (ws : va_W) (q : Nat) (ct : zCT) : Prop := match ct with
  | (0, ci, _, fts) => ∃ fs : List Value, ws[q]? = some (ad q, .inr (ci, fs)) ∧ fs.length = fts.length ∧ ∀ (j : Nat) (ft : zFT) (v : Value), fts[j]? = some ft → fs[j]? = some v → zft ad gh cb q ft v
  | (1, t0, len, fts) => ∃ (cA : ClassId) (f : Nat → Int32), ws[q]? = some (ad q, .inl (cA, len, .inl f)) ∧ tys[t0]? = some (cA, .int) ∧ ∀ (j : Nat) (ft : zFT), j < len → fts[0]? = some ft → zft ad gh cb q ft (.int (f j))
  | (2, t0, len, fts) => ∃ (cA : ClassId) (f : Nat → Int32), ws[q]? = some (ad q, .inl (cA, len, .inl f)) ∧ tys[t0]? = some (cA, .byte) ∧ ∀ (j : Nat) (ft : zFT), j < len → fts[0]? = some ft → zft ad gh cb q ft (.int (f j))
  | (3, t0, len, _) => ∃ (cA : ClassId) (f : Nat → Int64), ws[q]? = some (ad q, .inl (cA, len, .inr (.inl f))) ∧ tys[t0]? = some (cA, .long)
  | (4, t0, len, fts) => ∃ (cA : ClassId) (C : String) (f : Nat → Option Nat), ws[q]? = some (ad q, .inl (cA, len, .inr (.inr (.inr (.inr f))))) ∧ tys[t0]? = some (cA, .object C) ∧ ∀ (j : Nat) (ft : zFT), j < len → fts[0]? = some ft → f j = some (ad (ft.2.1.toNat + j))
  | (5, t0, len, fts) => ∃ (cA : ClassId) (f : Nat → Option Nat), ws[q]? = some (ad q, .inl (cA, len, .inr (.inr (.inr (.inr f))))) ∧ tys[t0]? = some (cA, .array .long) ∧ ∀ (j : Nat) (ft : zFT), j < len → fts[0]? = some ft → f j = some (ad (ft.2.1.toNat + j))
  | (6, t0, len, fts) => ∃ (cA cB : ClassId) (f g : Nat → Int32), ws[q]? = some (ad q, .inl (cA, len, .inl f)) ∧ tys[t0]? = some (cA, .int) ∧ ws[q + (fts.headD (0, 0, 0)).1]? = some (ad (q + (fts.headD (0, 0, 0)).1), .inl (cB, len, .inl g)) ∧ (∀ j : Nat, j < len → zTI (f j) (g j)) ∧ ((q : Int) = gh 3 + (fts.headD (0, 0, 0)).2.1 → 0 ≤ gh 2 → gh 2 < len ∧ (f (gh 2).toNat).toInt = 63)
  | (7, t0, len, _) => ∃ (cA : ClassId) (f : Nat → Int32), ws[q]? = some (ad q, .inl (cA, len, .inl f)) ∧ tys[t0]? = some (cA, .int)
  | _ => False
def zW (Z : zZ) (ad : Nat → Nat) (gh : Nat → Int) (tys : List (ClassId × FieldType)) (ws : va_W) : Prop := ∀ e ∈ Z.1, ∀ q : Nat, e.1 ≤ q → q ≤ e.2.1 → zcell ad gh Z.2.1 tys ws q e.2.2
/-- what a field, or an element, holds -/
def zfv (ws : va_W) (q j : Nat) : Option Value := match ws[q]? with
  | some (_, .inr (_, fs)) => fs[j]?
  | some (_, .inl (_, n, .inl f)) => if j < n then some (.int (f j)) else none
  | some (_, .inl (_, n, .inr (.inl f))) => if j < n then some (.long (f j)) else none
  | _ => none
def zcov (w : Int × Int × Nat × Nat) (q j : Nat) : Prop := w.1 ≤ (q : Int) ∧ (q : Int) ≤ w.2.1 ∧ (w.2.2.1 = 0 ∨ w.2.2.2 = j)
def zUn (wr : zWr) (ws0 ws : va_W) : Prop := ∀ q j : Nat, (∀ w ∈ wr, ¬ zcov w q j) → zfv ws q j = zfv ws0 q j
/-- an abstract value is a value's -/
def zm (ad : Nat → Nat) (nu : List Int) (av : zAV) (v : Value) : Prop := match av with
  | (0, _, _, _, _) => True
  | (1, n, k, _, _) => ∃ x : Int32, v = .int x ∧ zV nu n k x.toInt
  | (2, n, k, _, _) => ∃ x : Int64, v = .long x ∧ zV nu n k x.toInt
  | (3, n, k, _, _) => ∃ q : Nat, v = .ref (ad q) ∧ zV nu n k q
  | (4, n, k, n2, k2) => ∃ x y : Int64, v = .int (lg_cmp x y) ∧ zV nu n k x.toInt ∧ zV nu n2 k2 y.toInt
  | _ => False
theorem zm.app {ad : Nat → Nat} {nu t : List Int} {av : zAV} {v : Value} (h : zm ad nu av v) : zm ad (nu ++ t) av v := by
  obtain ⟨tg, n, k, n2, k2⟩ := av
  match tg, h with
  | 0, _ => trivial
  | 1, ⟨x, h1, h2⟩ => exact ⟨x, h1, h2.app⟩
  | 2, ⟨x, h1, h2⟩ => exact ⟨x, h1, h2.app⟩
  | 3, ⟨x, h1, h2⟩ => exact ⟨x, h1, h2.app⟩
  | 4, ⟨x, y, h1, h2, h3⟩ => exact ⟨x, y, h1, h2.app, h3.app⟩
def zall (M : zAV → Value → Prop) : List zAV → List Value → Prop
  | [], [] => True
  | a :: as, v :: vs => M a v ∧ zall M as vs
  | _, _ => False
theorem zall.mono {M N : zAV → Value → Prop} (h : ∀ a v, M a v → N a v) : ∀ {as : List zAV} {vs : List Value}, zall M as vs → zall N as vs
  | [], [], _ => trivial
  | _ :: _, _ :: _, h1 => ⟨h _ _ h1.1, h1.2.mono h⟩
theorem zall.len {M : zAV → Value → Prop} : ∀ {as : List zAV} {vs : List Value}, zall M as vs → as.length = vs.length
  | [], [], _ => rfl
  | _ :: _, _ :: _, h1 => by simp [h1.2.len]
theorem zall.get {M : zAV → Value → Prop} : ∀ {as : List zAV} {vs : List Value}, zall M as vs → ∀ {i : Nat} {a : zAV}, as[i]? = some a → ∃ v, vs[i]? = some v ∧ M a v
  | [], [], _, i, a, h => by simp at h
  | a0 :: as, v0 :: vs, h1, i, a, h => by
    cases i with
    | zero => rw [List.getElem?_cons_zero] at h; cases h; exact ⟨v0, rfl, h1.1⟩
    | succ i => rw [List.getElem?_cons_succ] at h; rw [List.getElem?_cons_succ]; exact h1.2.get h
theorem zall.app {M : zAV → Value → Prop} : ∀ {as bs : List zAV} {vs us : List Value}, zall M as vs → zall M bs us → zall M (as ++ bs) (vs ++ us)
  | [], _, [], _, _, h => h
  | _ :: _, _, _ :: _, _, h1, h => ⟨h1.1, h1.2.app h⟩
/-- the locals -/
def zL (ad : Nat → Nat) (nu : List Int) (nL : Nat) (ls : Array Slot) (L : List zAV) : Prop := ls.size = nL ∧ L.length = nL ∧ lv_wf ls ∧ ∀ (i : Nat) (a : zAV), L[i]? = some a → a.1 ≠ 0 → ∃ v, ls[i]? = some (.val v) ∧ zm ad nu a v
theorem zL.app {ad : Nat → Nat} {nu t : List Int} {nL : Nat} {ls : Array Slot} {L : List zAV} (h : zL ad nu nL ls L) : zL ad (nu ++ t) nL ls L :=
  ⟨h.1, h.2.1, h.2.2.1, fun i a h1 h2 => by obtain ⟨v, h3, h4⟩ := h.2.2.2 i a h1 h2; exact ⟨v, h3, h4.app⟩⟩
def zF (ad : Nat → Nat) (nu : List Int) (ws : va_W) (fa : List zFa) : Prop := ∀ f ∈ fa, ∃ (q : Nat) (v : Value), zV nu f.1 f.2.1 q ∧ zfv ws q f.2.2.1 = some v ∧ zm ad nu f.2.2.2 v
theorem zF.app {ad : Nat → Nat} {nu t : List Int} {ws : va_W} {fa : List zFa} (h : zF ad nu ws fa) : zF ad (nu ++ t) ws fa := fun f hf => by
  obtain ⟨q, v, h1, h2, h3⟩ := h f hf
  exact ⟨q, v, h1.app, h2, h3.app⟩
/-- the names: the ghosts stand first, then the segment's own start -/
def zN (G : Nat) (gh : Nat → Int) (nu0 nu : List Int) (env : List zIv) (cd : List zCd) : Prop := zEnv env nu ∧ zCds cd nu ∧ (∀ g, g < G → nu[g]? = some (gh g)) ∧ ∃ t, nu = nu0 ++ t
theorem zN.push {G : Nat} {gh : Nat → Int} {nu0 nu : List Int} {env : List zIv} {cd : List zCd} (h : zN G gh nu0 nu env cd) {iv : zIv} {z : Int} (hz : zInIv z iv) : zN G gh nu0 (nu ++ [z]) (env ++ [iv]) cd := by
  obtain ⟨h1, h2, h3, t, rfl⟩ := h
  refine ⟨h1.push hz, h2.app, fun g hg => ?_, t ++ [z], by rw [List.append_assoc]⟩
  have := h3 g hg
  rw [List.getElem?_append_left (List.getElem?_eq_some_iff.mp this).1]
  exact this
/-- the heap's side of a state -/
def zHp (Z : zZ) (D : va_G) (cl : List vw_C) (tys : List (ClassId × FieldType)) (A : Nat → Prop) (ad : Nat → Nat) (gh : Nat → Int) (wr : zWr) (H0 : Heap) (ws0 ws : va_W) (H : Heap) (locs : List Loc) : Prop :=
  va_P D cl ws H ∧ va_D A ws ∧ va_S A H0 H locs ∧ zW Z ad gh tys ws ∧ zUn wr ws0 ws
/-- an abstract state holds -/
def zG (Z : zZ) (D : va_G) (cl : List vw_C) (tys : List (ClassId × FieldType)) (A : Nat → Prop) (ad : Nat → Nat) (gh : Nat → Int) (wr : zWr) (H0 : Heap) (ws0 : va_W) (nu0 : List Int) (nL : Nat) (sg : zS) (nu : List Int) (ls : Array Slot) (st : List Value) (ws : va_W) (H : Heap) (locs : List Loc) : Prop :=
  zHp Z D cl tys A ad gh wr H0 ws0 ws H locs ∧ zN Z.2.2 gh nu0 nu sg.1 sg.2.1 ∧ zL ad nu nL ls sg.2.2.1 ∧ zall (zm ad nu) sg.2.2.2.1 st ∧ zF ad nu ws sg.2.2.2.2.1 ∧ zMes sg.2.2.2.2.2 nu
/-- storing a local -/
def zlv (ls : Array Slot) : List (Nat × Value) := (List.range ls.size).filterMap (fun (j : Nat) => match (ls[j]? : Option Slot) with
  | some (Slot.val w) => some (j, w)
  | _ => none)
theorem zlv_mem {ls : Array Slot} {j : Nat} {w : Value} (h : ls[j]? = some (.val w)) : (j, w) ∈ zlv ls := by
  refine List.mem_filterMap.mpr ⟨j, List.mem_range.mpr (Array.getElem?_eq_some_iff.mp h).1, ?_⟩
  rw [h]
theorem zlv_has {ls : Array Slot} {nL : Nat} (hs : ls.size = nL) (hw : lv_wf ls) : lv_has ls nL (zlv ls) := by
  refine ⟨hs, hw, fun q hq => ?_⟩
  obtain ⟨j, -, hj⟩ := List.mem_filterMap.mp hq
  split at hj
  · cases hj
    assumption
  · cases hj
def z0 : zAV := (0, 0, 0, 0, 0)
def zkill (L : List zAV) (i : Nat) : List zAV := match i with
  | 0 => L
  | j + 1 => match L[j]? with
    | some (2, _, _, _, _) => L.set j z0
    | _ => L
def zst1 (L : List zAV) (i : Nat) (a : zAV) : List zAV := (zkill L i).set i a
def zst2 (L : List zAV) (i : Nat) (a : zAV) : List zAV := ((zkill L i).set (i + 1) z0).set i a
theorem zkill_len (L : List zAV) (i : Nat) : (zkill L i).length = L.length := by
  unfold zkill
  split
  · rfl
  · split
    · rw [List.length_set]
    · rfl
theorem zm_cat2 {ad : Nat → Nat} {nu : List Int} {a : zAV} {v : Value} (h : zm ad nu a v) (hc : v.category = 2) (h0 : a.1 ≠ 0) : a.1 = 2 := by
  obtain ⟨tg, n, k, n2, k2⟩ := a
  match tg, h with
  | 0, _ => exact absurd rfl h0
  | 1, ⟨x, h1, h2⟩ => subst h1; cases hc
  | 2, ⟨x, h1, h2⟩ => rfl
  | 3, ⟨x, h1, h2⟩ => subst h1; cases hc
  | 4, ⟨x, y, h1, h2, h3⟩ => subst h1; cases hc
theorem zkill_get {L : List zAV} {i j : Nat} {a : zAV} (h : (zkill L i)[j]? = some a) (h0 : a.1 ≠ 0) : L[j]? = some a ∧ (j + 1 = i → a.1 ≠ 2) := by
  cases i with
  | zero => exact ⟨h, fun q => by omega⟩
  | succ i =>
    unfold zkill at h
    simp only at h
    split at h
    · by_cases hj : j = i
      · subst hj
        rw [List.getElem?_set_self ((List.getElem?_eq_some_iff.mp (by assumption)).1)] at h
        cases h
        exact absurd rfl h0
      · rw [List.getElem?_set_ne (Ne.symm hj)] at h
        exact ⟨h, fun q => by omega⟩
    · refine ⟨h, fun q hq => ?_⟩
      have e : j = i := by omega
      subst e
      obtain ⟨tg, n, k, n2, k2⟩ := a
      cases hq
      rename_i hne
      exact hne n k n2 k2 h
theorem zL.st1 {ad : Nat → Nat} {nu : List Int} {nL : Nat} {ls ls' : Array Slot} {L : List zAV} {i : Nat} {a : zAV} {v : Value} (h : zL ad nu nL ls L) (hi : i < nL) (ha : zm ad nu a v)
    (hl : lv_has ls' nL ((i, v) :: (zlv ls).filter (fun q => !(q.1 == i) && !(q.1 + 1 == i && q.2.category == 2)))) : zL ad nu nL ls' (zst1 L i a) := by
  refine ⟨hl.1, by unfold zst1; rw [List.length_set, zkill_len]; exact h.2.1, hl.2.1, fun j b hj hb => ?_⟩
  unfold zst1 at hj
  by_cases hji : j = i
  · subst hji
    rw [List.getElem?_set_self (by rw [zkill_len, h.2.1]; exact hi)] at hj
    cases hj
    exact ⟨v, hl.2.2 (j, v) List.mem_cons_self, ha⟩
  · rw [List.getElem?_set_ne (Ne.symm hji)] at hj
    obtain ⟨h1, h2⟩ := zkill_get hj hb
    obtain ⟨w, h3, h4⟩ := h.2.2.2 j b h1 hb
    refine ⟨w, hl.2.2 (j, w) (List.mem_cons_of_mem _ (List.mem_filter.mpr ⟨zlv_mem h3, ?_⟩)), h4⟩
    have n1 : (j == i) = false := by simpa using hji
    have n2 : (j + 1 == i && w.category == 2) = false := by
      by_cases q : j + 1 = i ∧ w.category = 2
      · exact absurd (zm_cat2 h4 q.2 hb) (h2 q.1)
      · rcases Classical.not_and_iff_not_or_not.mp q with q | q <;> simp [q]
    show (!(j == i) && !(j + 1 == i && w.category == 2)) = true
    rw [n1, n2]
    rfl
theorem zL.st2 {ad : Nat → Nat} {nu : List Int} {nL : Nat} {ls ls' : Array Slot} {L : List zAV} {i : Nat} {a : zAV} {v : Value} (h : zL ad nu nL ls L) (hi : i + 1 < nL) (ha : zm ad nu a v)
    (hl : lv_has ls' nL ((i, v) :: (zlv ls).filter (fun q => !(q.1 == i) && (!(q.1 == i + 1) && !(q.1 + 1 == i && q.2.category == 2))))) : zL ad nu nL ls' (zst2 L i a) := by
  refine ⟨hl.1, by unfold zst2; rw [List.length_set, List.length_set, zkill_len]; exact h.2.1, hl.2.1, fun j b hj hb => ?_⟩
  unfold zst2 at hj
  by_cases hji : j = i
  · subst hji
    rw [List.getElem?_set_self (by rw [List.length_set, zkill_len, h.2.1]; omega)] at hj
    cases hj
    exact ⟨v, hl.2.2 (j, v) List.mem_cons_self, ha⟩
  · rw [List.getElem?_set_ne (Ne.symm hji)] at hj
    by_cases hj1 : j = i + 1
    · subst hj1
      rw [List.getElem?_set_self (by rw [zkill_len, h.2.1]; exact hi)] at hj
      cases hj
      exact absurd rfl hb
    · rw [List.getElem?_set_ne (Ne.symm hj1)] at hj
      obtain ⟨h1, h2⟩ := zkill_get hj hb
      obtain ⟨w, h3, h4⟩ := h.2.2.2 j b h1 hb
      refine ⟨w, hl.2.2 (j, w) (List.mem_cons_of_mem _ (List.mem_filter.mpr ⟨zlv_mem h3, ?_⟩)), h4⟩
      have n1 : (j == i) = false := by simpa using hji
      have n3 : (j == i + 1) = false := by simpa using hj1
      have n2 : (j + 1 == i && w.category == 2) = false := by
        by_cases q : j + 1 = i ∧ w.category = 2
        · exact absurd (zm_cat2 h4 q.2 hb) (h2 q.1)
        · rcases Classical.not_and_iff_not_or_not.mp q with q | q <;> simp [q]
      show (!(j == i) && (!(j == i + 1) && !(j + 1 == i && w.category == 2))) = true
      rw [n1, n2, n3]
      rfl
end
section
/-! NUMBERS: what an operation gives, as a name with an offset or as a new name's intervals -/
theorem zrng (x : Int32) : -2147483648 ≤ x.toInt ∧ x.toInt ≤ 2147483647 := by
  have h1 := Int32.le_toInt x
  have h2 := Int32.toInt_lt x
  omega
theorem zrngL (x : Int64) : -9223372036854775808 ≤ x.toInt ∧ x.toInt ≤ 9223372036854775807 := by
  have h1 := Int64.le_toInt x
  have h2 := Int64.toInt_lt x
  omega
theorem zbmod {z : Int} (h1 : -2147483648 ≤ z) (h2 : z ≤ 2147483647) : z.bmod (2 ^ 32) = z := by
  rw [Int.bmod_eq_of_le (by omega) (by omega)]
theorem zbmodL {z : Int} (h1 : -9223372036854775808 ≤ z) (h2 : z ≤ 9223372036854775807) : z.bmod (2 ^ 64) = z := by
  rw [Int.bmod_eq_of_le (by omega) (by omega)]
theorem zofI {z : Int} (h1 : -2147483648 ≤ z) (h2 : z ≤ 2147483647) : (Int32.ofInt z).toInt = z := by
  rw [Int32.toInt_ofInt, zbmod h1 h2]
theorem zofL {z : Int} (h1 : -9223372036854775808 ≤ z) (h2 : z ≤ 9223372036854775807) : (Int64.ofInt z).toInt = z := by
  rw [Int64.toInt_ofInt, zbmodL h1 h2]
def zFull : zIv := [(-2147483648, 2147483647)]
def zFullL : zIv := [(-9223372036854775808, 9223372036854775807)]
theorem zFull_in (x : Int32) : zInIv x.toInt zFull := ⟨_, List.mem_cons_self, (zrng x).1, (zrng x).2⟩
theorem zFullL_in (x : Int64) : zInIv x.toInt zFullL := ⟨_, List.mem_cons_self, (zrngL x).1, (zrngL x).2⟩
abbrev zRes : Type := (Nat × Int) ⊕ zIv
def zRok (nu : List Int) (r : zRes) (z : Int) : Prop := match r with
  | .inl a => zV nu a.1 a.2 z
  | .inr iv => zInIv z iv
def zI32 (lo hi : Int) : Bool := decide (-2147483648 ≤ lo) && decide (hi ≤ 2147483647)
def zI64 (lo hi : Int) : Bool := decide (-9223372036854775808 ≤ lo) && decide (hi ≤ 9223372036854775807)
def zcst (env : List zIv) (a : Nat × Int) : Bool := decide (zlo env a.1 = zhi env a.1)
theorem zcst_ok {env : List zIv} {nu : List Int} {a : Nat × Int} {z : Int} (h : zcst env a = true) (he : zEnv env nu) (hz : zV nu a.1 a.2 z) : z = zlo env a.1 + a.2 := by
  have := hz.bd he
  unfold zcst at h
  rw [decide_eq_true_eq] at h
  omega
/-- sums; 'ok' says whether the bounds are the type's -/
def zadd (ok : Int → Int → Bool) (full : zIv) (env : List zIv) (a b : Nat × Int) : zRes :=
  if ok (zlo env a.1 + a.2 + (zlo env b.1 + b.2)) (zhi env a.1 + a.2 + (zhi env b.1 + b.2)) = true then
    (if zcst env b = true then .inl (a.1, a.2 + (zlo env b.1 + b.2)) else if zcst env a = true then .inl (b.1, b.2 + (zlo env a.1 + a.2)) else .inr [(zlo env a.1 + a.2 + (zlo env b.1 + b.2), zhi env a.1 + a.2 + (zhi env b.1 + b.2))])
  else .inr full
theorem zadd_ok {ok : Int → Int → Bool} {full : zIv} {env : List zIv} {nu : List Int} {a b : Nat × Int} {x y z : Int} (he : zEnv env nu) (hx : zV nu a.1 a.2 x) (hy : zV nu b.1 b.2 y)
    (h1 : ok (zlo env a.1 + a.2 + (zlo env b.1 + b.2)) (zhi env a.1 + a.2 + (zhi env b.1 + b.2)) = true → z = x + y) (h2 : zInIv z full) : zRok nu (zadd ok full env a b) z := by
  have bx := hx.bd he
  have by' := hy.bd he
  unfold zadd
  by_cases h : ok (zlo env a.1 + a.2 + (zlo env b.1 + b.2)) (zhi env a.1 + a.2 + (zhi env b.1 + b.2)) = true
  · rw [if_pos h]
    have e := h1 h
    by_cases hb : zcst env b = true
    · rw [if_pos hb]
      have := zcst_ok hb he hy
      obtain ⟨u, hu, rfl⟩ := hx
      exact ⟨u, hu, by show z = u + (a.2 + (zlo env b.1 + b.2)); omega⟩
    · rw [if_neg hb]
      by_cases ha : zcst env a = true
      · rw [if_pos ha]
        have := zcst_ok ha he hx
        obtain ⟨u, hu, rfl⟩ := hy
        exact ⟨u, hu, by show z = u + (b.2 + (zlo env a.1 + a.2)); omega⟩
      · rw [if_neg ha]
        exact ⟨_, List.mem_cons_self, by show zlo env a.1 + a.2 + (zlo env b.1 + b.2) ≤ z; omega, by show z ≤ zhi env a.1 + a.2 + (zhi env b.1 + b.2); omega⟩
  · rw [if_neg h]
    exact h2
def zsub (env : List zIv) (a b : Nat × Int) : zRes :=
  if a.1 = b.1 ∧ zI32 (a.2 - b.2) (a.2 - b.2) = true then .inl (0, a.2 - b.2)
  else if zI32 (zlo env a.1 + a.2 - (zhi env b.1 + b.2)) (zhi env a.1 + a.2 - (zlo env b.1 + b.2)) = true then
    (if zcst env b = true then .inl (a.1, a.2 - (zlo env b.1 + b.2)) else .inr [(zlo env a.1 + a.2 - (zhi env b.1 + b.2), zhi env a.1 + a.2 - (zlo env b.1 + b.2))])
  else .inr zFull
theorem zsub_ok {env : List zIv} {nu : List Int} {a b : Nat × Int} {x y : Int32} (h0 : nu[0]? = some 0) (he : zEnv env nu) (hx : zV nu a.1 a.2 x.toInt) (hy : zV nu b.1 b.2 y.toInt) : zRok nu (zsub env a b) (x - y).toInt := by
  have bx := hx.bd he
  have by' := hy.bd he
  unfold zsub
  by_cases h1 : a.1 = b.1 ∧ zI32 (a.2 - b.2) (a.2 - b.2) = true
  · rw [if_pos h1]
    obtain ⟨u, hu, eu⟩ := hx
    obtain ⟨v, hv, ev⟩ := hy
    rw [← h1.1, hu] at hv
    cases hv
    have h2 := h1.2
    unfold zI32 at h2
    rw [Bool.and_eq_true, decide_eq_true_eq, decide_eq_true_eq] at h2
    exact ⟨0, h0, by rw [Int32.toInt_sub, zbmod (by omega) (by omega)]; show x.toInt - y.toInt = 0 + (a.2 - b.2); omega⟩
  · rw [if_neg h1]
    by_cases h : zI32 (zlo env a.1 + a.2 - (zhi env b.1 + b.2)) (zhi env a.1 + a.2 - (zlo env b.1 + b.2)) = true
    · rw [if_pos h]
      unfold zI32 at h
      rw [Bool.and_eq_true, decide_eq_true_eq, decide_eq_true_eq] at h
      have e : (x - y).toInt = x.toInt - y.toInt := by rw [Int32.toInt_sub, zbmod (by omega) (by omega)]
      by_cases hb : zcst env b = true
      · rw [if_pos hb]
        have := zcst_ok hb he hy
        obtain ⟨u, hu, eu⟩ := hx
        exact ⟨u, hu, by show (x - y).toInt = u + (a.2 - (zlo env b.1 + b.2)); omega⟩
      · rw [if_neg hb]
        exact ⟨_, List.mem_cons_self, by show zlo env a.1 + a.2 - (zhi env b.1 + b.2) ≤ _; omega, by show _ ≤ zhi env a.1 + a.2 - (zlo env b.1 + b.2); omega⟩
    · rw [if_neg h]
      exact zFull_in _
def zaddI (env : List zIv) (a b : Nat × Int) : zRes := zadd zI32 zFull env a b
theorem zaddI_ok {env : List zIv} {nu : List Int} {a b : Nat × Int} {x y : Int32} (he : zEnv env nu) (hx : zV nu a.1 a.2 x.toInt) (hy : zV nu b.1 b.2 y.toInt) : zRok nu (zaddI env a b) (x + y).toInt := by
  refine zadd_ok he hx hy (fun h => ?_) (zFull_in _)
  have bx := hx.bd he
  have by' := hy.bd he
  unfold zI32 at h
  rw [Bool.and_eq_true, decide_eq_true_eq, decide_eq_true_eq] at h
  rw [Int32.toInt_add, zbmod (by omega) (by omega)]
def zaddL (env : List zIv) (a b : Nat × Int) : zRes := zadd zI64 zFullL env a b
theorem zaddL_ok {env : List zIv} {nu : List Int} {a b : Nat × Int} {x y : Int64} (he : zEnv env nu) (hx : zV nu a.1 a.2 x.toInt) (hy : zV nu b.1 b.2 y.toInt) : zRok nu (zaddL env a b) (x + y).toInt := by
  refine zadd_ok he hx hy (fun h => ?_) (zFullL_in _)
  have bx := hx.bd he
  have by' := hy.bd he
  unfold zI64 at h
  rw [Bool.and_eq_true, decide_eq_true_eq, decide_eq_true_eq] at h
  rw [Int64.toInt_add, zbmodL (by omega) (by omega)]
def zmulC (env : List zIv) (a : Nat × Int) (c : Int) : zRes :=
  if 0 ≤ c ∧ zI32 ((zlo env a.1 + a.2) * c) ((zhi env a.1 + a.2) * c) = true then (if zcst env a = true then .inl (0, (zlo env a.1 + a.2) * c) else .inr [((zlo env a.1 + a.2) * c, (zhi env a.1 + a.2) * c)]) else .inr zFull
def zmul (env : List zIv) (a b : Nat × Int) : zRes := if zcst env b = true then zmulC env a (zlo env b.1 + b.2) else if zcst env a = true then zmulC env b (zlo env a.1 + a.2) else .inr zFull
theorem zmulC_ok {env : List zIv} {nu : List Int} {a : Nat × Int} {x : Int} {c z : Int} (h0 : nu[0]? = some 0) (he : zEnv env nu) (hx : zV nu a.1 a.2 x) (hz : zInIv z zFull) (e : z = (x * c).bmod (2 ^ 32)) : zRok nu (zmulC env a c) z := by
  have bx := hx.bd he
  unfold zmulC
  by_cases h : 0 ≤ c ∧ zI32 ((zlo env a.1 + a.2) * c) ((zhi env a.1 + a.2) * c) = true
  · rw [if_pos h]
    have h2 := h.2
    unfold zI32 at h2
    rw [Bool.and_eq_true, decide_eq_true_eq, decide_eq_true_eq] at h2
    have m1 := Int.mul_le_mul_of_nonneg_right bx.1 h.1
    have m2 := Int.mul_le_mul_of_nonneg_right bx.2 h.1
    rw [zbmod (by omega) (by omega)] at e
    by_cases hc : zcst env a = true
    · rw [if_pos hc]
      have := zcst_ok hc he hx
      exact ⟨0, h0, by show z = 0 + (zlo env a.1 + a.2) * c; rw [e, this]; omega⟩
    · rw [if_neg hc]
      exact ⟨_, List.mem_cons_self, by show (zlo env a.1 + a.2) * c ≤ z; omega, by show z ≤ (zhi env a.1 + a.2) * c; omega⟩
  · rw [if_neg h]
    exact hz
theorem zmul_ok {env : List zIv} {nu : List Int} {a b : Nat × Int} {x y : Int32} (h0 : nu[0]? = some 0) (he : zEnv env nu) (hx : zV nu a.1 a.2 x.toInt) (hy : zV nu b.1 b.2 y.toInt) : zRok nu (zmul env a b) (x * y).toInt := by
  unfold zmul
  by_cases hb : zcst env b = true
  · rw [if_pos hb]
    have := zcst_ok hb he hy
    exact zmulC_ok h0 he hx (zFull_in _) (by rw [Int32.toInt_mul, ← this])
  · rw [if_neg hb]
    by_cases ha : zcst env a = true
    · rw [if_pos ha]
      have := zcst_ok ha he hx
      exact zmulC_ok h0 he hy (zFull_in _) (by rw [Int32.toInt_mul, ← this, Int.mul_comm])
    · rw [if_neg ha]
      exact zFull_in _
/-- the divisor isn't 0 -/
def znz (env : List zIv) (b : Nat × Int) : Bool := (zE env b.1).all (fun p => decide (p.2 + b.2 < 0) || decide (0 < p.1 + b.2))
theorem znz_ok {env : List zIv} {nu : List Int} {b : Nat × Int} {y : Int32} (h : znz env b = true) (he : zEnv env nu) (hy : zV nu b.1 b.2 y.toInt) : ¬ y = 0 := by
  rintro rfl
  obtain ⟨u, hu, eu⟩ := hy
  obtain ⟨p, hp, h1, h2⟩ := he.at hu
  have h3 := List.all_eq_true.mp h p hp
  rw [Bool.or_eq_true, decide_eq_true_eq, decide_eq_true_eq] at h3
  rw [Int32.toInt_zero] at eu
  omega
theorem zdivI {x y : Int32} (h : 0 < y.toInt) : (x / y).toInt = x.toInt.tdiv y.toInt := by
  refine Int32.toInt_div_of_ne_right x y (fun q => ?_)
  rw [q] at h
  exact absurd h (by decide)
theorem ztm {a c : Int} (hc : 0 < c) : a = c * a.tdiv c + a.tmod c := (Int.mul_tdiv_add_tmod a c).symm
theorem zremI {x y : Int32} (h : 0 < y.toInt) : (x - x / y * y).toInt = x.toInt.tmod y.toInt := by
  have e1 := zdivI (x := x) h
  have e2 := ztm (a := x.toInt) h
  have e3 := tmod_bounds (a := x.toInt) h
  have r1 := zrng x
  have r2 := zrng y
  rw [Int32.toInt_sub, Int32.toInt_mul, e1]
  rw [Int.sub_bmod_bmod, Int.mul_comm, show x.toInt - y.toInt * x.toInt.tdiv y.toInt = x.toInt.tmod y.toInt by omega]
  exact zbmod (by omega) (by omega)
theorem ztdiv_bd {a c : Int} (hc : 0 < c) : (0 ≤ a → 0 ≤ a.tdiv c ∧ a.tdiv c ≤ a) ∧ (a ≤ 0 → a ≤ a.tdiv c ∧ a.tdiv c ≤ 0) := by
  refine ⟨fun h => ⟨Int.tdiv_nonneg h (by omega), Int.tdiv_le_self _ h⟩, fun h => ?_⟩
  have e : a.tdiv c = -((-a).tdiv c) := by rw [Int.neg_tdiv, Int.neg_neg]
  have h1 : 0 ≤ (-a).tdiv c := Int.tdiv_nonneg (by omega) (by omega)
  have h2 : (-a).tdiv c ≤ -a := Int.tdiv_le_self _ (by omega)
  omega
theorem ztmod_bd {a c : Int} (hc : 0 < c) : 0 ≤ a → 0 ≤ a.tmod c ∧ a.tmod c < c := fun h => ⟨Int.tmod_nonneg _ h, Int.tmod_lt_of_pos _ hc⟩
/-- bounds of a quotient by a constant above 0 -/
def zdivB (lo hi c : Int) : zIv := if 0 ≤ lo then [(lo.tdiv c, hi.tdiv c)] else [(lo, if 0 ≤ hi then hi else 0)]
theorem ztd_mono {a b c : Int} (hc : 0 < c) (h0 : 0 ≤ a) (h : a ≤ b) : a.tdiv c ≤ b.tdiv c := by
  rw [Int.tdiv_eq_ediv_of_nonneg h0, Int.tdiv_eq_ediv_of_nonneg (by omega)]
  exact Int.ediv_le_ediv hc h
theorem zdivB_ok {a c lo hi : Int} (hc : 0 < c) (h1 : lo ≤ a) (h2 : a ≤ hi) : zInIv (a.tdiv c) (zdivB lo hi c) := by
  unfold zdivB
  by_cases hl : 0 ≤ lo
  · rw [if_pos hl]
    exact ⟨_, List.mem_cons_self, ztd_mono hc hl h1, ztd_mono hc (by omega) h2⟩
  · rw [if_neg hl]
    have b := ztdiv_bd (a := a) hc
    refine ⟨_, List.mem_cons_self, ?_, ?_⟩
    · show lo ≤ a.tdiv c
      rcases Int.le_total 0 a with q | q
      · have := b.1 q; omega
      · have := b.2 q; omega
    · show a.tdiv c ≤ (if 0 ≤ hi then hi else 0)
      rcases Int.le_total 0 a with q | q
      · have := b.1 q; split <;> omega
      · have := b.2 q; split <;> omega
/-- bounds of a rest: the dividend's least, the divisor's most -/
def zremB (lo hy : Int) : zIv := [(if 0 ≤ lo then 0 else 1 - hy, hy - 1)]
theorem zremB_ok {a c lo hy : Int} (hc : 0 < c) (h1 : lo ≤ a) (h2 : c ≤ hy) : zInIv (a.tmod c) (zremB lo hy) := by
  have b := tmod_bounds (a := a) hc
  refine ⟨_, List.mem_cons_self, ?_, by show a.tmod c ≤ hy - 1; omega⟩
  show (if 0 ≤ lo then 0 else 1 - hy) ≤ a.tmod c
  split
  · exact Int.tmod_nonneg _ (by omega)
  · omega
/-- and: one that is not below 0 bounds it -/
theorem znn {x : Int32} (h : 0 ≤ x.toInt) : x.toInt = (x.toBitVec.toNat : Int) := by
  have h1 : x.toInt = x.toBitVec.toInt := rfl
  rw [h1, BitVec.toInt_eq_toNat_cond] at h ⊢
  have := x.toBitVec.isLt
  split at h
  · rw [if_pos (by assumption)]
  · omega
theorem znn' {x : Int32} (h : x.toBitVec.toNat < 2147483648) : x.toInt = (x.toBitVec.toNat : Int) := by
  have h1 : x.toInt = x.toBitVec.toInt := rfl
  rw [h1, BitVec.toInt_eq_toNat_cond, if_pos (by omega)]
theorem zandI {x y : Int32} (h : 0 ≤ y.toInt) : 0 ≤ (x &&& y).toInt ∧ (x &&& y).toInt ≤ y.toInt := by
  have e := znn h
  have r := zrng y
  have h1 : (x &&& y).toBitVec.toNat ≤ y.toBitVec.toNat := by
    rw [Int32.toBitVec_and, BitVec.toNat_and]
    exact Nat.and_le_right
  have h2 := znn' (x := x &&& y) (by omega)
  omega
def zand (env : List zIv) (a b : Nat × Int) : zRes :=
  if 0 ≤ zlo env b.1 + b.2 then .inr [(0, zhi env b.1 + b.2)] else if 0 ≤ zlo env a.1 + a.2 then .inr [(0, zhi env a.1 + a.2)] else .inr zFull
theorem zand_ok {env : List zIv} {nu : List Int} {a b : Nat × Int} {x y : Int32} (he : zEnv env nu) (hx : zV nu a.1 a.2 x.toInt) (hy : zV nu b.1 b.2 y.toInt) : zRok nu (zand env a b) (x &&& y).toInt := by
  have bx := hx.bd he
  have by' := hy.bd he
  unfold zand
  by_cases h : 0 ≤ zlo env b.1 + b.2
  · rw [if_pos h]
    have := zandI (x := x) (y := y) (by omega)
    exact ⟨_, List.mem_cons_self, by show 0 ≤ _; omega, by show _ ≤ zhi env b.1 + b.2; omega⟩
  · rw [if_neg h]
    by_cases h2 : 0 ≤ zlo env a.1 + a.2
    · rw [if_pos h2]
      have := zandI (x := y) (y := x) (by omega)
      rw [Int32.and_comm] at this
      exact ⟨_, List.mem_cons_self, by show 0 ≤ _; omega, by show _ ≤ zhi env a.1 + a.2; omega⟩
    · rw [if_neg h2]
      exact zFull_in _
/-- 1 shifted by 0 to 30 -/
def zpow (n : Int) : Int := ((2 ^ n.toNat : Nat) : Int)
def zshl (env : List zIv) (a b : Nat × Int) : zRes :=
  if zcst env a = true ∧ zlo env a.1 + a.2 = 1 ∧ 0 ≤ zlo env b.1 + b.2 ∧ zhi env b.1 + b.2 ≤ 30 then .inr [(zpow (zlo env b.1 + b.2), zpow (zhi env b.1 + b.2))] else .inr zFull
theorem zshl1 : ∀ k, k < 31 → ((1 : Int32) <<< (Int32.ofNat k &&& 31)).toInt = ((2 ^ k : Nat) : Int) := by decide +kernel
theorem zshl_ok {env : List zIv} {nu : List Int} {a b : Nat × Int} {x y : Int32} (he : zEnv env nu) (hx : zV nu a.1 a.2 x.toInt) (hy : zV nu b.1 b.2 y.toInt) : zRok nu (zshl env a b) (x <<< (y &&& 31)).toInt := by
  have by' := hy.bd he
  unfold zshl
  by_cases h : zcst env a = true ∧ zlo env a.1 + a.2 = 1 ∧ 0 ≤ zlo env b.1 + b.2 ∧ zhi env b.1 + b.2 ≤ 30
  · rw [if_pos h]
    have hx1 := zcst_ok h.1 he hx
    have e1 : x = 1 := Int32.toInt_inj.mp (by rw [hx1, h.2.1]; decide)
    obtain ⟨k, hk⟩ := Int.eq_ofNat_of_zero_le (show 0 ≤ y.toInt by omega)
    have e2 : y = Int32.ofNat k := Int32.toInt_inj.mp (by rw [hk, Int32.toInt_ofNat_of_lt (by omega)])
    rw [e1, e2]
    show zInIv _ [_]
    rw [zshl1 k (by omega)]
    refine ⟨_, List.mem_cons_self, ?_, ?_⟩
    · exact Int.ofNat_le.mpr (Nat.pow_le_pow_right (by omega) (by omega))
    · exact Int.ofNat_le.mpr (Nat.pow_le_pow_right (by omega) (by omega))
  · rw [if_neg h]
    exact zFull_in _
/-- shifted right, without sign, by a constant -/
def zushr (env : List zIv) (b : Nat × Int) : zRes := if zcst env b = true ∧ 1 ≤ zlo env b.1 + b.2 ∧ zlo env b.1 + b.2 ≤ 31 then .inr [(0, zpow (32 - (zlo env b.1 + b.2)) - 1)] else .inr zFull
theorem zushrA : ∀ k, k < 32 → (((Int32.ofNat k).toUInt32 &&& Int32.toUInt32 31).toBitVec % 32).toNat = k := by decide +kernel
theorem zushr_ok {env : List zIv} {nu : List Int} {b : Nat × Int} {x y : Int32} (he : zEnv env nu) (hy : zV nu b.1 b.2 y.toInt) : zRok nu (zushr env b) ((x.toUInt32 >>> (y.toUInt32 &&& Int32.toUInt32 31)).toInt32).toInt := by
  unfold zushr
  by_cases h : zcst env b = true ∧ 1 ≤ zlo env b.1 + b.2 ∧ zlo env b.1 + b.2 ≤ 31
  · rw [if_pos h]
    have hy1 := zcst_ok h.1 he hy
    obtain ⟨k, hk⟩ := Int.eq_ofNat_of_zero_le (show 0 ≤ y.toInt by omega)
    have e2 : y = Int32.ofNat k := Int32.toInt_inj.mp (by rw [hk, Int32.toInt_ofNat_of_lt (by omega)])
    have e := pk_ushr x y k (by rw [e2]; exact zushrA k (by omega))
    have hl := x.toBitVec.isLt
    have hp : (2 : Nat) ^ 32 = 2 ^ (32 - k) * 2 ^ k := by rw [← Nat.pow_add]; congr 1; omega
    have h3 : x.toBitVec.toNat / 2 ^ k < 2 ^ (32 - k) := by
      rw [Nat.div_lt_iff_lt_mul (Nat.two_pow_pos k), ← hp]
      exact hl
    have h4 : (2 : Nat) ^ (32 - k) ≤ 2 ^ 31 := Nat.pow_le_pow_right (by omega) (by omega)
    have h5 := znn' (x := (x.toUInt32 >>> (y.toUInt32 &&& Int32.toUInt32 31)).toInt32) (by rw [e]; omega)
    refine ⟨_, List.mem_cons_self, by show 0 ≤ _; omega, ?_⟩
    show _ ≤ zpow (32 - (zlo env b.1 + b.2)) - 1
    have h6 : zpow (32 - (zlo env b.1 + b.2)) = ((2 ^ (32 - k) : Nat) : Int) := by
      unfold zpow
      rw [show (32 - (zlo env b.1 + b.2)).toNat = 32 - k by omega]
    rw [h6, h5, e]
    omega
  · rw [if_neg h]
    exact zFull_in _
theorem zb_rng (x : Int32) : zInIv x.toInt8.toInt32.toInt [(-128, 127)] := by
  rw [Int8.toInt_toInt32]
  have h1 := Int8.le_toInt x.toInt8
  have h2 := Int8.toInt_lt x.toInt8
  exact ⟨_, List.mem_cons_self, by show (-128 : Int) ≤ _; omega, by show _ ≤ (127 : Int); omega⟩
theorem zs_rng (x : Int32) : zInIv x.toInt16.toInt32.toInt [(-32768, 32767)] := by
  rw [Int16.toInt_toInt32]
  have h1 := Int16.le_toInt x.toInt16
  have h2 := Int16.toInt_lt x.toInt16
  exact ⟨_, List.mem_cons_self, by show (-32768 : Int) ≤ _; omega, by show _ ≤ (32767 : Int); omega⟩
theorem zc_rng (x : Int32) : zInIv ((x.toUInt32 % 65536).toInt32).toInt [(0, 65535)] := by
  rw [pk_char x]
  have h : x.toBitVec.toNat % 65536 < 65536 := Nat.mod_lt _ (by omega)
  rw [nI_toInt (by omega)]
  exact ⟨_, List.mem_cons_self, by show (0 : Int) ≤ _; omega, by show _ ≤ (65535 : Int); omega⟩
end
section
/-! ONE INSTRUCTION: from what holds at the next to what holds here -/
def zWP (F : zS → List Int → Array Slot → List Value → va_W → Heap → List Loc → Prop) (Wm : Heap → List Loc → Nat → Array Slot → List Value → Prop) (pc : Nat) (sg : zS) : Prop :=
  ∀ (nu : List Int) (ls : Array Slot) (st : List Value) (ws : va_W) (H : Heap) (locs : List Loc), F sg nu ls st ws H locs → Wm H locs pc ls st
def zrel (op : Nat) (x y : Int) : Prop := match op with
  | 0 => x = y
  | 1 => x ≠ y
  | 2 => x < y
  | 3 => y ≤ x
  | 4 => y < x
  | _ => x ≤ y
def zopn (op : Nat) : Nat := match op with
  | 0 => 1
  | 1 => 0
  | 2 => 3
  | 3 => 2
  | 4 => 5
  | _ => 4
def zne (env : List zIv) (a b : Nat × Int) : List zIv :=
  if zcst env b = true then env.set a.1 (zcut (zE env a.1) (zlo env b.1 + b.2 - a.2)) else if zcst env a = true then env.set b.1 (zcut (zE env b.1) (zlo env a.1 + a.2 - b.2)) else env
def zas0 (op : Nat) (env : List zIv) (cd : List zCd) (a b : Nat × Int) : List zIv × List zCd := match op with
  | 0 => (zasE (zasE env a b) b a, zasC (zasC cd a b) b a)
  | 1 => if zle env cd a b = true then (zasE (zne env a b) (a.1, a.2 + 1) b, zasC cd (a.1, a.2 + 1) b) else if zle env cd b a = true then (zasE (zne env a b) (b.1, b.2 + 1) a, zasC cd (b.1, b.2 + 1) a) else (zne env a b, cd)
  | 2 => (zasE env (a.1, a.2 + 1) b, zasC cd (a.1, a.2 + 1) b)
  | 3 => (zasE env b a, zasC cd b a)
  | 4 => (zasE env (b.1, b.2 + 1) a, zasC cd (b.1, b.2 + 1) a)
  | _ => (zasE env a b, zasC cd a b)
theorem zV.up {nu : List Int} {n : Nat} {k z : Int} (h : zV nu n k z) (d : Int) : zV nu n (k + d) (z + d) := by
  obtain ⟨a, h1, rfl⟩ := h
  exact ⟨a, h1, by omega⟩
theorem zne_ok {env : List zIv} {nu : List Int} {a b : Nat × Int} {x y : Int} (h : zEnv env nu) (hx : zV nu a.1 a.2 x) (hy : zV nu b.1 b.2 y) (hn : x ≠ y) : zEnv (zne env a b) nu := by
  unfold zne
  by_cases hb : zcst env b = true
  · rw [if_pos hb]
    have e := zcst_ok hb h hy
    obtain ⟨u, hu, rfl⟩ := hx
    refine h.set (fun z hz => ?_)
    rw [hu] at hz
    cases hz
    exact zcut_ok (h.at hu) (by omega)
  · rw [if_neg hb]
    by_cases ha : zcst env a = true
    · rw [if_pos ha]
      have e := zcst_ok ha h hx
      obtain ⟨u, hu, rfl⟩ := hy
      refine h.set (fun z hz => ?_)
      rw [hu] at hz
      cases hz
      exact zcut_ok (h.at hu) (by omega)
    · rw [if_neg ha]
      exact h
theorem zas0_ok {op : Nat} {env : List zIv} {cd : List zCd} {nu : List Int} {a b : Nat × Int} {x y : Int} (h : zEnv env nu) (hc : zCds cd nu) (hx : zV nu a.1 a.2 x) (hy : zV nu b.1 b.2 y) (hr : zrel op x y) : zEnv (zas0 op env cd a b).1 nu ∧ zCds (zas0 op env cd a b).2 nu := by
  match op, hr with
  | 0, hr =>
    have e : x = y := hr
    exact ⟨zasE_ok (zasE_ok h hx hy (by omega)) hy hx (by omega), zasC_ok (zasC_ok hc hx hy (by omega)) hy hx (by omega)⟩
  | 1, hr =>
    have hn : x ≠ y := hr
    have hz := zne_ok h hx hy hn
    show zEnv (if zle env cd a b = true then (zasE (zne env a b) (a.1, a.2 + 1) b, zasC cd (a.1, a.2 + 1) b) else if zle env cd b a = true then (zasE (zne env a b) (b.1, b.2 + 1) a, zasC cd (b.1, b.2 + 1) a) else (zne env a b, cd)).1 nu ∧ zCds (if zle env cd a b = true then (zasE (zne env a b) (a.1, a.2 + 1) b, zasC cd (a.1, a.2 + 1) b) else if zle env cd b a = true then (zasE (zne env a b) (b.1, b.2 + 1) a, zasC cd (b.1, b.2 + 1) a) else (zne env a b, cd)).2 nu
    by_cases h1 : zle env cd a b = true
    · rw [if_pos h1]
      have l1 := zle_ok h1 h hc hx hy
      exact ⟨zasE_ok (a := (a.1, a.2 + 1)) hz (hx.up 1) hy (by omega), zasC_ok (a := (a.1, a.2 + 1)) hc (hx.up 1) hy (by omega)⟩
    · rw [if_neg h1]
      by_cases h2 : zle env cd b a = true
      · rw [if_pos h2]
        have l2 := zle_ok h2 h hc hy hx
        exact ⟨zasE_ok (a := (b.1, b.2 + 1)) hz (hy.up 1) hx (by omega), zasC_ok (a := (b.1, b.2 + 1)) hc (hy.up 1) hx (by omega)⟩
      · rw [if_neg h2]
        exact ⟨hz, hc⟩
  | 2, hr =>
    have e : x < y := hr
    exact ⟨zasE_ok (a := (a.1, a.2 + 1)) h (hx.up 1) hy (by omega), zasC_ok (a := (a.1, a.2 + 1)) hc (hx.up 1) hy (by omega)⟩
  | 3, hr => exact ⟨zasE_ok h hy hx hr, zasC_ok hc hy hx hr⟩
  | 4, hr =>
    have e : y < x := hr
    exact ⟨zasE_ok (a := (b.1, b.2 + 1)) h (hy.up 1) hx (by omega), zasC_ok (a := (b.1, b.2 + 1)) hc (hy.up 1) hx (by omega)⟩
  | n + 5, hr => exact ⟨zasE_ok h hx hy hr, zasC_ok hc hx hy hr⟩
/-- it can't be -/
def zcon (op : Nat) (env : List zIv) (cd : List zCd) (a b : Nat × Int) : Bool := match op with
  | 0 => zle env cd (a.1, a.2 + 1) b || zle env cd (b.1, b.2 + 1) a
  | 1 => zle env cd a b && zle env cd b a
  | 2 => zle env cd b a
  | 3 => zle env cd (a.1, a.2 + 1) b
  | 4 => zle env cd a b
  | _ => zle env cd (b.1, b.2 + 1) a
def zas (op : Nat) (env : List zIv) (cd : List zCd) (a b : Nat × Int) : List zIv × List zCd := if zcon op env cd a b = true then (env.set a.1 [], cd) else zas0 op env cd a b
theorem zcon_ok {op : Nat} {env : List zIv} {cd : List zCd} {nu : List Int} {a b : Nat × Int} {x y : Int} (h : zEnv env nu) (hc : zCds cd nu) (hx : zV nu a.1 a.2 x) (hy : zV nu b.1 b.2 y) (hr : zrel op x y) (hn : zcon op env cd a b = true) : False := by
  match op, hr, hn with
  | 0, hr, hn =>
    have e : x = y := hr
    rcases Bool.or_eq_true_iff.mp hn with hn | hn
    · have := zle_ok hn h hc (hx.up 1) hy; omega
    · have := zle_ok hn h hc (hy.up 1) hx; omega
  | 1, hr, hn =>
    have e : x ≠ y := hr
    have hn : (zle env cd a b && zle env cd b a) = true := hn
    rw [Bool.and_eq_true] at hn
    have := zle_ok hn.1 h hc hx hy
    have := zle_ok hn.2 h hc hy hx
    omega
  | 2, hr, hn => have e : x < y := hr; have := zle_ok hn h hc hy hx; omega
  | 3, hr, hn => have e : y ≤ x := hr; have := zle_ok hn h hc (hx.up 1) hy; omega
  | 4, hr, hn => have e : y < x := hr; have := zle_ok hn h hc hx hy; omega
  | n + 5, hr, hn => have e : x ≤ y := hr; have := zle_ok hn h hc (hy.up 1) hx; omega
theorem zas_ok {op : Nat} {env : List zIv} {cd : List zCd} {nu : List Int} {a b : Nat × Int} {x y : Int} (h : zEnv env nu) (hc : zCds cd nu) (hx : zV nu a.1 a.2 x) (hy : zV nu b.1 b.2 y) (hr : zrel op x y) : zEnv (zas op env cd a b).1 nu ∧ zCds (zas op env cd a b).2 nu := by
  unfold zas
  by_cases hn : zcon op env cd a b = true
  · exact (zcon_ok h hc hx hy hr hn).elim
  · rw [if_neg hn]
    exact zas0_ok h hc hx hy hr
/-- pushing a result -/
def zpush (tag : Nat) (sg : zS) (rest : List zAV) (r : zRes) : zS := match r with
  | .inl a => (sg.1, sg.2.1, sg.2.2.1, (tag, a.1, a.2, 0, 0) :: rest, sg.2.2.2.2.1, sg.2.2.2.2.2)
  | .inr iv => (sg.1 ++ [iv], sg.2.1, sg.2.2.1, (tag, sg.1.length, 0, 0, 0) :: rest, sg.2.2.2.2.1, sg.2.2.2.2.2)
section ZS
variable {p : Program} {l : Launch} {e : Env} {R : Room} {s : State} {m : MethodId} {args : Array Value} {below : List Frame} {meth : Method} {c : Code} {Q : State → Prop} {cc : ByteArray} {pc ce sl : Nat}
variable {Z : zZ} {D : va_G} {cl : List vw_C} {tys : List (ClassId × FieldType)} {A : Nat → Prop} {ad : Nat → Nat} {gh : Nat → Int} {wr : zWr} {H0 : Heap} {ws0 : va_W} {nu0 : List Int} {nL : Nat}
variable {env : List zIv} {cd : List zCd} {L st : List zAV} {fa : List zFa} {me : List zMe}
theorem zN.z0 {nu : List Int} (h0 : 0 < Z.2.2 ∧ gh 0 = 0) (hN : zN Z.2.2 gh nu0 nu env cd) : nu[0]? = some 0 := by
  have := hN.2.2.1 0 h0.1
  rw [h0.2] at this
  exact this
theorem zN.cst {nu : List Int} (h0 : 0 < Z.2.2 ∧ gh 0 = 0) (hN : zN Z.2.2 gh nu0 nu env cd) (n : Int) : zV nu 0 n n := ⟨0, hN.z0 h0, by omega⟩
theorem zG.nm {sg : zS} {nu : List Int} {ls : Array Slot} {stc : List Value} {ws : va_W} {H : Heap} {locs : List Loc} {env' : List zIv} {cd' : List zCd} (h : zG Z D cl tys A ad gh wr H0 ws0 nu0 nL sg nu ls stc ws H locs) (he : zEnv env' nu) (hc : zCds cd' nu) :
    zG Z D cl tys A ad gh wr H0 ws0 nu0 nL (env', cd', sg.2.2) nu ls stc ws H locs := ⟨h.1, ⟨he, hc, h.2.1.2.2⟩, h.2.2⟩
/-- a push of a value that is known, or new -/
theorem zG.pushI {nu : List Int} {ls : Array Slot} {stc stc' : List Value} {ws : va_W} {H : Heap} {locs : List Loc} {sg : zS} {rest : List zAV} {r : zRes} {x : Int32} (h : zG Z D cl tys A ad gh wr H0 ws0 nu0 nL sg nu ls stc' ws H locs) (hr : zall (zm ad nu) rest stc) (hx : zRok nu r x.toInt) :
    ∃ nu', zG Z D cl tys A ad gh wr H0 ws0 nu0 nL (zpush 1 sg rest r) nu' ls (.int x :: stc) ws H locs := by
  obtain ⟨hH, hN, hL, hS, hF, hM⟩ := h
  cases r with
  | inl a => exact ⟨nu, hH, hN, hL, ⟨⟨x, rfl, hx⟩, hr⟩, hF, hM⟩
  | inr iv => exact ⟨nu ++ [x.toInt], hH, hN.push hx, hL.app, ⟨⟨x, rfl, zV.new hN.1 _⟩, hr.mono fun a v h => h.app⟩, hF.app, hM.app⟩
theorem zG.pushL {nu : List Int} {ls : Array Slot} {stc stc' : List Value} {ws : va_W} {H : Heap} {locs : List Loc} {sg : zS} {rest : List zAV} {r : zRes} {x : Int64} (h : zG Z D cl tys A ad gh wr H0 ws0 nu0 nL sg nu ls stc' ws H locs) (hr : zall (zm ad nu) rest stc) (hx : zRok nu r x.toInt) :
    ∃ nu', zG Z D cl tys A ad gh wr H0 ws0 nu0 nL (zpush 2 sg rest r) nu' ls (.long x :: stc) ws H locs := by
  obtain ⟨hH, hN, hL, hS, hF, hM⟩ := h
  cases r with
  | inl a => exact ⟨nu, hH, hN, hL, ⟨⟨x, rfl, hx⟩, hr⟩, hF, hM⟩
  | inr iv => exact ⟨nu ++ [x.toInt], hH, hN.push hx, hL.app, ⟨⟨x, rfl, zV.new hN.1 _⟩, hr.mono fun a v h => h.app⟩, hF.app, hM.app⟩
/-- an int constant, however it is pushed -/
theorem zs_cI (h0 : 0 < Z.2.2 ∧ gh 0 = 0) {n : Int} {pc' : Nat} {v : Int32} (hv : v.toInt = n) (row : ∀ (H : Heap) (locs : List Loc) (ls : Array Slot) (rest : List Value), W p l e R s m args below meth c H locs ce sl Q (F0 m pc' ls (.int v :: rest)) → W p l e R s m args below meth c H locs ce sl Q (F0 m pc ls rest))
    (k : zWP (zG Z D cl tys A ad gh wr H0 ws0 nu0 nL) (fun H locs pc ls st => W p l e R s m args below meth c H locs ce sl Q (F0 m pc ls st)) pc' (env, cd, L, (1, 0, n, 0, 0) :: st, fa, me)) : zWP (zG Z D cl tys A ad gh wr H0 ws0 nu0 nL) (fun H locs pc ls st => W p l e R s m args below meth c H locs ce sl Q (F0 m pc ls st)) pc (env, cd, L, st, fa, me) := by
  intro nu ls stc ws H locs hG
  obtain ⟨hH, hN, hL, hS, hF, hM⟩ := hG
  refine row H locs ls stc (k nu ls _ ws H locs ⟨hH, hN, hL, ⟨⟨v, rfl, ?_⟩, hS⟩, hF, hM⟩)
  rw [hv]
  exact hN.cst h0 n
theorem zs_cL (h0 : 0 < Z.2.2 ∧ gh 0 = 0) {n : Int} {pc' : Nat} {v : Int64} (hv : v.toInt = n) (row : ∀ (H : Heap) (locs : List Loc) (ls : Array Slot) (rest : List Value), W p l e R s m args below meth c H locs ce sl Q (F0 m pc' ls (.long v :: rest)) → W p l e R s m args below meth c H locs ce sl Q (F0 m pc ls rest))
    (k : zWP (zG Z D cl tys A ad gh wr H0 ws0 nu0 nL) (fun H locs pc ls st => W p l e R s m args below meth c H locs ce sl Q (F0 m pc ls st)) pc' (env, cd, L, (2, 0, n, 0, 0) :: st, fa, me)) : zWP (zG Z D cl tys A ad gh wr H0 ws0 nu0 nL) (fun H locs pc ls st => W p l e R s m args below meth c H locs ce sl Q (F0 m pc ls st)) pc (env, cd, L, st, fa, me) := by
  intro nu ls stc ws H locs hG
  obtain ⟨hH, hN, hL, hS, hF, hM⟩ := hG
  refine row H locs ls stc (k nu ls _ ws H locs ⟨hH, hN, hL, ⟨⟨v, rfl, ?_⟩, hS⟩, hF, hM⟩)
  rw [hv]
  exact hN.cst h0 n
/-- loads -/
theorem zs_ldI {i n n2 : Nat} {kk k2 : Int} {pc' : Nat} (ha : L[i]? = some (1, n, kk, n2, k2)) (row : ∀ (H : Heap) (locs : List Loc) (ls : Array Slot) (rest : List Value) (x : Int32), ls[i]? = some (.val (.int x)) → W p l e R s m args below meth c H locs ce sl Q (F0 m pc' ls (.int x :: rest)) → W p l e R s m args below meth c H locs ce sl Q (F0 m pc ls rest))
    (k : zWP (zG Z D cl tys A ad gh wr H0 ws0 nu0 nL) (fun H locs pc ls st => W p l e R s m args below meth c H locs ce sl Q (F0 m pc ls st)) pc' (env, cd, L, (1, n, kk, 0, 0) :: st, fa, me)) : zWP (zG Z D cl tys A ad gh wr H0 ws0 nu0 nL) (fun H locs pc ls st => W p l e R s m args below meth c H locs ce sl Q (F0 m pc ls st)) pc (env, cd, L, st, fa, me) := by
  intro nu ls stc ws H locs hG
  obtain ⟨hH, hN, hL, hS, hF, hM⟩ := hG
  obtain ⟨v, h1, x, rfl, h2⟩ := hL.2.2.2 i _ ha (by simp)
  exact row H locs ls stc x h1 (k nu ls _ ws H locs ⟨hH, hN, hL, ⟨⟨x, rfl, h2⟩, hS⟩, hF, hM⟩)
theorem zs_ldL {i n n2 : Nat} {kk k2 : Int} {pc' : Nat} (ha : L[i]? = some (2, n, kk, n2, k2)) (row : ∀ (H : Heap) (locs : List Loc) (ls : Array Slot) (rest : List Value) (x : Int64), ls[i]? = some (.val (.long x)) → W p l e R s m args below meth c H locs ce sl Q (F0 m pc' ls (.long x :: rest)) → W p l e R s m args below meth c H locs ce sl Q (F0 m pc ls rest))
    (k : zWP (zG Z D cl tys A ad gh wr H0 ws0 nu0 nL) (fun H locs pc ls st => W p l e R s m args below meth c H locs ce sl Q (F0 m pc ls st)) pc' (env, cd, L, (2, n, kk, 0, 0) :: st, fa, me)) : zWP (zG Z D cl tys A ad gh wr H0 ws0 nu0 nL) (fun H locs pc ls st => W p l e R s m args below meth c H locs ce sl Q (F0 m pc ls st)) pc (env, cd, L, st, fa, me) := by
  intro nu ls stc ws H locs hG
  obtain ⟨hH, hN, hL, hS, hF, hM⟩ := hG
  obtain ⟨v, h1, x, rfl, h2⟩ := hL.2.2.2 i _ ha (by simp)
  exact row H locs ls stc x h1 (k nu ls _ ws H locs ⟨hH, hN, hL, ⟨⟨x, rfl, h2⟩, hS⟩, hF, hM⟩)
theorem zs_ldA {i n n2 : Nat} {kk k2 : Int} {pc' : Nat} (ha : L[i]? = some (3, n, kk, n2, k2)) (row : ∀ (H : Heap) (locs : List Loc) (ls : Array Slot) (rest : List Value) (x : Nat), ls[i]? = some (.val (.ref x)) → W p l e R s m args below meth c H locs ce sl Q (F0 m pc' ls (.ref x :: rest)) → W p l e R s m args below meth c H locs ce sl Q (F0 m pc ls rest))
    (k : zWP (zG Z D cl tys A ad gh wr H0 ws0 nu0 nL) (fun H locs pc ls st => W p l e R s m args below meth c H locs ce sl Q (F0 m pc ls st)) pc' (env, cd, L, (3, n, kk, 0, 0) :: st, fa, me)) : zWP (zG Z D cl tys A ad gh wr H0 ws0 nu0 nL) (fun H locs pc ls st => W p l e R s m args below meth c H locs ce sl Q (F0 m pc ls st)) pc (env, cd, L, st, fa, me) := by
  intro nu ls stc ws H locs hG
  obtain ⟨hH, hN, hL, hS, hF, hM⟩ := hG
  obtain ⟨v, h1, x, rfl, h2⟩ := hL.2.2.2 i _ ha (by simp)
  exact row H locs ls stc _ h1 (k nu ls _ ws H locs ⟨hH, hN, hL, ⟨⟨x, rfl, h2⟩, hS⟩, hF, hM⟩)
/-- stores -/
theorem zs_stI {i n n2 : Nat} {kk k2 : Int} {pc' : Nat} (hi : i < L.length) (row : ∀ (H : Heap) (locs : List Loc) (ls : Array Slot) (rest : List Value) (x : Int32), lv_has ls nL (zlv ls) → i < nL → (∀ ls' : Array Slot, lv_has ls' nL ((i, Value.int x) :: (zlv ls).filter (fun q => !(q.1 == i) && !(q.1 + 1 == i && q.2.category == 2))) → W p l e R s m args below meth c H locs ce sl Q (F0 m pc' ls' rest)) → W p l e R s m args below meth c H locs ce sl Q (F0 m pc ls (.int x :: rest)))
    (k : zWP (zG Z D cl tys A ad gh wr H0 ws0 nu0 nL) (fun H locs pc ls st => W p l e R s m args below meth c H locs ce sl Q (F0 m pc ls st)) pc' (env, cd, zst1 L i (1, n, kk, 0, 0), st, fa, me)) : zWP (zG Z D cl tys A ad gh wr H0 ws0 nu0 nL) (fun H locs pc ls st => W p l e R s m args below meth c H locs ce sl Q (F0 m pc ls st)) pc (env, cd, L, (1, n, kk, n2, k2) :: st, fa, me) := by
  intro nu ls stc ws H locs hG
  obtain ⟨hH, hN, hL, hS, hF, hM⟩ := hG
  match stc, hS with
  | v :: stc, ⟨⟨x, hv, h2⟩, hS⟩ =>
    subst hv
    rw [hL.2.1] at hi
    exact row H locs ls stc x (zlv_has hL.1 hL.2.2.1) hi (fun ls' hl => k nu ls' _ ws H locs ⟨hH, hN, hL.st1 hi (a := (1, n, kk, 0, 0)) ⟨x, rfl, h2⟩ hl, hS, hF, hM⟩)
theorem zs_stA {i n n2 : Nat} {kk k2 : Int} {pc' : Nat} (hi : i < L.length) (row : ∀ (H : Heap) (locs : List Loc) (ls : Array Slot) (rest : List Value) (x : Nat), lv_has ls nL (zlv ls) → i < nL → (∀ ls' : Array Slot, lv_has ls' nL ((i, Value.ref x) :: (zlv ls).filter (fun q => !(q.1 == i) && !(q.1 + 1 == i && q.2.category == 2))) → W p l e R s m args below meth c H locs ce sl Q (F0 m pc' ls' rest)) → W p l e R s m args below meth c H locs ce sl Q (F0 m pc ls (.ref x :: rest)))
    (k : zWP (zG Z D cl tys A ad gh wr H0 ws0 nu0 nL) (fun H locs pc ls st => W p l e R s m args below meth c H locs ce sl Q (F0 m pc ls st)) pc' (env, cd, zst1 L i (3, n, kk, 0, 0), st, fa, me)) : zWP (zG Z D cl tys A ad gh wr H0 ws0 nu0 nL) (fun H locs pc ls st => W p l e R s m args below meth c H locs ce sl Q (F0 m pc ls st)) pc (env, cd, L, (3, n, kk, n2, k2) :: st, fa, me) := by
  intro nu ls stc ws H locs hG
  obtain ⟨hH, hN, hL, hS, hF, hM⟩ := hG
  match stc, hS with
  | v :: stc, ⟨⟨x, hv, h2⟩, hS⟩ =>
    subst hv
    rw [hL.2.1] at hi
    exact row H locs ls stc _ (zlv_has hL.1 hL.2.2.1) hi (fun ls' hl => k nu ls' _ ws H locs ⟨hH, hN, hL.st1 hi (a := (3, n, kk, 0, 0)) ⟨x, rfl, h2⟩ hl, hS, hF, hM⟩)
theorem zs_stL {i n n2 : Nat} {kk k2 : Int} {pc' : Nat} (hi : i + 1 < L.length) (row : ∀ (H : Heap) (locs : List Loc) (ls : Array Slot) (rest : List Value) (x : Int64), lv_has ls nL (zlv ls) → i + 1 < nL → (∀ ls' : Array Slot, lv_has ls' nL ((i, Value.long x) :: (zlv ls).filter (fun q => !(q.1 == i) && (!(q.1 == i + 1) && !(q.1 + 1 == i && q.2.category == 2)))) → W p l e R s m args below meth c H locs ce sl Q (F0 m pc' ls' rest)) → W p l e R s m args below meth c H locs ce sl Q (F0 m pc ls (.long x :: rest)))
    (k : zWP (zG Z D cl tys A ad gh wr H0 ws0 nu0 nL) (fun H locs pc ls st => W p l e R s m args below meth c H locs ce sl Q (F0 m pc ls st)) pc' (env, cd, zst2 L i (2, n, kk, 0, 0), st, fa, me)) : zWP (zG Z D cl tys A ad gh wr H0 ws0 nu0 nL) (fun H locs pc ls st => W p l e R s m args below meth c H locs ce sl Q (F0 m pc ls st)) pc (env, cd, L, (2, n, kk, n2, k2) :: st, fa, me) := by
  intro nu ls stc ws H locs hG
  obtain ⟨hH, hN, hL, hS, hF, hM⟩ := hG
  match stc, hS with
  | v :: stc, ⟨⟨x, hv, h2⟩, hS⟩ =>
    subst hv
    rw [hL.2.1] at hi
    exact row H locs ls stc x (zlv_has hL.1 hL.2.2.1) hi (fun ls' hl => k nu ls' _ ws H locs ⟨hH, hN, hL.st2 hi (a := (2, n, kk, 0, 0)) ⟨x, rfl, h2⟩ hl, hS, hF, hM⟩)
/-- a local counted on -/
def zinc (sg : zS) (i : Nat) (r : zRes) : zS := match r with
  | .inl a => (sg.1, sg.2.1, zst1 sg.2.2.1 i (1, a.1, a.2, 0, 0), sg.2.2.2)
  | .inr iv => (sg.1 ++ [iv], sg.2.1, zst1 sg.2.2.1 i (1, sg.1.length, 0, 0, 0), sg.2.2.2)
theorem zs_iinc (hx : p.tables.exec = Jvm.exec) (hb : c.code = cc) (h0 : 0 < Z.2.2 ∧ gh 0 = 0) {i n n2 : Nat} {kk k2 d : Int} (hd : decode cc pc = .ok (.iinc i d, 3)) (hr : -2147483648 ≤ d ∧ d ≤ 2147483647) (ha : L[i]? = some (1, n, kk, n2, k2))
    (k : zWP (zG Z D cl tys A ad gh wr H0 ws0 nu0 nL) (fun H locs pc ls st => W p l e R s m args below meth c H locs ce sl Q (F0 m pc ls st)) (pc + 3) (zinc (env, cd, L, st, fa, me) i (zaddI env (n, kk) (0, d)))) : zWP (zG Z D cl tys A ad gh wr H0 ws0 nu0 nL) (fun H locs pc ls st => W p l e R s m args below meth c H locs ce sl Q (F0 m pc ls st)) pc (env, cd, L, st, fa, me) := by
  intro nu ls stc ws H locs hG
  obtain ⟨hH, hN, hL, hS, hF, hM⟩ := hG
  obtain ⟨v, h1, x, rfl, h2⟩ := hL.2.2.2 i _ ha (by simp)
  obtain ⟨j, hj⟩ := List.getElem?_of_mem (zlv_mem h1)
  have hi : i < nL := by rw [← hL.2.1]; exact (List.getElem?_eq_some_iff.mp ha).1
  refine lv_iinc hx hb hd (zlv_has hL.1 hL.2.2.1) hj rfl hi rfl (fun ls' hl => ?_)
  have ok : zRok nu (zaddI env (n, kk) (0, d)) (x + Int32.ofInt d).toInt := zaddI_ok (a := (n, kk)) (b := (0, d)) hN.1 h2 (by rw [zofI hr.1 hr.2]; exact hN.cst h0 d)
  generalize zaddI env (n, kk) (0, d) = r at ok k
  cases r with
  | inl a => exact k nu ls' _ ws H locs ⟨hH, hN, hL.st1 hi (a := (1, a.1, a.2, 0, 0)) ⟨_, rfl, ok⟩ hl, hS, hF, hM⟩
  | inr iv => exact k (nu ++ [(x + Int32.ofInt d).toInt]) ls' _ ws H locs ⟨hH, hN.push ok, hL.app.st1 hi (a := (1, env.length, 0, 0, 0)) ⟨_, rfl, zV.new hN.1 _⟩ hl, hS.mono fun a v h => h.app, hF.app, hM.app⟩
/-- two ints to one: 'ok' is what the row wants of them -/
theorem zs_bin {n1 n2 a1 a2 : Nat} {k1 k2 b1 b2 : Int} {pc' : Nat} {f : Int32 → Int32 → Int32} {r : zRes} (ok : Int32 → Prop) (hok : ∀ (nu : List Int) (y : Int32), zEnv env nu → zV nu n2 k2 y.toInt → ok y)
    (row : ∀ (H : Heap) (locs : List Loc) (ls : Array Slot) (rest : List Value) (x y : Int32), ok y → W p l e R s m args below meth c H locs ce sl Q (F0 m pc' ls (.int (f x y) :: rest)) → W p l e R s m args below meth c H locs ce sl Q (F0 m pc ls (.int y :: .int x :: rest)))
    (hr : ∀ (nu : List Int) (x y : Int32), zN Z.2.2 gh nu0 nu env cd → zV nu n1 k1 x.toInt → zV nu n2 k2 y.toInt → zRok nu r (f x y).toInt)
    (k : zWP (zG Z D cl tys A ad gh wr H0 ws0 nu0 nL) (fun H locs pc ls st => W p l e R s m args below meth c H locs ce sl Q (F0 m pc ls st)) pc' (zpush 1 (env, cd, L, st, fa, me) st r)) : zWP (zG Z D cl tys A ad gh wr H0 ws0 nu0 nL) (fun H locs pc ls st => W p l e R s m args below meth c H locs ce sl Q (F0 m pc ls st)) pc (env, cd, L, (1, n2, k2, a2, b2) :: (1, n1, k1, a1, b1) :: st, fa, me) := by
  intro nu ls stc ws H locs hG
  obtain ⟨hH, hN, hL, hS, hF, hM⟩ := hG
  match stc, hS with
  | v2 :: v1 :: stc, ⟨⟨y, hy, h2⟩, ⟨x, hx', h1⟩, hS⟩ =>
    subst hy
    subst hx'
    obtain ⟨nu', h⟩ := zG.pushI (sg := (env, cd, L, st, fa, me)) (stc' := stc) ⟨hH, hN, hL, hS, hF, hM⟩ hS (hr nu x y hN h1 h2)
    exact row H locs ls stc x y (hok nu y hN.1 h2) (k nu' ls _ ws H locs h)
theorem zs_binL {n1 n2 a1 a2 : Nat} {k1 k2 b1 b2 : Int} {pc' : Nat} {f : Int64 → Int64 → Int64} {r : zRes}
    (row : ∀ (H : Heap) (locs : List Loc) (ls : Array Slot) (rest : List Value) (x y : Int64), W p l e R s m args below meth c H locs ce sl Q (F0 m pc' ls (.long (f x y) :: rest)) → W p l e R s m args below meth c H locs ce sl Q (F0 m pc ls (.long y :: .long x :: rest)))
    (hr : ∀ (nu : List Int) (x y : Int64), zN Z.2.2 gh nu0 nu env cd → zV nu n1 k1 x.toInt → zV nu n2 k2 y.toInt → zRok nu r (f x y).toInt)
    (k : zWP (zG Z D cl tys A ad gh wr H0 ws0 nu0 nL) (fun H locs pc ls st => W p l e R s m args below meth c H locs ce sl Q (F0 m pc ls st)) pc' (zpush 2 (env, cd, L, st, fa, me) st r)) : zWP (zG Z D cl tys A ad gh wr H0 ws0 nu0 nL) (fun H locs pc ls st => W p l e R s m args below meth c H locs ce sl Q (F0 m pc ls st)) pc (env, cd, L, (2, n2, k2, a2, b2) :: (2, n1, k1, a1, b1) :: st, fa, me) := by
  intro nu ls stc ws H locs hG
  obtain ⟨hH, hN, hL, hS, hF, hM⟩ := hG
  match stc, hS with
  | v2 :: v1 :: stc, ⟨⟨y, hy, h2⟩, ⟨x, hx', h1⟩, hS⟩ =>
    subst hy
    subst hx'
    obtain ⟨nu', h⟩ := zG.pushL (sg := (env, cd, L, st, fa, me)) (stc' := stc) ⟨hH, hN, hL, hS, hF, hM⟩ hS (hr nu x y hN h1 h2)
    exact row H locs ls stc x y (k nu' ls _ ws H locs h)
/-- a long shifted by an int: any long -/
theorem zs_shL {n1 n2 a1 a2 : Nat} {k1 k2 b1 b2 : Int} {pc' : Nat} {f : Int64 → Int32 → Int64}
    (row : ∀ (H : Heap) (locs : List Loc) (ls : Array Slot) (rest : List Value) (x : Int64) (y : Int32), W p l e R s m args below meth c H locs ce sl Q (F0 m pc' ls (.long (f x y) :: rest)) → W p l e R s m args below meth c H locs ce sl Q (F0 m pc ls (.int y :: .long x :: rest)))
    (k : zWP (zG Z D cl tys A ad gh wr H0 ws0 nu0 nL) (fun H locs pc ls st => W p l e R s m args below meth c H locs ce sl Q (F0 m pc ls st)) pc' (zpush 2 (env, cd, L, st, fa, me) st (.inr zFullL))) : zWP (zG Z D cl tys A ad gh wr H0 ws0 nu0 nL) (fun H locs pc ls st => W p l e R s m args below meth c H locs ce sl Q (F0 m pc ls st)) pc (env, cd, L, (1, n2, k2, a2, b2) :: (2, n1, k1, a1, b1) :: st, fa, me) := by
  intro nu ls stc ws H locs hG
  obtain ⟨hH, hN, hL, hS, hF, hM⟩ := hG
  match stc, hS with
  | v2 :: v1 :: stc, ⟨⟨y, hy, h2⟩, ⟨x, hx', h1⟩, hS⟩ =>
    subst hy
    subst hx'
    obtain ⟨nu', h⟩ := zG.pushL (sg := (env, cd, L, st, fa, me)) (stc' := stc) (x := f x y) (r := .inr zFullL) ⟨hH, hN, hL, hS, hF, hM⟩ hS (zFullL_in _)
    exact row H locs ls stc x y (k nu' ls _ ws H locs h)
/-- one int to one -/
theorem zs_una {n1 a1 : Nat} {k1 b1 : Int} {pc' : Nat} {f : Int32 → Int32} {r : zRes}
    (row : ∀ (H : Heap) (locs : List Loc) (ls : Array Slot) (rest : List Value) (x : Int32), W p l e R s m args below meth c H locs ce sl Q (F0 m pc' ls (.int (f x) :: rest)) → W p l e R s m args below meth c H locs ce sl Q (F0 m pc ls (.int x :: rest)))
    (hr : ∀ (nu : List Int) (x : Int32), zN Z.2.2 gh nu0 nu env cd → zV nu n1 k1 x.toInt → zRok nu r (f x).toInt)
    (k : zWP (zG Z D cl tys A ad gh wr H0 ws0 nu0 nL) (fun H locs pc ls st => W p l e R s m args below meth c H locs ce sl Q (F0 m pc ls st)) pc' (zpush 1 (env, cd, L, st, fa, me) st r)) : zWP (zG Z D cl tys A ad gh wr H0 ws0 nu0 nL) (fun H locs pc ls st => W p l e R s m args below meth c H locs ce sl Q (F0 m pc ls st)) pc (env, cd, L, (1, n1, k1, a1, b1) :: st, fa, me) := by
  intro nu ls stc ws H locs hG
  obtain ⟨hH, hN, hL, hS, hF, hM⟩ := hG
  match stc, hS with
  | v1 :: stc, ⟨⟨x, hx', h1⟩, hS⟩ =>
    subst hx'
    obtain ⟨nu', h⟩ := zG.pushI (sg := (env, cd, L, st, fa, me)) (stc' := stc) ⟨hH, hN, hL, hS, hF, hM⟩ hS (hr nu x hN h1)
    exact row H locs ls stc x (k nu' ls _ ws H locs h)
theorem zs_i2l (hx : p.tables.exec = Jvm.exec) (hb : c.code = cc) {n1 a1 : Nat} {k1 b1 : Int} (hd : decode cc pc = .ok (.i2l, 1)) (k : zWP (zG Z D cl tys A ad gh wr H0 ws0 nu0 nL) (fun H locs pc ls st => W p l e R s m args below meth c H locs ce sl Q (F0 m pc ls st)) (pc + 1) (env, cd, L, (2, n1, k1, 0, 0) :: st, fa, me)) : zWP (zG Z D cl tys A ad gh wr H0 ws0 nu0 nL) (fun H locs pc ls st => W p l e R s m args below meth c H locs ce sl Q (F0 m pc ls st)) pc (env, cd, L, (1, n1, k1, a1, b1) :: st, fa, me) := by
  intro nu ls stc ws H locs hG
  obtain ⟨hH, hN, hL, hS, hF, hM⟩ := hG
  match stc, hS with
  | v1 :: stc, ⟨⟨x, hx', h1⟩, hS⟩ =>
    subst hx'
    exact lv_i2l hx hb hd rfl (k nu ls _ ws H locs ⟨hH, hN, hL, ⟨⟨x.toInt64, rfl, by rw [Int32.toInt_toInt64]; exact h1⟩, hS⟩, hF, hM⟩)
def zl2i (env : List zIv) (a : Nat × Int) : zRes := if zI32 (zlo env a.1 + a.2) (zhi env a.1 + a.2) = true then .inl a else .inr zFull
theorem zs_l2i (hx : p.tables.exec = Jvm.exec) (hb : c.code = cc) {n1 a1 : Nat} {k1 b1 : Int} (hd : decode cc pc = .ok (.l2i, 1)) (k : zWP (zG Z D cl tys A ad gh wr H0 ws0 nu0 nL) (fun H locs pc ls st => W p l e R s m args below meth c H locs ce sl Q (F0 m pc ls st)) (pc + 1) (zpush 1 (env, cd, L, st, fa, me) st (zl2i env (n1, k1)))) : zWP (zG Z D cl tys A ad gh wr H0 ws0 nu0 nL) (fun H locs pc ls st => W p l e R s m args below meth c H locs ce sl Q (F0 m pc ls st)) pc (env, cd, L, (2, n1, k1, a1, b1) :: st, fa, me) := by
  intro nu ls stc ws H locs hG
  obtain ⟨hH, hN, hL, hS, hF, hM⟩ := hG
  match stc, hS with
  | v1 :: stc, ⟨⟨x, hx', h1⟩, hS⟩ =>
    subst hx'
    have ok : zRok nu (zl2i env (n1, k1)) x.toInt32.toInt := by
      unfold zl2i
      have bd := h1.bd hN.1
      by_cases h : zI32 (zlo env (n1, k1).1 + (n1, k1).2) (zhi env (n1, k1).1 + (n1, k1).2) = true
      · rw [if_pos h]
        unfold zI32 at h
        rw [Bool.and_eq_true, decide_eq_true_eq, decide_eq_true_eq] at h
        show zV nu n1 k1 x.toInt32.toInt
        rw [Int64.toInt_toInt32, zbmod (by simp only at h bd ⊢; omega) (by simp only at h bd ⊢; omega)]
        exact h1
      · rw [if_neg h]
        exact zFull_in _
    obtain ⟨nu', h⟩ := zG.pushI (sg := (env, cd, L, st, fa, me)) (stc' := stc) ⟨hH, hN, hL, hS, hF, hM⟩ hS ok
    exact lv_l2i hx hb hd rfl (k nu' ls _ ws H locs h)
theorem zs_lcmp (hx : p.tables.exec = Jvm.exec) (hb : c.code = cc) {n1 n2 a1 a2 : Nat} {k1 k2 b1 b2 : Int} (hd : decode cc pc = .ok (.lcmp, 1)) (k : zWP (zG Z D cl tys A ad gh wr H0 ws0 nu0 nL) (fun H locs pc ls st => W p l e R s m args below meth c H locs ce sl Q (F0 m pc ls st)) (pc + 1) (env, cd, L, (4, n1, k1, n2, k2) :: st, fa, me)) : zWP (zG Z D cl tys A ad gh wr H0 ws0 nu0 nL) (fun H locs pc ls st => W p l e R s m args below meth c H locs ce sl Q (F0 m pc ls st)) pc (env, cd, L, (2, n2, k2, a2, b2) :: (2, n1, k1, a1, b1) :: st, fa, me) := by
  intro nu ls stc ws H locs hG
  obtain ⟨hH, hN, hL, hS, hF, hM⟩ := hG
  match stc, hS with
  | v2 :: v1 :: stc, ⟨⟨y, hy, h2⟩, ⟨x, hx', h1⟩, hS⟩ =>
    subst hy
    subst hx'
    exact W.lcmp hx hb hd (k nu ls _ ws H locs ⟨hH, hN, hL, ⟨⟨x, y, rfl, h1, h2⟩, hS⟩, hF, hM⟩)
/-- quotients and rests -/
def zdr (op : Nat) (sg : zS) (rest : List zAV) (a b : Nat × Int) : Option zS :=
  if zcst sg.1 b = true ∧ 0 < zlo sg.1 b.1 + b.2 then
    (match sg.2.2.2.2.2.find? (fun q => q.1 == op && (q.2.1 == a.1 && (q.2.2.1 == a.2 && q.2.2.2.1 == zlo sg.1 b.1 + b.2))) with
      | some q => some (sg.1, sg.2.1, sg.2.2.1, (1, q.2.2.2.2.1, q.2.2.2.2.2, 0, 0) :: rest, sg.2.2.2.2.1, sg.2.2.2.2.2)
      | none => some (sg.1 ++ [if op = 0 then zdivB (zlo sg.1 a.1 + a.2) (zhi sg.1 a.1 + a.2) (zlo sg.1 b.1 + b.2) else zremB (zlo sg.1 a.1 + a.2) (zlo sg.1 b.1 + b.2)], sg.2.1, sg.2.2.1, (1, sg.1.length, 0, 0, 0) :: rest, sg.2.2.2.2.1, (op, a.1, a.2, zlo sg.1 b.1 + b.2, sg.1.length, 0) :: sg.2.2.2.2.2))
  else if op = 1 ∧ 0 < zlo sg.1 b.1 + b.2 then some (zpush 1 sg rest (.inr (zremB (zlo sg.1 a.1 + a.2) (zhi sg.1 b.1 + b.2))))
  else if znz sg.1 b = true then some (zpush 1 sg rest (.inr zFull))
  else none
theorem zdr_ok {op : Nat} {nu : List Int} {ls : Array Slot} {stc stc' : List Value} {ws : va_W} {H : Heap} {locs : List Loc} {sg sg' : zS} {rest : List zAV} {a b : Nat × Int} {x y r : Int32} (h : zG Z D cl tys A ad gh wr H0 ws0 nu0 nL sg nu ls stc' ws H locs) (hs : zall (zm ad nu) rest stc)
    (hx : zV nu a.1 a.2 x.toInt) (hy : zV nu b.1 b.2 y.toInt) (hop : op = 0 ∨ op = 1) (hr : 0 < y.toInt → r.toInt = zpure op x.toInt y.toInt) (he : zdr op sg rest a b = some sg') : ¬ y = 0 ∧ ∃ nu', zG Z D cl tys A ad gh wr H0 ws0 nu0 nL sg' nu' ls (.int r :: stc) ws H locs := by
  have hE := h.2.1.1
  have bx := hx.bd hE
  have by' := hy.bd hE
  have pos : 0 < y.toInt → ¬ y = 0 := fun q z => by rw [z, Int32.toInt_zero] at q; omega
  unfold zdr at he
  by_cases h1 : zcst sg.1 b = true ∧ 0 < zlo sg.1 b.1 + b.2
  · rw [if_pos h1] at he
    have ey := zcst_ok h1.1 hE hy
    have hp : 0 < y.toInt := by omega
    have er := hr hp
    refine ⟨pos hp, ?_⟩
    split at he
    · rename_i q hq
      cases he
      have hm := List.mem_of_find?_eq_some hq
      have hq2 := List.find?_some hq
      simp only [Bool.and_eq_true, beq_iff_eq] at hq2
      obtain ⟨z, w, g1, g2, g3⟩ := h.2.2.2.2.2 q hm
      rw [hq2.2.1, hq2.2.2.1] at g1
      have ez := g1.eq hx
      rw [g3, hq2.1, ez, hq2.2.2.2, ← ey, ← er] at g2
      exact ⟨nu, h.1, h.2.1, h.2.2.1, ⟨⟨r, rfl, g2⟩, hs⟩, h.2.2.2.2.1, h.2.2.2.2.2⟩
    · cases he
      have hi : zInIv r.toInt (if op = 0 then zdivB (zlo sg.1 a.1 + a.2) (zhi sg.1 a.1 + a.2) (zlo sg.1 b.1 + b.2) else zremB (zlo sg.1 a.1 + a.2) (zlo sg.1 b.1 + b.2)) := by
        rw [er]
        rcases hop with rfl | rfl
        · show zInIv _ (zdivB (zlo sg.1 a.1 + a.2) (zhi sg.1 a.1 + a.2) (zlo sg.1 b.1 + b.2))
          rw [← ey]
          exact zdivB_ok hp bx.1 bx.2
        · exact zremB_ok hp bx.1 (by omega)
      refine ⟨nu ++ [r.toInt], h.1, h.2.1.push hi, h.2.2.1.app, ⟨⟨r, rfl, zV.new hE _⟩, hs.mono fun a v h => h.app⟩, h.2.2.2.2.1.app, ?_⟩
      intro q hq
      rcases List.mem_cons.mp hq with rfl | hq
      · exact ⟨x.toInt, r.toInt, hx.app, zV.new hE _, by rw [er, ey]⟩
      · exact h.2.2.2.2.2.app q hq
  · rw [if_neg h1] at he
    by_cases h2 : op = 1 ∧ 0 < zlo sg.1 b.1 + b.2
    · rw [if_pos h2] at he
      cases he
      have hp : 0 < y.toInt := by omega
      have er := hr hp
      rw [h2.1] at er
      exact ⟨pos hp, h.pushI hs (r := .inr _) (by rw [er]; exact zremB_ok hp bx.1 (by omega))⟩
    · rw [if_neg h2] at he
      by_cases h3 : znz sg.1 b = true
      · rw [if_pos h3] at he
        cases he
        exact ⟨znz_ok h3 hE hy, h.pushI hs (r := .inr _) (zFull_in _)⟩
      · rw [if_neg h3] at he
        cases he
theorem zs_div (hx : p.tables.exec = Jvm.exec) (hb : c.code = cc) {n1 n2 a1 a2 : Nat} {k1 k2 b1 b2 : Int} {sg' : zS} (hd : decode cc pc = .ok (.idiv, 1)) (he : zdr 0 (env, cd, L, st, fa, me) st (n1, k1) (n2, k2) = some sg') (k : zWP (zG Z D cl tys A ad gh wr H0 ws0 nu0 nL) (fun H locs pc ls st => W p l e R s m args below meth c H locs ce sl Q (F0 m pc ls st)) (pc + 1) sg') : zWP (zG Z D cl tys A ad gh wr H0 ws0 nu0 nL) (fun H locs pc ls st => W p l e R s m args below meth c H locs ce sl Q (F0 m pc ls st)) pc (env, cd, L, (1, n2, k2, a2, b2) :: (1, n1, k1, a1, b1) :: st, fa, me) := by
  intro nu ls stc ws H locs hG
  obtain ⟨hH, hN, hL, hS, hF, hM⟩ := hG
  match stc, hS with
  | v2 :: v1 :: stc, ⟨⟨y, hy, h2⟩, ⟨x, hx', h1⟩, hS⟩ =>
    subst hy
    subst hx'
    obtain ⟨hz, nu', h⟩ := zdr_ok (sg := (env, cd, L, st, fa, me)) (stc' := stc) (r := x / y) ⟨hH, hN, hL, hS, hF, hM⟩ hS h1 h2 (Or.inl rfl) (fun hp => zdivI hp) he
    exact lv_idiv hx hb hd hz (k nu' ls _ ws H locs h)
theorem zs_rem (hx : p.tables.exec = Jvm.exec) (hb : c.code = cc) {n1 n2 a1 a2 : Nat} {k1 k2 b1 b2 : Int} {sg' : zS} (hd : decode cc pc = .ok (.irem, 1)) (he : zdr 1 (env, cd, L, st, fa, me) st (n1, k1) (n2, k2) = some sg') (k : zWP (zG Z D cl tys A ad gh wr H0 ws0 nu0 nL) (fun H locs pc ls st => W p l e R s m args below meth c H locs ce sl Q (F0 m pc ls st)) (pc + 1) sg') : zWP (zG Z D cl tys A ad gh wr H0 ws0 nu0 nL) (fun H locs pc ls st => W p l e R s m args below meth c H locs ce sl Q (F0 m pc ls st)) pc (env, cd, L, (1, n2, k2, a2, b2) :: (1, n1, k1, a1, b1) :: st, fa, me) := by
  intro nu ls stc ws H locs hG
  obtain ⟨hH, hN, hL, hS, hF, hM⟩ := hG
  match stc, hS with
  | v2 :: v1 :: stc, ⟨⟨y, hy, h2⟩, ⟨x, hx', h1⟩, hS⟩ =>
    subst hy
    subst hx'
    obtain ⟨hz, nu', h⟩ := zdr_ok (sg := (env, cd, L, st, fa, me)) (stc' := stc) (r := x - x / y * y) ⟨hH, hN, hL, hS, hF, hM⟩ hS h1 h2 (Or.inr rfl) (fun hp => zremI hp) he
    exact lv_irem hx hb hd hz (k nu' ls _ ws H locs h)
/-- branches -/
theorem zs_icmp {op n1 n2 a1 a2 : Nat} {k1 k2 b1 b2 : Int} {tgt : Nat} {P : Int32 → Int32 → Prop} (hP : ∀ x y : Int32, (P x y → zrel op x.toInt y.toInt) ∧ (¬ P x y → zrel (zopn op) x.toInt y.toInt))
    (row : ∀ (H : Heap) (locs : List Loc) (ls : Array Slot) (rest : List Value) (x y : Int32), (P x y → W p l e R s m args below meth c H locs ce sl Q (F0 m tgt ls rest)) → (¬ P x y → W p l e R s m args below meth c H locs ce sl Q (F0 m (pc + 3) ls rest)) → W p l e R s m args below meth c H locs ce sl Q (F0 m pc ls (.int y :: .int x :: rest)))
    (kt : zWP (zG Z D cl tys A ad gh wr H0 ws0 nu0 nL) (fun H locs pc ls st => W p l e R s m args below meth c H locs ce sl Q (F0 m pc ls st)) tgt ((zas op env cd (n1, k1) (n2, k2)).1, (zas op env cd (n1, k1) (n2, k2)).2, L, st, fa, me))
    (kf : zWP (zG Z D cl tys A ad gh wr H0 ws0 nu0 nL) (fun H locs pc ls st => W p l e R s m args below meth c H locs ce sl Q (F0 m pc ls st)) (pc + 3) ((zas (zopn op) env cd (n1, k1) (n2, k2)).1, (zas (zopn op) env cd (n1, k1) (n2, k2)).2, L, st, fa, me)) : zWP (zG Z D cl tys A ad gh wr H0 ws0 nu0 nL) (fun H locs pc ls st => W p l e R s m args below meth c H locs ce sl Q (F0 m pc ls st)) pc (env, cd, L, (1, n2, k2, a2, b2) :: (1, n1, k1, a1, b1) :: st, fa, me) := by
  intro nu ls stc ws H locs hG
  obtain ⟨hH, hN, hL, hS, hF, hM⟩ := hG
  match stc, hS with
  | v2 :: v1 :: stc, ⟨⟨y, hy, h2⟩, ⟨x, hx', h1⟩, hS⟩ =>
    subst hy
    subst hx'
    refine row H locs ls stc x y (fun h => ?_) (fun h => ?_)
    · have z := zas_ok (a := (n1, k1)) (b := (n2, k2)) hN.1 hN.2.1 h1 h2 ((hP x y).1 h)
      exact kt nu ls _ ws H locs ⟨hH, ⟨z.1, z.2, hN.2.2⟩, hL, hS, hF, hM⟩
    · have z := zas_ok (a := (n1, k1)) (b := (n2, k2)) hN.1 hN.2.1 h1 h2 ((hP x y).2 h)
      exact kf nu ls _ ws H locs ⟨hH, ⟨z.1, z.2, hN.2.2⟩, hL, hS, hF, hM⟩
theorem zs_if (h0 : 0 < Z.2.2 ∧ gh 0 = 0) {op n1 a1 : Nat} {k1 b1 : Int} {tgt : Nat} {P : Int32 → Prop} (hP : ∀ x : Int32, (P x → zrel op x.toInt 0) ∧ (¬ P x → zrel (zopn op) x.toInt 0))
    (row : ∀ (H : Heap) (locs : List Loc) (ls : Array Slot) (rest : List Value) (x : Int32), (P x → W p l e R s m args below meth c H locs ce sl Q (F0 m tgt ls rest)) → (¬ P x → W p l e R s m args below meth c H locs ce sl Q (F0 m (pc + 3) ls rest)) → W p l e R s m args below meth c H locs ce sl Q (F0 m pc ls (.int x :: rest)))
    (kt : zWP (zG Z D cl tys A ad gh wr H0 ws0 nu0 nL) (fun H locs pc ls st => W p l e R s m args below meth c H locs ce sl Q (F0 m pc ls st)) tgt ((zas op env cd (n1, k1) (0, 0)).1, (zas op env cd (n1, k1) (0, 0)).2, L, st, fa, me))
    (kf : zWP (zG Z D cl tys A ad gh wr H0 ws0 nu0 nL) (fun H locs pc ls st => W p l e R s m args below meth c H locs ce sl Q (F0 m pc ls st)) (pc + 3) ((zas (zopn op) env cd (n1, k1) (0, 0)).1, (zas (zopn op) env cd (n1, k1) (0, 0)).2, L, st, fa, me)) : zWP (zG Z D cl tys A ad gh wr H0 ws0 nu0 nL) (fun H locs pc ls st => W p l e R s m args below meth c H locs ce sl Q (F0 m pc ls st)) pc (env, cd, L, (1, n1, k1, a1, b1) :: st, fa, me) := by
  intro nu ls stc ws H locs hG
  obtain ⟨hH, hN, hL, hS, hF, hM⟩ := hG
  match stc, hS with
  | v1 :: stc, ⟨⟨x, hx', h1⟩, hS⟩ =>
    subst hx'
    refine row H locs ls stc x (fun h => ?_) (fun h => ?_)
    · have z := zas_ok (a := (n1, k1)) (b := (0, 0)) hN.1 hN.2.1 h1 (hN.cst h0 0) ((hP x).1 h)
      exact kt nu ls _ ws H locs ⟨hH, ⟨z.1, z.2, hN.2.2⟩, hL, hS, hF, hM⟩
    · have z := zas_ok (a := (n1, k1)) (b := (0, 0)) hN.1 hN.2.1 h1 (hN.cst h0 0) ((hP x).2 h)
      exact kf nu ls _ ws H locs ⟨hH, ⟨z.1, z.2, hN.2.2⟩, hL, hS, hF, hM⟩
/-- behind a comparison of longs -/
theorem zs_ifL {op n1 n2 : Nat} {k1 k2 : Int} {tgt : Nat} {P : Int32 → Prop} (hP : ∀ x y : Int64, (P (lg_cmp x y) → zrel op x.toInt y.toInt) ∧ (¬ P (lg_cmp x y) → zrel (zopn op) x.toInt y.toInt))
    (row : ∀ (H : Heap) (locs : List Loc) (ls : Array Slot) (rest : List Value) (x : Int32), (P x → W p l e R s m args below meth c H locs ce sl Q (F0 m tgt ls rest)) → (¬ P x → W p l e R s m args below meth c H locs ce sl Q (F0 m (pc + 3) ls rest)) → W p l e R s m args below meth c H locs ce sl Q (F0 m pc ls (.int x :: rest)))
    (kt : zWP (zG Z D cl tys A ad gh wr H0 ws0 nu0 nL) (fun H locs pc ls st => W p l e R s m args below meth c H locs ce sl Q (F0 m pc ls st)) tgt ((zas op env cd (n1, k1) (n2, k2)).1, (zas op env cd (n1, k1) (n2, k2)).2, L, st, fa, me))
    (kf : zWP (zG Z D cl tys A ad gh wr H0 ws0 nu0 nL) (fun H locs pc ls st => W p l e R s m args below meth c H locs ce sl Q (F0 m pc ls st)) (pc + 3) ((zas (zopn op) env cd (n1, k1) (n2, k2)).1, (zas (zopn op) env cd (n1, k1) (n2, k2)).2, L, st, fa, me)) : zWP (zG Z D cl tys A ad gh wr H0 ws0 nu0 nL) (fun H locs pc ls st => W p l e R s m args below meth c H locs ce sl Q (F0 m pc ls st)) pc (env, cd, L, (4, n1, k1, n2, k2) :: st, fa, me) := by
  intro nu ls stc ws H locs hG
  obtain ⟨hH, hN, hL, hS, hF, hM⟩ := hG
  match stc, hS with
  | v1 :: stc, ⟨⟨x, y, hx', h1, h2⟩, hS⟩ =>
    subst hx'
    refine row H locs ls stc _ (fun h => ?_) (fun h => ?_)
    · have z := zas_ok (a := (n1, k1)) (b := (n2, k2)) hN.1 hN.2.1 h1 h2 ((hP x y).1 h)
      exact kt nu ls _ ws H locs ⟨hH, ⟨z.1, z.2, hN.2.2⟩, hL, hS, hF, hM⟩
    · have z := zas_ok (a := (n1, k1)) (b := (n2, k2)) hN.1 hN.2.1 h1 h2 ((hP x y).2 h)
      exact kf nu ls _ ws H locs ⟨hH, ⟨z.1, z.2, hN.2.2⟩, hL, hS, hF, hM⟩
theorem zs_goto (hx : p.tables.exec = Jvm.exec) (hb : c.code = cc) {off : Int} {tgt : Nat} (hd : decode cc pc = .ok (.goto off, 3)) (ht : (pc : Int) + off = (tgt : Int)) (k : zWP (zG Z D cl tys A ad gh wr H0 ws0 nu0 nL) (fun H locs pc ls st => W p l e R s m args below meth c H locs ce sl Q (F0 m pc ls st)) tgt (env, cd, L, st, fa, me)) : zWP (zG Z D cl tys A ad gh wr H0 ws0 nu0 nL) (fun H locs pc ls st => W p l e R s m args below meth c H locs ce sl Q (F0 m pc ls st)) pc (env, cd, L, st, fa, me) := by
  intro nu ls stc ws H locs hG
  exact lv_goto hx hb hd ht (k nu ls stc ws H locs hG)
/-- the stack -/
def zcat (a : zAV) : Nat := if a.1 = 2 then 2 else 1
theorem zcat_ok {nu : List Int} {a : zAV} {v : Value} (h : zm ad nu a v) (h0 : a.1 ≠ 0) : v.category = zcat a := by
  obtain ⟨tg, n, k, n2, k2⟩ := a
  match tg, h with
  | 0, _ => exact absurd rfl h0
  | 1, ⟨x, h1, h2⟩ => subst h1; rfl
  | 2, ⟨x, h1, h2⟩ => subst h1; rfl
  | 3, ⟨x, h1, h2⟩ => subst h1; rfl
  | 4, ⟨x, y, h1, h2, h3⟩ => subst h1; rfl
theorem zs_dup (hx : p.tables.exec = Jvm.exec) (hb : c.code = cc) {a : zAV} (h1 : a.1 ≠ 0) (h2 : a.1 ≠ 2) (hd : decode cc pc = .ok (.dup, 1)) (k : zWP (zG Z D cl tys A ad gh wr H0 ws0 nu0 nL) (fun H locs pc ls st => W p l e R s m args below meth c H locs ce sl Q (F0 m pc ls st)) (pc + 1) (env, cd, L, a :: a :: st, fa, me)) : zWP (zG Z D cl tys A ad gh wr H0 ws0 nu0 nL) (fun H locs pc ls st => W p l e R s m args below meth c H locs ce sl Q (F0 m pc ls st)) pc (env, cd, L, a :: st, fa, me) := by
  intro nu ls stc ws H locs hG
  obtain ⟨hH, hN, hL, hS, hF, hM⟩ := hG
  match stc, hS with
  | v1 :: stc, ⟨g1, hS⟩ => exact lv_dup hx hb hd (by rw [zcat_ok g1 h1]; simp [zcat, h2]) (k nu ls _ ws H locs ⟨hH, hN, hL, ⟨g1, g1, hS⟩, hF, hM⟩)
theorem zs_pop (hx : p.tables.exec = Jvm.exec) (hb : c.code = cc) {a : zAV} (h1 : a.1 ≠ 0) (h2 : a.1 ≠ 2) (hd : decode cc pc = .ok (.pop, 1)) (k : zWP (zG Z D cl tys A ad gh wr H0 ws0 nu0 nL) (fun H locs pc ls st => W p l e R s m args below meth c H locs ce sl Q (F0 m pc ls st)) (pc + 1) (env, cd, L, st, fa, me)) : zWP (zG Z D cl tys A ad gh wr H0 ws0 nu0 nL) (fun H locs pc ls st => W p l e R s m args below meth c H locs ce sl Q (F0 m pc ls st)) pc (env, cd, L, a :: st, fa, me) := by
  intro nu ls stc ws H locs hG
  obtain ⟨hH, hN, hL, hS, hF, hM⟩ := hG
  match stc, hS with
  | v1 :: stc, ⟨g1, hS⟩ => exact lv_pop hx hb hd (by rw [zcat_ok g1 h1]; simp [zcat, h2]) (k nu ls _ ws H locs ⟨hH, hN, hL, hS, hF, hM⟩)
end ZS
end
section
/-! FIELDS AND ELEMENTS -/
def zapart (env : List zIv) (a b : Nat × Int) : Bool := (a.1 == b.1 && !(a.2 == b.2)) || (decide (zhi env a.1 + a.2 < zlo env b.1 + b.2) || decide (zhi env b.1 + b.2 < zlo env a.1 + a.2))
theorem zapart_ok {env : List zIv} {nu : List Int} {a b : Nat × Int} {x y : Int} (h : zapart env a b = true) (he : zEnv env nu) (hx : zV nu a.1 a.2 x) (hy : zV nu b.1 b.2 y) : x ≠ y := by
  have bx := hx.bd he
  have by' := hy.bd he
  unfold zapart at h
  rcases Bool.or_eq_true_iff.mp h with h | h
  · rw [Bool.and_eq_true, beq_iff_eq] at h
    have h2 : a.2 ≠ b.2 := by
      intro q
      rw [q] at h
      simp at h
    obtain ⟨u, hu, rfl⟩ := hx
    obtain ⟨v, hv, rfl⟩ := hy
    rw [← h.1, hu] at hv
    cases hv
    omega
  · rcases Bool.or_eq_true_iff.mp h with h | h
    · rw [decide_eq_true_eq] at h; omega
    · rw [decide_eq_true_eq] at h; omega
/-- facts that outlive a write to field j of a cell, to any element of a cell -/
def zfk (env : List zIv) (fa : List zFa) (a : Nat × Int) (j : Nat) : List zFa := fa.filter (fun f => !(f.2.2.1 == j) || zapart env (f.1, f.2.1) a)
def zfkA (env : List zIv) (fa : List zFa) (a : Nat × Int) : List zFa := fa.filter (fun f => zapart env (f.1, f.2.1) a)
/-- one field, or element, of one cell is another -/
def zUpd (ws ws' : va_W) (q j : Nat) (v : Value) : Prop := (∀ q' : Nat, q' ≠ q → ws'[q']? = ws[q']?) ∧ (∀ j' : Nat, j' ≠ j → zfv ws' q j' = zfv ws q j') ∧ zfv ws' q j = some v
theorem zfv_ne {ws ws' : va_W} {q : Nat} (h : ws'[q]? = ws[q]?) (j : Nat) : zfv ws' q j = zfv ws q j := by
  unfold zfv
  rw [h]
theorem zF.put {ad : Nat → Nat} {nu : List Int} {env : List zIv} {ws ws' : va_W} {fa : List zFa} {a : Nat × Int} {q j : Nat} {av : zAV} {v : Value} (h : zF ad nu ws fa) (he : zEnv env nu) (ha : zV nu a.1 a.2 q) (hu : zUpd ws ws' q j v) (hv : zm ad nu av v) : zF ad nu ws' ((a.1, a.2, j, av) :: zfk env fa a j) := by
  intro f hf
  rcases List.mem_cons.mp hf with rfl | hf
  · exact ⟨q, v, ha, hu.2.2, hv⟩
  · obtain ⟨h1, h2⟩ := List.mem_filter.mp hf
    obtain ⟨q', v', g1, g2, g3⟩ := h f h1
    refine ⟨q', v', g1, ?_, g3⟩
    by_cases hq : q' = q
    · subst hq
      rcases Bool.or_eq_true_iff.mp h2 with h2 | h2
      · have hj : f.2.2.1 ≠ j := by
          intro z
          rw [z] at h2
          simp at h2
        rw [hu.2.1 _ hj]
        exact g2
      · exact absurd rfl (zapart_ok h2 he g1 ha)
    · rw [zfv_ne (hu.1 q' hq)]
      exact g2
theorem zF.putA {ad : Nat → Nat} {nu : List Int} {env : List zIv} {ws ws' : va_W} {fa : List zFa} {a : Nat × Int} {q : Nat} (h : zF ad nu ws fa) (he : zEnv env nu) (ha : zV nu a.1 a.2 q) (hu : ∀ q' : Nat, q' ≠ q → ws'[q']? = ws[q']?) : zF ad nu ws' (zfkA env fa a) := by
  intro f hf
  obtain ⟨h1, h2⟩ := List.mem_filter.mp hf
  obtain ⟨q', v', g1, g2, g3⟩ := h f h1
  refine ⟨q', v', g1, ?_, g3⟩
  have hq : q' ≠ q := fun z => zapart_ok h2 he g1 ha (by rw [z])
  rw [zfv_ne (hu q' hq)]
  exact g2
/-- reading by the type: the tag and the result; tag 9: not to be read -/
def zrdT (Z : zZ) (env : List zIv) (cd : List zCd) (a : Nat × Int) (ft : zFT) : Nat × zRes := match ft with
  | (0, lo, hi) => (1, if lo = hi then .inl (0, lo) else .inr [(lo, hi)])
  | (1, _, _) => (2, .inr zFullL)
  | (2, lo, hi) => (3, if lo = hi then .inl (0, lo) else .inr [(lo, hi)])
  | (3, g, _) => if g.toNat < Z.2.2 then (1, .inl (g.toNat, 0)) else (9, .inr [])
  | (4, d, _) => (3, .inl (a.1, a.2 + (d.toNat : Int)))
  | (5, lo, hi) => if 1 < Z.2.2 ∧ zle env cd (a.1, a.2 + 1) (1, Z.2.1) = true then (1, .inr [(lo, hi)]) else (1, .inr zFull)
  | (7, lo, hi) => (1, if lo = hi then .inl (0, lo) else .inr [(lo, hi)])
  | (8, lo, hi) => (1, .inr [(lo, hi)])
  | _ => (9, .inr [])
/-- the value of a number under a tag -/
def zval (ad : Nat → Nat) (tag : Nat) (z : Int) (v : Value) : Prop := match tag with
  | 1 => ∃ x : Int32, v = .int x ∧ x.toInt = z
  | 2 => ∃ x : Int64, v = .long x ∧ x.toInt = z
  | 3 => ∃ q : Nat, v = .ref (ad q) ∧ (q : Int) = z
  | _ => False
theorem zval.zm {ad : Nat → Nat} {nu : List Int} {tag n : Nat} {k z : Int} {v : Value} (h : zval ad tag z v) (hz : zV nu n k z) : zm ad nu (tag, n, k, 0, 0) v := by
  match tag, h with
  | 1, ⟨x, h1, h2⟩ => exact ⟨x, h1, by rw [h2]; exact hz⟩
  | 2, ⟨x, h1, h2⟩ => exact ⟨x, h1, by rw [h2]; exact hz⟩
  | 3, ⟨x, h1, h2⟩ => exact ⟨x, h1, by rw [h2]; exact hz⟩
def zpushF (tag : Nat) (sg : zS) (rest : List zAV) (r : zRes) (a : Nat × Int) (j : Nat) : zS := match r with
  | .inl b => (sg.1, sg.2.1, sg.2.2.1, (tag, b.1, b.2, 0, 0) :: rest, (a.1, a.2, j, (tag, b.1, b.2, 0, 0)) :: sg.2.2.2.2.1, sg.2.2.2.2.2)
  | .inr iv => (sg.1 ++ [iv], sg.2.1, sg.2.2.1, (tag, sg.1.length, 0, 0, 0) :: rest, (a.1, a.2, j, (tag, sg.1.length, 0, 0, 0)) :: sg.2.2.2.2.1, sg.2.2.2.2.2)
/-- reading field j: known already, or by its type -/
def zread (Z : zZ) (sg : zS) (rest : List zAV) (a : Nat × Int) (j : Nat) (ft : zFT) : Option zS :=
  match sg.2.2.2.2.1.find? (fun f => f.1 == a.1 && (f.2.1 == a.2 && f.2.2.1 == j)) with
  | some f => if f.2.2.2.1 = 1 ∨ f.2.2.2.1 = 2 ∨ f.2.2.2.1 = 3 then some (sg.1, sg.2.1, sg.2.2.1, f.2.2.2 :: rest, sg.2.2.2.2) else none
  | none => if (zrdT Z sg.1 sg.2.1 a ft).1 = 9 then none else some (zpushF (zrdT Z sg.1 sg.2.1 a ft).1 sg rest (zrdT Z sg.1 sg.2.1 a ft).2 a j)
/-- reading an element at a place that isn't known -/
def zreadU (Z : zZ) (sg : zS) (rest : List zAV) (a : Nat × Int) (ft : zFT) : Option zS :=
  if (zrdT Z sg.1 sg.2.1 a ft).1 = 9 then none else some (zpush (zrdT Z sg.1 sg.2.1 a ft).1 sg rest (zrdT Z sg.1 sg.2.1 a ft).2)
/-- within bounds, by intervals or by conditions -/
def zinX (env : List zIv) (cd : List zCd) (a : Nat × Int) (lo hi : Int) : Bool := zin env a [(lo, hi)] || (zle env cd (0, lo) a && zle env cd a (0, hi))
theorem zinX_ok {env : List zIv} {cd : List zCd} {nu : List Int} {a : Nat × Int} {lo hi x : Int} (h : zinX env cd a lo hi = true) (h0 : nu[0]? = some 0) (he : zEnv env nu) (hc : zCds cd nu) (hx : zV nu a.1 a.2 x) : lo ≤ x ∧ x ≤ hi := by
  unfold zinX at h
  rcases Bool.or_eq_true_iff.mp h with h | h
  · obtain ⟨p, hp, g1, g2⟩ := zin_ok h he hx
    rw [List.mem_singleton] at hp
    subst hp
    exact ⟨g1, g2⟩
  · rw [Bool.and_eq_true] at h
    have l1 := zle_ok h.1 he hc (x := 0 + lo) ⟨0, h0, rfl⟩ hx
    have l2 := zle_ok h.2 he hc (y := 0 + hi) hx ⟨0, h0, rfl⟩
    omega
/-- may it be written there -/
def zwt (Z : zZ) (env : List zIv) (cd : List zCd) (a : Nat × Int) (ft : zFT) (av : zAV) : Bool := match ft, av with
  | (0, lo, hi), (1, n, k, _, _) => zinX env cd (n, k) lo hi
  | (7, lo, hi), (1, n, k, _, _) => zinX env cd (n, k) lo hi
  | (1, _, _), (2, _, _, _, _) => true
  | (2, lo, hi), (3, n, k, _, _) => decide (lo ≤ zlo env n + k) && decide (zhi env n + k ≤ hi)
  | (3, g, _), (1, n, k, _, _) => n == g.toNat && (decide (k = 0) && decide (g.toNat < Z.2.2))
  | (5, lo, hi), (1, n, k, _, _) => zin env (n, k) [(lo, hi)] || (decide (1 < Z.2.2) && zle env cd (1, Z.2.1) a)
  | (8, lo, hi), (1, n, k, _, _) => zinX env cd (n, k) lo hi && (decide (2 < Z.2.2) && zle env cd (2, 1) (n, k))
  | _, _ => false
def zcovB (wr : zWr) (env : List zIv) (a : Nat × Int) (j : Nat) : Bool := wr.any (fun w => decide (w.1 ≤ zlo env a.1 + a.2) && (decide (zhi env a.1 + a.2 ≤ w.2.1) && (w.2.2.1 == 0 || w.2.2.2 == j)))
def zcovA (wr : zWr) (env : List zIv) (a : Nat × Int) : Bool := wr.any (fun w => decide (w.1 ≤ zlo env a.1 + a.2) && (decide (zhi env a.1 + a.2 ≤ w.2.1) && w.2.2.1 == 0))
theorem zcovB_ok {wr : zWr} {env : List zIv} {nu : List Int} {a : Nat × Int} {q j : Nat} (h : zcovB wr env a j = true) (he : zEnv env nu) (ha : zV nu a.1 a.2 q) : ∃ w ∈ wr, zcov w q j := by
  have b := ha.bd he
  obtain ⟨w, hw, h⟩ := List.any_eq_true.mp h
  rw [Bool.and_eq_true, Bool.and_eq_true, Bool.or_eq_true, decide_eq_true_eq, decide_eq_true_eq, beq_iff_eq, beq_iff_eq] at h
  exact ⟨w, hw, by omega, by omega, h.2.2⟩
theorem zcovA_ok {wr : zWr} {env : List zIv} {nu : List Int} {a : Nat × Int} {q : Nat} (h : zcovA wr env a = true) (he : zEnv env nu) (ha : zV nu a.1 a.2 q) (j : Nat) : ∃ w ∈ wr, zcov w q j := by
  have b := ha.bd he
  obtain ⟨w, hw, h⟩ := List.any_eq_true.mp h
  rw [Bool.and_eq_true, Bool.and_eq_true, decide_eq_true_eq, decide_eq_true_eq, beq_iff_eq] at h
  exact ⟨w, hw, by omega, by omega, Or.inl h.2.2⟩
/-- the cell's type: all that the name may be is one kind of cell -/
def zty (Z : zZ) (env : List zIv) (a : Nat × Int) : Option zCT := match zlo env a.1 + a.2, zhi env a.1 + a.2 with
  | .ofNat l, .ofNat u => (Z.1.find? (fun e => Nat.ble e.1 l && Nat.ble u e.2.1)).map (fun e => e.2.2)
  | _, _ => none
theorem zty_lo {Z : zZ} {env : List zIv} {a : Nat × Int} {ct : zCT} (h : zty Z env a = some ct) : 0 ≤ zlo env a.1 + a.2 := by
  unfold zty at h
  split at h
  · rename_i l u e1 e2
    have e1 : zlo env a.1 + a.2 = (l : Int) := e1
    omega
  · cases h
theorem zty_ok {Z : zZ} {env : List zIv} {nu : List Int} {a : Nat × Int} {ct : zCT} {q : Nat} (h : zty Z env a = some ct) (he : zEnv env nu) (ha : zV nu a.1 a.2 q) : ∃ e ∈ Z.1, e.1 ≤ q ∧ q ≤ e.2.1 ∧ e.2.2 = ct := by
  have b := ha.bd he
  unfold zty at h
  split at h
  · rename_i l u e1 e2
    obtain ⟨e, h1, h2⟩ := Option.map_eq_some_iff.mp h
    have h3 := List.find?_some h1
    rw [Bool.and_eq_true] at h3
    have h4 := Nat.le_of_ble_eq_true h3.1
    have h5 := Nat.le_of_ble_eq_true h3.2
    have e1 : zlo env a.1 + a.2 = (l : Int) := e1
    have e2 : zhi env a.1 + a.2 = (u : Int) := e2
    exact ⟨e, List.mem_of_find?_eq_some h1, by omega, by omega, h2⟩
  · cases h
/-- the table's ranges are apart -/
def zDj (Z : zZ) : Prop := (∀ e ∈ Z.1, ∀ e' ∈ Z.1, ∀ q : Nat, e.1 ≤ q → q ≤ e.2.1 → e'.1 ≤ q → q ≤ e'.2.1 → e.2.2 = e'.2.2) ∧ ∀ e ∈ Z.1, e.2.2.1 = 6 → ∀ q : Nat, e.1 ≤ q → q ≤ e.2.1 → ∃ e' ∈ Z.1, e'.1 ≤ q + (e.2.2.2.2.2.headD (0, 0, 0)).1 ∧ q + (e.2.2.2.2.2.headD (0, 0, 0)).1 ≤ e'.2.1 ∧ e'.2.2.1 = 7
/-- what the words say of a field's instruction -/
def zFld (cl : List vw_C) (s : State) (args : Array Value) (own : String) (idx ci j : Nat) : Prop :=
  ∃ (C : String) (T : u_T) (N : Nat) (ty0 : Nat → FieldType), cl[ci]? = some (C, T, N) ∧ j < N ∧ (∀ w ∈ u_ws C T N, w.before args s = true) ∧ (∀ k, k < N → parseFieldDescriptor (T k).2.2.1 = some (ty0 k)) ∧ (∀ a, a < N → ∀ b, b < N → a ≠ b → (T a).2.1 ≠ (T b).2.1) ∧
    ((Cond.fieldLink own idx (T j).1 (T j).2.1 (T j).2.2.1).before args s = true ∨ ∃ host, (Cond.fieldLinkNest own idx (T j).1 (T j).2.1 (T j).2.2.1 host).before args s = true)
/-- and of one that stores: its kind (0 an int, 1 a boolean, 2 a reference), not final -/
def zFldP (cl : List vw_C) (s : State) (args : Array Value) (own : String) (idx ci j tc : Nat) : Prop :=
  ∃ (C : String) (T : u_T) (N : Nat) (ty0 : Nat → FieldType), cl[ci]? = some (C, T, N) ∧ j < N ∧ (∀ w ∈ u_ws C T N, w.before args s = true) ∧ (∀ k, k < N → parseFieldDescriptor (T k).2.2.1 = some (ty0 k)) ∧ (∀ a, a < N → ∀ b, b < N → a ≠ b → (T a).2.1 ≠ (T b).2.1) ∧
    ((Cond.fieldLink own idx (T j).1 (T j).2.1 (T j).2.2.1).before args s = true ∨ ∃ host, (Cond.fieldLinkNest own idx (T j).1 (T j).2.1 (T j).2.2.1 host).before args s = true) ∧ (T j).2.2.2 = false ∧
    (tc = 0 → ty0 j = .int) ∧ (tc = 1 → ty0 j = .boolean) ∧ (tc = 2 → ∃ n, ty0 j = .object n)
section ZH
variable {p : Program} {l : Launch} {e : Env} {R : Room} {s : State} {m : MethodId} {args : Array Value} {below : List Frame} {meth : Method} {c : Code} {Q : State → Prop} {cc : ByteArray} {pc ce sl : Nat}
variable {Z : zZ} {D : va_G} {cl : List vw_C} {tys : List (ClassId × FieldType)} {A : Nat → Prop} {ad : Nat → Nat} {gh : Nat → Int} {wr : zWr} {H0 : Heap} {ws0 : va_W} {nu0 : List Int} {nL : Nat}
variable {env : List zIv} {cd : List zCd} {L st : List zAV} {fa : List zFa} {me : List zMe}
theorem zrdT_ok {nu : List Int} {a : Nat × Int} {ft : zFT} {q : Nat} {v : Value} (h0 : 0 < Z.2.2 ∧ gh 0 = 0) (hN : zN Z.2.2 gh nu0 nu env cd) (ha : zV nu a.1 a.2 q) (hv : zft ad gh Z.2.1 q ft v) (h9 : (zrdT Z env cd a ft).1 ≠ 9) : ∃ z, zRok nu (zrdT Z env cd a ft).2 z ∧ zval ad (zrdT Z env cd a ft).1 z v := by
  obtain ⟨tg, lo, hi⟩ := ft
  match tg, hv with
  | 0, ⟨x, h1, h2, h3⟩ =>
    refine ⟨x.toInt, ?_, x, h1, rfl⟩
    show zRok nu (if lo = hi then .inl (0, lo) else .inr [(lo, hi)]) x.toInt
    by_cases h : lo = hi
    · rw [if_pos h]
      have e : x.toInt = lo := by omega
      rw [e]
      exact hN.cst h0 lo
    · rw [if_neg h]
      exact ⟨_, List.mem_cons_self, h2, h3⟩
  | 7, ⟨x, h1, h2, h3⟩ =>
    refine ⟨x.toInt, ?_, x, h1, rfl⟩
    show zRok nu (if lo = hi then .inl (0, lo) else .inr [(lo, hi)]) x.toInt
    by_cases h : lo = hi
    · rw [if_pos h]
      have e : x.toInt = lo := by omega
      rw [e]
      exact hN.cst h0 lo
    · rw [if_neg h]
      exact ⟨_, List.mem_cons_self, h2, h3⟩
  | 8, ⟨x, h1, h2, h3⟩ => exact ⟨x.toInt, ⟨_, List.mem_cons_self, h2.1, h2.2⟩, x, h1, rfl⟩
  | 1, ⟨x, h1⟩ => exact ⟨x.toInt, zFullL_in x, x, h1, rfl⟩
  | 2, ⟨r, h1, h2, h3⟩ =>
    refine ⟨r, ?_, r, h1, rfl⟩
    show zRok nu (if lo = hi then .inl (0, lo) else .inr [(lo, hi)]) r
    by_cases h : lo = hi
    · rw [if_pos h]
      have e : (r : Int) = lo := by omega
      rw [e]
      exact hN.cst h0 lo
    · rw [if_neg h]
      exact ⟨_, List.mem_cons_self, h2, h3⟩
  | 3, ⟨x, h1, h2⟩ =>
    by_cases hg : lo.toNat < Z.2.2
    · have e : zrdT Z env cd a (3, lo, hi) = (1, .inl (lo.toNat, 0)) := if_pos hg
      rw [e]
      exact ⟨x.toInt, ⟨gh lo.toNat, hN.2.2.1 _ hg, by rw [h2]; omega⟩, x, h1, rfl⟩
    · have e : zrdT Z env cd a (3, lo, hi) = (9, .inr []) := if_neg hg
      rw [e] at h9
      exact absurd rfl h9
  | 4, h1 =>
    obtain ⟨u, hu, e⟩ := ha
    refine ⟨((q + lo.toNat : Nat) : Int), ⟨u, hu, ?_⟩, q + lo.toNat, h1, rfl⟩
    show ((q + lo.toNat : Nat) : Int) = u + (a.2 + (lo.toNat : Int))
    omega
  | 5, ⟨x, h1, h2⟩ =>
    by_cases hc : 1 < Z.2.2 ∧ zle env cd (a.1, a.2 + 1) (1, Z.2.1) = true
    · have e : zrdT Z env cd a (5, lo, hi) = (1, .inr [(lo, hi)]) := if_pos hc
      rw [e]
      have hle := zle_ok hc.2 hN.1 hN.2.1 (x := q + 1) (y := gh 1 + Z.2.1) (ha.up 1) ⟨gh 1, hN.2.2.1 1 hc.1, rfl⟩
      have := h2 (by omega)
      exact ⟨x.toInt, ⟨_, List.mem_cons_self, this.1, this.2⟩, x, h1, rfl⟩
    · have e : zrdT Z env cd a (5, lo, hi) = (1, .inr zFull) := if_neg hc
      rw [e]
      exact ⟨x.toInt, zFull_in x, x, h1, rfl⟩
theorem zwt_ok {nu : List Int} {a : Nat × Int} {ft : zFT} {av : zAV} {q : Nat} {v : Value} (h0 : 0 < Z.2.2 ∧ gh 0 = 0) (hN : zN Z.2.2 gh nu0 nu env cd) (ha : zV nu a.1 a.2 q) (hv : zm ad nu av v) (h : zwt Z env cd a ft av = true) : zft ad gh Z.2.1 q ft v := by
  obtain ⟨tg, lo, hi⟩ := ft
  obtain ⟨t2, n, k, n2, k2⟩ := av
  match tg, t2, hv, h with
  | 0, 1, ⟨x, h1, h2⟩, h =>
    obtain ⟨g1, g2⟩ := zinX_ok (a := (n, k)) h (hN.z0 h0) hN.1 hN.2.1 h2
    exact ⟨x, h1, g1, g2⟩
  | 7, 1, ⟨x, h1, h2⟩, h =>
    obtain ⟨g1, g2⟩ := zinX_ok (a := (n, k)) h (hN.z0 h0) hN.1 hN.2.1 h2
    exact ⟨x, h1, g1, g2⟩
  | 8, 1, ⟨x, h1, h2⟩, h =>
    have h' : (zinX env cd (n, k) lo hi && (decide (2 < Z.2.2) && zle env cd (2, 1) (n, k))) = true := h
    rw [Bool.and_eq_true, Bool.and_eq_true, decide_eq_true_eq] at h'
    have g := zinX_ok (a := (n, k)) h'.1 (hN.z0 h0) hN.1 hN.2.1 h2
    have hle := zle_ok h'.2.2 hN.1 hN.2.1 (x := gh 2 + 1) ⟨gh 2, hN.2.2.1 2 h'.2.1, rfl⟩ h2
    exact ⟨x, h1, g, fun _ => by omega⟩
  | 1, 2, ⟨x, h1, h2⟩, h => exact ⟨x, h1⟩
  | 2, 3, ⟨x, h1, h2⟩, h =>
    have b := h2.bd hN.1
    have h' : (decide (lo ≤ zlo env n + k) && decide (zhi env n + k ≤ hi)) = true := h
    rw [Bool.and_eq_true, decide_eq_true_eq, decide_eq_true_eq] at h'
    exact ⟨x, h1, by omega, by omega⟩
  | 3, 1, ⟨x, h1, h2⟩, h =>
    have h' : (n == lo.toNat && (decide (k = 0) && decide (lo.toNat < Z.2.2))) = true := h
    rw [Bool.and_eq_true, Bool.and_eq_true, beq_iff_eq, decide_eq_true_eq, decide_eq_true_eq] at h'
    obtain ⟨u, hu, e⟩ := h2
    rw [h'.1, hN.2.2.1 _ h'.2.2] at hu
    cases hu
    exact ⟨x, h1, by rw [e, h'.2.1]; omega⟩
  | 5, 1, ⟨x, h1, h2⟩, h =>
    have h' : (zin env (n, k) [(lo, hi)] || (decide (1 < Z.2.2) && zle env cd (1, Z.2.1) a)) = true := h
    refine ⟨x, h1, fun hq => ?_⟩
    rcases Bool.or_eq_true_iff.mp h' with h' | h'
    · obtain ⟨p, hp, g1, g2⟩ := zin_ok (a := (n, k)) h' hN.1 h2
      rw [List.mem_singleton] at hp
      subst hp
      exact ⟨g1, g2⟩
    · rw [Bool.and_eq_true, decide_eq_true_eq] at h'
      have hle := zle_ok h'.2 hN.1 hN.2.1 (x := gh 1 + Z.2.1) (y := q) ⟨gh 1, hN.2.2.1 1 h'.1, rfl⟩ ha
      omega
theorem zread_ok {nu : List Int} {ls : Array Slot} {stc stc' : List Value} {ws : va_W} {H : Heap} {locs : List Loc} {sg sg' : zS} {rest : List zAV} {a : Nat × Int} {j q : Nat} {ft : zFT} {v : Value} (h0 : 0 < Z.2.2 ∧ gh 0 = 0) (h : zG Z D cl tys A ad gh wr H0 ws0 nu0 nL sg nu ls stc' ws H locs) (hs : zall (zm ad nu) rest stc)
    (ha : zV nu a.1 a.2 q) (hv : zfv ws q j = some v) (ht : zft ad gh Z.2.1 q ft v) (he : zread Z sg rest a j ft = some sg') : ∃ nu', zG Z D cl tys A ad gh wr H0 ws0 nu0 nL sg' nu' ls (v :: stc) ws H locs := by
  unfold zread at he
  split at he
  · rename_i f hf
    have hm := List.mem_of_find?_eq_some hf
    have hp := List.find?_some hf
    simp only [Bool.and_eq_true, beq_iff_eq] at hp
    split at he
    · cases he
      obtain ⟨q', v', g1, g2, g3⟩ := h.2.2.2.2.1 f hm
      rw [hp.1, hp.2.1] at g1
      have e : q' = q := by have := g1.eq ha; omega
      subst e
      rw [hp.2.2, hv] at g2
      cases g2
      exact ⟨nu, h.1, h.2.1, h.2.2.1, ⟨g3, hs⟩, h.2.2.2.2.1, h.2.2.2.2.2⟩
    · cases he
  · split at he
    · cases he
    · rename_i h9
      cases he
      obtain ⟨z, g1, g2⟩ := zrdT_ok h0 h.2.1 ha ht h9
      generalize zrdT Z sg.1 sg.2.1 a ft = tr at g1 g2
      obtain ⟨tag, r⟩ := tr
      cases r with
      | inl b =>
        refine ⟨nu, h.1, h.2.1, h.2.2.1, ⟨g2.zm g1, hs⟩, ?_, h.2.2.2.2.2⟩
        intro f hf
        rcases List.mem_cons.mp hf with rfl | hf
        · exact ⟨q, v, ha, hv, g2.zm g1⟩
        · exact h.2.2.2.2.1 f hf
      | inr iv =>
        have hn := zV.new h.2.1.1 z
        refine ⟨nu ++ [z], h.1, h.2.1.push g1, h.2.2.1.app, ⟨g2.zm hn, hs.mono fun a v h => h.app⟩, ?_, h.2.2.2.2.2.app⟩
        intro f hf
        rcases List.mem_cons.mp hf with rfl | hf
        · exact ⟨q, v, ha.app, hv, g2.zm hn⟩
        · exact h.2.2.2.2.1.app f hf
theorem zreadU_ok {nu : List Int} {ls : Array Slot} {stc stc' : List Value} {ws : va_W} {H : Heap} {locs : List Loc} {sg sg' : zS} {rest : List zAV} {a : Nat × Int} {q : Nat} {ft : zFT} {v : Value} (h0 : 0 < Z.2.2 ∧ gh 0 = 0) (h : zG Z D cl tys A ad gh wr H0 ws0 nu0 nL sg nu ls stc' ws H locs) (hs : zall (zm ad nu) rest stc)
    (ha : zV nu a.1 a.2 q) (ht : zft ad gh Z.2.1 q ft v) (he : zreadU Z sg rest a ft = some sg') : ∃ nu', zG Z D cl tys A ad gh wr H0 ws0 nu0 nL sg' nu' ls (v :: stc) ws H locs := by
  unfold zreadU at he
  split at he
  · cases he
  · rename_i h9
    cases he
    obtain ⟨z, g1, g2⟩ := zrdT_ok h0 h.2.1 ha ht h9
    generalize zrdT Z sg.1 sg.2.1 a ft = tr at g1 g2
    obtain ⟨tag, r⟩ := tr
    cases r with
    | inl b => exact ⟨nu, h.1, h.2.1, h.2.2.1, ⟨g2.zm g1, hs⟩, h.2.2.2.2.1, h.2.2.2.2.2⟩
    | inr iv => exact ⟨nu ++ [z], h.1, h.2.1.push g1, h.2.2.1.app, ⟨g2.zm (zV.new h.2.1.1 z), hs.mono fun a v h => h.app⟩, h.2.2.2.2.1.app, h.2.2.2.2.2.app⟩
/-- getfield -/
theorem zs_get (hx : p.tables.exec = Jvm.exec) (hb : c.code = cc) (h0 : 0 < Z.2.2 ∧ gh 0 = 0) {own : String} (hown : s.vm.findClass own = some m.cls) (hK : va_K D cl tys s) {idx ci j n n2 x : Nat} {k k2 : Int} {fts : List zFT} {ft : zFT} {sg' : zS} (hd : decode cc pc = .ok (.getfield idx, 3)) (hf : zFld cl s args own idx ci j)
    (ht : zty Z env (n, k) = some (0, ci, x, fts)) (hj : fts[j]? = some ft) (hr : zread Z (env, cd, L, st, fa, me) st (n, k) j ft = some sg') (kk : zWP (zG Z D cl tys A ad gh wr H0 ws0 nu0 nL) (fun H locs pc ls st => W p l e R s m args below meth c H locs ce sl Q (F0 m pc ls st)) (pc + 3) sg') : zWP (zG Z D cl tys A ad gh wr H0 ws0 nu0 nL) (fun H locs pc ls st => W p l e R s m args below meth c H locs ce sl Q (F0 m pc ls st)) pc (env, cd, L, (3, n, k, n2, k2) :: st, fa, me) := by
  intro nu ls stc ws H locs hG
  obtain ⟨hH, hN, hL, hS, hF, hM⟩ := hG
  match stc, hS with
  | v1 :: stc, ⟨⟨q, hq, h1⟩, hS⟩ =>
    subst hq
    obtain ⟨e0, he0, g1, g2, g3⟩ := zty_ok ht hN.1 h1
    have hc := hH.2.2.2.1 e0 he0 q g1 g2
    rw [g3] at hc
    obtain ⟨fs, c1, c2, c3⟩ := hc
    have hl : j < fs.length := by rw [c2]; exact (List.getElem?_eq_some_iff.mp hj).1
    have hv : fs[j]? = some fs[j] := List.getElem?_eq_getElem hl
    obtain ⟨nu', h⟩ := zread_ok (sg := (env, cd, L, st, fa, me)) (stc' := stc) h0 ⟨hH, hN, hL, hS, hF, hM⟩ hS h1 (show zfv ws q j = some fs[j] by unfold zfv; rw [c1]; exact hv) (c3 j ft _ hj hv) hr
    obtain ⟨C, T, N, ty0, f1, f2, f3, f4, f5, f6⟩ := hf
    rcases f6 with f6 | ⟨host, f6⟩
    · exact va_get hx hb f3 (fun w hw => hw) hown hK hH.1 q c1 f1 j f2 f6 (fun x h => h) hv hd (kk nu' ls _ ws H locs h)
    · exact va_getN hx hb f3 (fun w hw => hw) hown hK hH.1 q c1 f1 j f2 f6 (fun x h => h) hv hd (kk nu' ls _ ws H locs h)
theorem zget_set {ws : va_W} {q : Nat} {x y : Nat × va_E} (h : ws[q]? = some x) : (ws.set q y)[q]? = some y := List.getElem?_set_self (List.getElem?_eq_some_iff.mp h).1
/-- behind a write: the world is typed still -/
theorem zW.upd {ws ws' : va_W} {q : Nat} {e0 : Nat × Nat × zCT} (hZ : zDj Z) (h : zW Z ad gh tys ws) (he : e0 ∈ Z.1) (h1 : e0.1 ≤ q) (h2 : q ≤ e0.2.1) (ho : ∀ q' : Nat, q' ≠ q → ws'[q']? = ws[q']?) (hq : zcell ad gh Z.2.1 tys ws' q e0.2.2) (h7 : e0.2.2.1 ≠ 7) : zW Z ad gh tys ws' := by
  intro e hem q' g1 g2
  by_cases hqq : q' = q
  · subst hqq
    rw [← hZ.1 e0 he e hem q' h1 h2 g1 g2]
    exact hq
  · have h3 := h e hem q' g1 g2
    have h4 := ho q' hqq
    have h5 : e.2.2.1 = 6 → ws'[q' + (e.2.2.2.2.2.headD (0, 0, 0)).1]? = ws[q' + (e.2.2.2.2.2.headD (0, 0, 0)).1]? := fun h6 => by
      obtain ⟨e', z1, z2, z3, z4⟩ := hZ.2 e hem h6 q' g1 g2
      refine ho _ (fun hx => h7 ?_)
      rw [hx] at z2 z3
      rw [hZ.1 e0 he e' z1 q h1 h2 z2 z3]
      exact z4
    generalize e.2.2 = ct at h3 h5
    obtain ⟨tg, ci, len, fts⟩ := ct
    match tg, h3 with
    | 0, ⟨fs, c1, c2⟩ => exact ⟨fs, by rw [h4]; exact c1, c2⟩
    | 1, ⟨cA, f, c1, c2⟩ => exact ⟨cA, f, by rw [h4]; exact c1, c2⟩
    | 2, ⟨cA, f, c1, c2⟩ => exact ⟨cA, f, by rw [h4]; exact c1, c2⟩
    | 3, ⟨cA, f, c1, c2⟩ => exact ⟨cA, f, by rw [h4]; exact c1, c2⟩
    | 4, ⟨cA, C, f, c1, c2⟩ => exact ⟨cA, C, f, by rw [h4]; exact c1, c2⟩
    | 5, ⟨cA, f, c1, c2⟩ => exact ⟨cA, f, by rw [h4]; exact c1, c2⟩
    | 6, ⟨cA, cB, f, g, c1, c2, c3, c4⟩ => exact ⟨cA, cB, f, g, by rw [h4]; exact c1, c2, by have h8 := h5 rfl; rw [h8]; exact c3, c4⟩
    | 7, ⟨cA, f, c1, c2⟩ => exact ⟨cA, f, by rw [h4]; exact c1, c2⟩
theorem zUn.upd {ws ws' : va_W} {q j : Nat} {v : Value} (h : zUn wr ws0 ws) (hu : zUpd ws ws' q j v) (hc : ∃ w ∈ wr, zcov w q j) : zUn wr ws0 ws' := by
  intro q' j' hn
  rw [← h q' j' hn]
  by_cases hq : q' = q
  · subst hq
    by_cases hj : j' = j
    · subst hj
      obtain ⟨w, hw, hc⟩ := hc
      exact absurd hc (hn w hw)
    · exact hu.2.1 j' hj
  · exact zfv_ne (hu.1 q' hq) j'
theorem zUpd.obj {ws : va_W} {q ci j : Nat} {fs : List Value} {v : Value} {a : Nat} (h : ws[q]? = some (a, .inr (ci, fs))) (hj : j < fs.length) : zUpd ws (ws.set q (a, .inr (ci, fs.set j v))) q j v := by
  refine ⟨fun q' hq => List.getElem?_set_ne (Ne.symm hq), fun j' hj' => ?_, ?_⟩
  · unfold zfv
    rw [zget_set h, h]
    exact List.getElem?_set_ne (Ne.symm hj')
  · unfold zfv
    rw [zget_set h]
    exact List.getElem?_set_self hj
theorem zUpd.int {ws : va_W} {q j len : Nat} {cA : ClassId} {f : Nat → Int32} {x : Int32} {a : Nat} (h : ws[q]? = some (a, .inl (cA, len, .inl f))) (hj : j < len) : zUpd ws (ws.set q (a, .inl (cA, len, .inl (upd f j x)))) q j (.int x) := by
  refine ⟨fun q' hq => List.getElem?_set_ne (Ne.symm hq), fun j' hj' => ?_, ?_⟩
  · unfold zfv
    rw [zget_set h, h]
    simp [upd, hj']
  · unfold zfv
    rw [zget_set h]
    simp [upd, hj]
theorem zUpd.lng {ws : va_W} {q j len : Nat} {cA : ClassId} {f : Nat → Int64} {x : Int64} {a : Nat} (h : ws[q]? = some (a, .inl (cA, len, .inr (.inl f)))) (hj : j < len) : zUpd ws (ws.set q (a, .inl (cA, len, .inr (.inl (vp_updL f j x))))) q j (.long x) := by
  refine ⟨fun q' hq => List.getElem?_set_ne (Ne.symm hq), fun j' hj' => ?_, ?_⟩
  · unfold zfv
    rw [zget_set h, h]
    simp [vp_updL, hj']
  · unfold zfv
    rw [zget_set h]
    simp [vp_updL, hj]
/-- putfield: v is what the abstract value stands for, and it fits the field -/
theorem zs_putV (hx : p.tables.exec = Jvm.exec) (hb : c.code = cc) (h0 : 0 < Z.2.2 ∧ gh 0 = 0) {own : String} (hown : s.vm.findClass own = some m.cls) (hK : va_K D cl tys s) (hZ : zDj Z) {idx ci j tc n n2 x : Nat} {k k2 : Int} {fts : List zFT} {ft : zFT} {av : zAV} (hd : decode cc pc = .ok (.putfield idx, 3)) (hf : zFldP cl s args own idx ci j tc)
    (ht : zty Z env (n, k) = some (0, ci, x, fts)) (hj : fts[j]? = some ft) (hw : zwt Z env cd (n, k) ft av = true) (hcv : zcovB wr env (n, k) j = true)
    (hfit : ∀ (nu : List Int) (v : Value) (ty : FieldType), zN Z.2.2 gh nu0 nu env cd → zm ad nu av v → (tc = 0 → ty = .int) → (tc = 1 → ty = .boolean) → (tc = 2 → ∃ n, ty = .object n) → narrow ty v = v ∧ fits ty v = true)
    (kk : zWP (zG Z D cl tys A ad gh wr H0 ws0 nu0 nL) (fun H locs pc ls st => W p l e R s m args below meth c H locs ce sl Q (F0 m pc ls st)) (pc + 3) (env, cd, L, st, (n, k, j, av) :: zfk env fa (n, k) j, me)) : zWP (zG Z D cl tys A ad gh wr H0 ws0 nu0 nL) (fun H locs pc ls st => W p l e R s m args below meth c H locs ce sl Q (F0 m pc ls st)) pc (env, cd, L, av :: (3, n, k, n2, k2) :: st, fa, me) := by
  intro nu ls stc ws H locs hG
  obtain ⟨hH, hN, hL, hS, hF, hM⟩ := hG
  match stc, hS with
  | v :: v1 :: stc, ⟨hv, ⟨q, hq, h1⟩, hS⟩ =>
    subst hq
    obtain ⟨e0, he0, g1, g2, g3⟩ := zty_ok ht hN.1 h1
    have hc := hH.2.2.2.1 e0 he0 q g1 g2
    rw [g3] at hc
    obtain ⟨fs, c1, c2, c3⟩ := hc
    have hl : j < fs.length := by rw [c2]; exact (List.getElem?_eq_some_iff.mp hj).1
    obtain ⟨C, T, N, ty0, f1, f2, f3, f4, f5, f6, f7, f8, f9, f10⟩ := hf
    obtain ⟨n1, n2'⟩ := hfit nu v (ty0 j) hN hv f8 f9 f10
    have hu := zUpd.obj (v := v) c1 hl
    have hft := zwt_ok (ad := ad) h0 hN h1 hv hw
    have hcell : zcell ad gh Z.2.1 tys (ws.set q (ad q, .inr (ci, fs.set j v))) q e0.2.2 := by
      rw [g3]
      refine ⟨fs.set j v, zget_set c1, by rw [List.length_set]; exact c2, fun j' ft' v' hj' hv' => ?_⟩
      by_cases hjj : j' = j
      · subst hjj
        rw [List.getElem?_set_self hl] at hv'
        cases hv'
        rw [hj] at hj'
        cases hj'
        exact hft
      · rw [List.getElem?_set_ne (Ne.symm hjj)] at hv'
        exact c3 j' ft' v' hj' hv'
    have fin : ∀ (H1 : Heap) (locs1 : List Loc), va_P D cl (ws.set q (ad q, .inr (ci, fs.set j v))) H1 → va_D A (ws.set q (ad q, .inr (ci, fs.set j v))) → va_S A H0 H1 locs1 → W p l e R s m args below meth c H1 locs1 ce sl Q (F0 m (pc + 3) ls stc) := fun H1 locs1 p1 p2 p3 =>
      kk nu ls stc _ H1 locs1 ⟨⟨p1, p2, p3, zW.upd hZ hH.2.2.2.1 he0 g1 g2 hu.1 hcell (by rw [g3]; simp), zUn.upd hH.2.2.2.2 hu (zcovB_ok hcv hN.1 h1)⟩, hN, hL, hS, zF.put (a := (n, k)) hF hN.1 h1 hu hv, hM⟩
    rcases f6 with f6 | ⟨host, f6⟩
    · exact va_put hx hb f3 (fun w hw => hw) ty0 f4 f5 hown hK hH.1 hH.2.1 hH.2.2.1 q c1 f1 j f2 f6 (fun x h => h) f7 (f4 j f2) n1 n2' hl hd fin
    · exact va_putN hx hb f3 (fun w hw => hw) ty0 f4 f5 hown hK hH.1 hH.2.1 hH.2.2.1 q c1 f1 j f2 f6 (fun x h => h) f7 (f4 j f2) n1 n2' hl hd fin
end ZH
end
section
/-! ARRAYS, SWITCHES -/
def zaread (Z : zZ) (sg : zS) (rest : List zAV) (a i : Nat × Int) (ft : zFT) : Option zS := if zcst sg.1 i = true then zread Z sg rest a (zlo sg.1 i.1 + i.2).toNat ft else zreadU Z sg rest a ft
def zawF (env : List zIv) (fa : List zFa) (a i : Nat × Int) (av : zAV) : List zFa := if zcst env i = true then (a.1, a.2, (zlo env i.1 + i.2).toNat, av) :: zfk env fa a (zlo env i.1 + i.2).toNat else zfkA env fa a
def zawC (wr : zWr) (env : List zIv) (a i : Nat × Int) : Bool := zcovA wr env a || (zcst env i && zcovB wr env a (zlo env i.1 + i.2).toNat)
def zbds (env : List zIv) (cd : List zCd) (i : Nat × Int) (len : Nat) : Bool := zle env cd (0, 0) i && zle env cd i (0, (len : Int) - 1)
theorem zbds_ok {env : List zIv} {cd : List zCd} {nu : List Int} {i : Nat × Int} {len : Nat} {x : Int32} (h : zbds env cd i len = true) (h0 : nu[0]? = some 0) (he : zEnv env nu) (hc : zCds cd nu) (hx : zV nu i.1 i.2 x.toInt) : vp_in x len ∧ x.toNatClampNeg < len ∧ (x.toNatClampNeg : Int) = x.toInt := by
  unfold zbds at h
  rw [Bool.and_eq_true] at h
  have l1 := zle_ok h.1 he hc (x := 0 + 0) ⟨0, h0, rfl⟩ hx
  have l2 := zle_ok h.2 he hc (y := 0 + ((len : Int) - 1)) hx ⟨0, h0, rfl⟩
  have e : x.toNatClampNeg = x.toInt.toNat := rfl
  refine ⟨vp_in_iff.mpr ⟨by omega, by omega⟩, by rw [e]; omega, by rw [e]; omega⟩
theorem zfit_int {ad : Nat → Nat} {nu : List Int} {n n2 : Nat} {k k2 : Int} {v : Value} (h : zm ad nu (1, n, k, n2, k2) v) : narrow .int v = v ∧ fits .int v = true := by
  obtain ⟨x, rfl, -⟩ := h
  exact ⟨rfl, rfl⟩
theorem zfit_bool {ad : Nat → Nat} {env : List zIv} {nu : List Int} {n n2 : Nat} {k k2 : Int} {v : Value} (h : zm ad nu (1, n, k, n2, k2) v) (he : zEnv env nu) (hz : zin env (n, k) [(0, 1)] = true) : narrow .boolean v = v ∧ fits .boolean v = true := by
  obtain ⟨x, rfl, h2⟩ := h
  obtain ⟨p, hp, g1, g2⟩ := zin_ok (a := (n, k)) hz he h2
  rw [List.mem_singleton] at hp
  subst hp
  have g1 : (0 : Int) ≤ x.toInt := g1
  have g2 : x.toInt ≤ 1 := g2
  rcases (show x.toInt = 0 ∨ x.toInt = 1 by omega) with e | e
  · have : x = 0 := Int32.toInt_inj.mp (by rw [e]; rfl)
    subst this
    exact ⟨by decide, by decide⟩
  · have : x = 1 := Int32.toInt_inj.mp (by rw [e]; rfl)
    subst this
    exact ⟨by decide, by decide⟩
theorem zfit_ref {ad : Nat → Nat} {nu : List Int} {n n2 : Nat} {k k2 : Int} {v : Value} (h : zm ad nu (3, n, k, n2, k2) v) {ty : FieldType} (ht : ∃ n, ty = .object n) : narrow ty v = v ∧ fits ty v = true := by
  obtain ⟨x, rfl, -⟩ := h
  obtain ⟨n, rfl⟩ := ht
  exact ⟨rfl, rfl⟩
/-- the kinds of a store: which values go into which fields -/
def zfitB (env : List zIv) (tc : Nat) (av : zAV) : Bool := match tc, av with
  | 0, (1, _, _, _, _) => true
  | 1, (1, n, k, _, _) => zin env (n, k) [(0, 1)]
  | 2, (3, _, _, _, _) => true
  | _, _ => false
theorem zfitB_ok {ad : Nat → Nat} {env : List zIv} {nu : List Int} {tc : Nat} {av : zAV} {v : Value} {ty : FieldType} (h : zfitB env tc av = true) (he : zEnv env nu) (hv : zm ad nu av v) (h0 : tc = 0 → ty = .int) (h1 : tc = 1 → ty = .boolean) (h2 : tc = 2 → ∃ n, ty = .object n) : narrow ty v = v ∧ fits ty v = true := by
  obtain ⟨tg, n, k, n2, k2⟩ := av
  match tc, tg, h, hv with
  | 0, 1, h, hv => rw [h0 rfl]; exact zfit_int hv
  | 1, 1, h, hv => rw [h1 rfl]; exact zfit_bool hv he h
  | 2, 3, h, hv => exact zfit_ref hv (h2 rfl)
section ZA
variable {p : Program} {l : Launch} {e : Env} {R : Room} {s : State} {m : MethodId} {args : Array Value} {below : List Frame} {meth : Method} {c : Code} {Q : State → Prop} {cc : ByteArray} {pc ce sl : Nat}
variable {Z : zZ} {D : va_G} {cl : List vw_C} {tys : List (ClassId × FieldType)} {A : Nat → Prop} {ad : Nat → Nat} {gh : Nat → Int} {wr : zWr} {H0 : Heap} {ws0 : va_W} {nu0 : List Int} {nL : Nat}
variable {env : List zIv} {cd : List zCd} {L st : List zAV} {fa : List zFa} {me : List zMe}
theorem zs_put (hx : p.tables.exec = Jvm.exec) (hb : c.code = cc) (h0 : 0 < Z.2.2 ∧ gh 0 = 0) {own : String} (hown : s.vm.findClass own = some m.cls) (hK : va_K D cl tys s) (hZ : zDj Z) {idx ci j tc n n2 x : Nat} {k k2 : Int} {fts : List zFT} {ft : zFT} {av : zAV} (hd : decode cc pc = .ok (.putfield idx, 3)) (hf : zFldP cl s args own idx ci j tc)
    (ht : zty Z env (n, k) = some (0, ci, x, fts)) (hj : fts[j]? = some ft) (hw : zwt Z env cd (n, k) ft av = true) (hcv : zcovB wr env (n, k) j = true) (hfit : zfitB env tc av = true)
    (kk : zWP (zG Z D cl tys A ad gh wr H0 ws0 nu0 nL) (fun H locs pc ls st => W p l e R s m args below meth c H locs ce sl Q (F0 m pc ls st)) (pc + 3) (env, cd, L, st, (n, k, j, av) :: zfk env fa (n, k) j, me)) : zWP (zG Z D cl tys A ad gh wr H0 ws0 nu0 nL) (fun H locs pc ls st => W p l e R s m args below meth c H locs ce sl Q (F0 m pc ls st)) pc (env, cd, L, av :: (3, n, k, n2, k2) :: st, fa, me) :=
  zs_putV hx hb h0 hown hK hZ hd hf ht hj hw hcv (fun nu v ty hN hv h0 h1 h2 => zfitB_ok hfit hN.1 hv h0 h1 h2) kk
theorem zaread_ok {nu : List Int} {ls : Array Slot} {stc stc' : List Value} {ws : va_W} {H : Heap} {locs : List Loc} {sg sg' : zS} {rest : List zAV} {a i : Nat × Int} {q : Nat} {ft : zFT} {v : Value} {x : Int} (h0 : 0 < Z.2.2 ∧ gh 0 = 0) (h : zG Z D cl tys A ad gh wr H0 ws0 nu0 nL sg nu ls stc' ws H locs) (hs : zall (zm ad nu) rest stc)
    (ha : zV nu a.1 a.2 q) (hi : zV nu i.1 i.2 x) (hv : zfv ws q x.toNat = some v) (ht : zft ad gh Z.2.1 q ft v) (he : zaread Z sg rest a i ft = some sg') : ∃ nu', zG Z D cl tys A ad gh wr H0 ws0 nu0 nL sg' nu' ls (v :: stc) ws H locs := by
  unfold zaread at he
  by_cases hc : zcst sg.1 i = true
  · rw [if_pos hc] at he
    have e := zcst_ok hc h.2.1.1 hi
    rw [e] at hv
    exact zread_ok h0 h hs ha hv ht he
  · rw [if_neg hc] at he
    exact zreadU_ok h0 h hs ha ht he
theorem zs_iald (hx : p.tables.exec = Jvm.exec) (hb : c.code = cc) (h0 : 0 < Z.2.2 ∧ gh 0 = 0) (hK : va_K D cl tys s) {n n2 t0 len ni m2 : Nat} {k k2 ki l2 : Int} {fts : List zFT} {ft : zFT} {sg' : zS} (hd : decode cc pc = .ok (.iaload, 1))
    (ht : zty Z env (n, k) = some (1, t0, len, fts)) (hj : fts[0]? = some ft) (hi : zbds env cd (ni, ki) len = true) (hr : zaread Z (env, cd, L, st, fa, me) st (n, k) (ni, ki) ft = some sg') (kk : zWP (zG Z D cl tys A ad gh wr H0 ws0 nu0 nL) (fun H locs pc ls st => W p l e R s m args below meth c H locs ce sl Q (F0 m pc ls st)) (pc + 1) sg') : zWP (zG Z D cl tys A ad gh wr H0 ws0 nu0 nL) (fun H locs pc ls st => W p l e R s m args below meth c H locs ce sl Q (F0 m pc ls st)) pc (env, cd, L, (1, ni, ki, m2, l2) :: (3, n, k, n2, k2) :: st, fa, me) := by
  intro nu ls stc ws H locs hG
  obtain ⟨hH, hN, hL, hS, hF, hM⟩ := hG
  match stc, hS with
  | v2 :: v1 :: stc, ⟨⟨x, hx', h2⟩, ⟨q, hq, h1⟩, hS⟩ =>
    subst hq
    subst hx'
    obtain ⟨e0, he0, g1, g2, g3⟩ := zty_ok ht hN.1 h1
    have hc := hH.2.2.2.1 e0 he0 q g1 g2
    rw [g3] at hc
    obtain ⟨cA, f, c1, c2, c3⟩ := hc
    obtain ⟨b1, b2, b3⟩ := zbds_ok (i := (ni, ki)) hi (hN.z0 h0) hN.1 hN.2.1 h2
    obtain ⟨nu', h⟩ := zaread_ok (sg := (env, cd, L, st, fa, me)) (stc' := stc) h0 ⟨hH, hN, hL, hS, hF, hM⟩ hS h1 (i := (ni, ki)) h2 (show zfv ws q x.toInt.toNat = some (.int (f x.toNatClampNeg)) by unfold zfv; rw [c1]; exact if_pos b2) (c3 _ ft b2 hj) hr
    exact va_iald hx hb hK hH.1 q t0 c1 c2 b1 hd (kk nu' ls _ ws H locs h)
theorem zs_bald (hx : p.tables.exec = Jvm.exec) (hb : c.code = cc) (h0 : 0 < Z.2.2 ∧ gh 0 = 0) (hK : va_K D cl tys s) {n n2 t0 len ni m2 : Nat} {k k2 ki l2 : Int} {fts : List zFT} {ft : zFT} {sg' : zS} (hd : decode cc pc = .ok (.baload, 1))
    (ht : zty Z env (n, k) = some (2, t0, len, fts)) (hj : fts[0]? = some ft) (hi : zbds env cd (ni, ki) len = true) (hr : zaread Z (env, cd, L, st, fa, me) st (n, k) (ni, ki) ft = some sg') (kk : zWP (zG Z D cl tys A ad gh wr H0 ws0 nu0 nL) (fun H locs pc ls st => W p l e R s m args below meth c H locs ce sl Q (F0 m pc ls st)) (pc + 1) sg') : zWP (zG Z D cl tys A ad gh wr H0 ws0 nu0 nL) (fun H locs pc ls st => W p l e R s m args below meth c H locs ce sl Q (F0 m pc ls st)) pc (env, cd, L, (1, ni, ki, m2, l2) :: (3, n, k, n2, k2) :: st, fa, me) := by
  intro nu ls stc ws H locs hG
  obtain ⟨hH, hN, hL, hS, hF, hM⟩ := hG
  match stc, hS with
  | v2 :: v1 :: stc, ⟨⟨x, hx', h2⟩, ⟨q, hq, h1⟩, hS⟩ =>
    subst hq
    subst hx'
    obtain ⟨e0, he0, g1, g2, g3⟩ := zty_ok ht hN.1 h1
    have hc := hH.2.2.2.1 e0 he0 q g1 g2
    rw [g3] at hc
    obtain ⟨cA, f, c1, c2, c3⟩ := hc
    obtain ⟨b1, b2, b3⟩ := zbds_ok (i := (ni, ki)) hi (hN.z0 h0) hN.1 hN.2.1 h2
    obtain ⟨nu', h⟩ := zaread_ok (sg := (env, cd, L, st, fa, me)) (stc' := stc) h0 ⟨hH, hN, hL, hS, hF, hM⟩ hS h1 (i := (ni, ki)) h2 (show zfv ws q x.toInt.toNat = some (.int (f x.toNatClampNeg)) by unfold zfv; rw [c1]; exact if_pos b2) (c3 _ ft b2 hj) hr
    exact va_bald hx hb hK hH.1 q t0 c1 c2 b1 hd (kk nu' ls _ ws H locs h)
theorem zs_lald (hx : p.tables.exec = Jvm.exec) (hb : c.code = cc) (h0 : 0 < Z.2.2 ∧ gh 0 = 0) (hK : va_K D cl tys s) {n n2 t0 len ni m2 : Nat} {k k2 ki l2 : Int} {fts : List zFT} {sg' : zS} (hd : decode cc pc = .ok (.laload, 1))
    (ht : zty Z env (n, k) = some (3, t0, len, fts)) (hi : zbds env cd (ni, ki) len = true) (hr : zaread Z (env, cd, L, st, fa, me) st (n, k) (ni, ki) (1, 0, 0) = some sg') (kk : zWP (zG Z D cl tys A ad gh wr H0 ws0 nu0 nL) (fun H locs pc ls st => W p l e R s m args below meth c H locs ce sl Q (F0 m pc ls st)) (pc + 1) sg') : zWP (zG Z D cl tys A ad gh wr H0 ws0 nu0 nL) (fun H locs pc ls st => W p l e R s m args below meth c H locs ce sl Q (F0 m pc ls st)) pc (env, cd, L, (1, ni, ki, m2, l2) :: (3, n, k, n2, k2) :: st, fa, me) := by
  intro nu ls stc ws H locs hG
  obtain ⟨hH, hN, hL, hS, hF, hM⟩ := hG
  match stc, hS with
  | v2 :: v1 :: stc, ⟨⟨x, hx', h2⟩, ⟨q, hq, h1⟩, hS⟩ =>
    subst hq
    subst hx'
    obtain ⟨e0, he0, g1, g2, g3⟩ := zty_ok ht hN.1 h1
    have hc := hH.2.2.2.1 e0 he0 q g1 g2
    rw [g3] at hc
    obtain ⟨cA, f, c1, c2⟩ := hc
    obtain ⟨b1, b2, b3⟩ := zbds_ok (i := (ni, ki)) hi (hN.z0 h0) hN.1 hN.2.1 h2
    obtain ⟨nu', h⟩ := zaread_ok (sg := (env, cd, L, st, fa, me)) (stc' := stc) (ft := (1, 0, 0)) h0 ⟨hH, hN, hL, hS, hF, hM⟩ hS h1 (i := (ni, ki)) h2 (show zfv ws q x.toInt.toNat = some (.long (f x.toNatClampNeg)) by unfold zfv; rw [c1]; exact if_pos b2) ⟨_, rfl⟩ hr
    exact va_lald hx hb hK hH.1 q t0 c1 c2 b1 hd (kk nu' ls _ ws H locs h)
theorem zF.aw {nu : List Int} {ws ws' : va_W} {a i : Nat × Int} {q : Nat} {x : Int} {av : zAV} {v : Value} (h : zF ad nu ws fa) (he : zEnv env nu) (ha : zV nu a.1 a.2 q) (hi : zV nu i.1 i.2 x) (hu : zUpd ws ws' q x.toNat v) (hv : zm ad nu av v) : zF ad nu ws' (zawF env fa a i av) := by
  unfold zawF
  by_cases hc : zcst env i = true
  · rw [if_pos hc]
    rw [zcst_ok hc he hi] at hu
    exact h.put he ha hu hv
  · rw [if_neg hc]
    exact h.putA he ha hu.1
theorem zawC_ok {nu : List Int} {a i : Nat × Int} {q : Nat} {x : Int} (h : zawC wr env a i = true) (he : zEnv env nu) (ha : zV nu a.1 a.2 q) (hi : zV nu i.1 i.2 x) : ∃ w ∈ wr, zcov w q x.toNat := by
  unfold zawC at h
  rcases Bool.or_eq_true_iff.mp h with h | h
  · exact zcovA_ok h he ha _
  · rw [Bool.and_eq_true] at h
    rw [zcst_ok h.1 he hi]
    exact zcovB_ok h.2 he ha
theorem zs_iast (hx : p.tables.exec = Jvm.exec) (hb : c.code = cc) (h0 : 0 < Z.2.2 ∧ gh 0 = 0) (hK : va_K D cl tys s) (hZ : zDj Z) {n n2 t0 len ni m2 nv m3 : Nat} {k k2 ki l2 kv l3 : Int} {fts : List zFT} {ft : zFT} (hd : decode cc pc = .ok (.iastore, 1))
    (ht : zty Z env (n, k) = some (1, t0, len, fts)) (hj : fts = [ft]) (hi : zbds env cd (ni, ki) len = true) (hw : zwt Z env cd (n, k) ft (1, nv, kv, m3, l3) = true) (hcv : zawC wr env (n, k) (ni, ki) = true)
    (kk : zWP (zG Z D cl tys A ad gh wr H0 ws0 nu0 nL) (fun H locs pc ls st => W p l e R s m args below meth c H locs ce sl Q (F0 m pc ls st)) (pc + 1) (env, cd, L, st, zawF env fa (n, k) (ni, ki) (1, nv, kv, m3, l3), me)) : zWP (zG Z D cl tys A ad gh wr H0 ws0 nu0 nL) (fun H locs pc ls st => W p l e R s m args below meth c H locs ce sl Q (F0 m pc ls st)) pc (env, cd, L, (1, nv, kv, m3, l3) :: (1, ni, ki, m2, l2) :: (3, n, k, n2, k2) :: st, fa, me) := by
  intro nu ls stc ws H locs hG
  obtain ⟨hH, hN, hL, hS, hF, hM⟩ := hG
  match stc, hS with
  | v3 :: v2 :: v1 :: stc, ⟨hv, ⟨x, hx', h2⟩, ⟨q, hq, h1⟩, hS⟩ =>
    have hft := zwt_ok (ad := ad) (a := (n, k)) h0 hN h1 hv hw
    obtain ⟨y, hy, h3⟩ := id hv
    subst hq
    subst hx'
    subst hy
    obtain ⟨e0, he0, g1, g2, g3⟩ := zty_ok ht hN.1 h1
    have hc := hH.2.2.2.1 e0 he0 q g1 g2
    rw [g3] at hc
    obtain ⟨cA, f, c1, c2, c3⟩ := hc
    obtain ⟨b1, b2, b3⟩ := zbds_ok (i := (ni, ki)) hi (hN.z0 h0) hN.1 hN.2.1 h2
    have hu := zUpd.int (x := y) c1 b2
    have hcell : zcell ad gh Z.2.1 tys (ws.set q (ad q, .inl (cA, len, .inl (upd f x.toNatClampNeg y)))) q e0.2.2 := by
      rw [g3]
      refine ⟨cA, _, zget_set c1, c2, fun j' ft' hj' hf' => ?_⟩
      rw [hj] at hf'
      cases hf'
      by_cases hjj : j' = x.toNatClampNeg
      · subst hjj
        simp only [upd, if_true]
        exact hft
      · simp only [upd, if_neg hjj]
        exact c3 j' ft hj' (by rw [hj]; rfl)
    exact va_iast hx hb hK hH.1 hH.2.1 hH.2.2.1 q t0 c1 c2 b1 hd (fun H1 locs1 p1 p2 p3 =>
      kk nu ls stc _ H1 locs1 ⟨⟨p1, p2, p3, zW.upd hZ hH.2.2.2.1 he0 g1 g2 hu.1 hcell (by rw [g3]; simp), zUn.upd hH.2.2.2.2 hu (zawC_ok (i := (ni, ki)) hcv hN.1 h1 h2)⟩, hN, hL, hS, zF.aw (i := (ni, ki)) (a := (n, k)) hF hN.1 h1 h2 hu hv, hM⟩)
/-- a byte: any int is cut to one -/
theorem zs_bast (hx : p.tables.exec = Jvm.exec) (hb : c.code = cc) (h0 : 0 < Z.2.2 ∧ gh 0 = 0) (hK : va_K D cl tys s) (hZ : zDj Z) {n n2 t0 len ni m2 nv m3 : Nat} {k k2 ki l2 kv l3 : Int} {fts : List zFT} (hd : decode cc pc = .ok (.bastore, 1))
    (ht : zty Z env (n, k) = some (2, t0, len, fts)) (hj : fts = [(0, -128, 127)]) (hi : zbds env cd (ni, ki) len = true) (hcv : zcovA wr env (n, k) = true)
    (kk : zWP (zG Z D cl tys A ad gh wr H0 ws0 nu0 nL) (fun H locs pc ls st => W p l e R s m args below meth c H locs ce sl Q (F0 m pc ls st)) (pc + 1) (env, cd, L, st, zfkA env fa (n, k), me)) : zWP (zG Z D cl tys A ad gh wr H0 ws0 nu0 nL) (fun H locs pc ls st => W p l e R s m args below meth c H locs ce sl Q (F0 m pc ls st)) pc (env, cd, L, (1, nv, kv, m3, l3) :: (1, ni, ki, m2, l2) :: (3, n, k, n2, k2) :: st, fa, me) := by
  intro nu ls stc ws H locs hG
  obtain ⟨hH, hN, hL, hS, hF, hM⟩ := hG
  match stc, hS with
  | v3 :: v2 :: v1 :: stc, ⟨⟨y, hy, h3⟩, ⟨x, hx', h2⟩, ⟨q, hq, h1⟩, hS⟩ =>
    subst hq
    subst hx'
    subst hy
    obtain ⟨e0, he0, g1, g2, g3⟩ := zty_ok ht hN.1 h1
    have hc := hH.2.2.2.1 e0 he0 q g1 g2
    rw [g3] at hc
    obtain ⟨cA, f, c1, c2, c3⟩ := hc
    obtain ⟨b1, b2, b3⟩ := zbds_ok (i := (ni, ki)) hi (hN.z0 h0) hN.1 hN.2.1 h2
    have hu := zUpd.int (x := vp_nar .byte y) c1 b2
    have hcell : zcell ad gh Z.2.1 tys (ws.set q (ad q, .inl (cA, len, .inl (upd f x.toNatClampNeg (vp_nar .byte y))))) q e0.2.2 := by
      rw [g3]
      refine ⟨cA, _, zget_set c1, c2, fun j' ft' hj' hf' => ?_⟩
      rw [hj] at hf'
      cases hf'
      by_cases hjj : j' = x.toNatClampNeg
      · subst hjj
        simp only [upd, if_true]
        rw [vp_nar_byte]
        obtain ⟨p, hp, g1, g2⟩ := zb_rng y
        rw [List.mem_singleton] at hp
        subst hp
        exact ⟨_, rfl, g1, g2⟩
      · simp only [upd, if_neg hjj]
        exact c3 j' _ hj' (by rw [hj]; rfl)
    exact va_bast hx hb hK hH.1 hH.2.1 hH.2.2.1 q t0 c1 c2 b1 hd (fun H1 locs1 p1 p2 p3 =>
      kk nu ls stc _ H1 locs1 ⟨⟨p1, p2, p3, zW.upd hZ hH.2.2.2.1 he0 g1 g2 hu.1 hcell (by rw [g3]; simp), zUn.upd hH.2.2.2.2 hu (zcovA_ok hcv hN.1 h1 _)⟩, hN, hL, hS, zF.putA (a := (n, k)) hF hN.1 h1 hu.1, hM⟩)
theorem zs_last (hx : p.tables.exec = Jvm.exec) (hb : c.code = cc) (h0 : 0 < Z.2.2 ∧ gh 0 = 0) (hK : va_K D cl tys s) (hZ : zDj Z) {n n2 t0 len ni m2 nv m3 : Nat} {k k2 ki l2 kv l3 : Int} {fts : List zFT} (hd : decode cc pc = .ok (.lastore, 1))
    (ht : zty Z env (n, k) = some (3, t0, len, fts)) (hi : zbds env cd (ni, ki) len = true) (hcv : zcovA wr env (n, k) = true)
    (kk : zWP (zG Z D cl tys A ad gh wr H0 ws0 nu0 nL) (fun H locs pc ls st => W p l e R s m args below meth c H locs ce sl Q (F0 m pc ls st)) (pc + 1) (env, cd, L, st, zfkA env fa (n, k), me)) : zWP (zG Z D cl tys A ad gh wr H0 ws0 nu0 nL) (fun H locs pc ls st => W p l e R s m args below meth c H locs ce sl Q (F0 m pc ls st)) pc (env, cd, L, (2, nv, kv, m3, l3) :: (1, ni, ki, m2, l2) :: (3, n, k, n2, k2) :: st, fa, me) := by
  intro nu ls stc ws H locs hG
  obtain ⟨hH, hN, hL, hS, hF, hM⟩ := hG
  match stc, hS with
  | v3 :: v2 :: v1 :: stc, ⟨⟨y, hy, h3⟩, ⟨x, hx', h2⟩, ⟨q, hq, h1⟩, hS⟩ =>
    subst hq
    subst hx'
    subst hy
    obtain ⟨e0, he0, g1, g2, g3⟩ := zty_ok ht hN.1 h1
    have hc := hH.2.2.2.1 e0 he0 q g1 g2
    rw [g3] at hc
    obtain ⟨cA, f, c1, c2⟩ := hc
    obtain ⟨b1, b2, b3⟩ := zbds_ok (i := (ni, ki)) hi (hN.z0 h0) hN.1 hN.2.1 h2
    have hu := zUpd.lng (x := y) c1 b2
    have hcell : zcell ad gh Z.2.1 tys (ws.set q (ad q, .inl (cA, len, .inr (.inl (vp_updL f x.toNatClampNeg y))))) q e0.2.2 := by
      rw [g3]
      exact ⟨cA, _, zget_set c1, c2⟩
    exact va_last hx hb hK hH.1 hH.2.1 hH.2.2.1 q t0 c1 c2 b1 hd (fun H1 locs1 p1 p2 p3 =>
      kk nu ls stc _ H1 locs1 ⟨⟨p1, p2, p3, zW.upd hZ hH.2.2.2.1 he0 g1 g2 hu.1 hcell (by rw [g3]; simp), zUn.upd hH.2.2.2.2 hu (zcovA_ok hcv hN.1 h1 _)⟩, hN, hL, hS, zF.putA (a := (n, k)) hF hN.1 h1 hu.1, hM⟩)
/-- an element that is a cell: its number follows its place -/
theorem zs_aald (hx : p.tables.exec = Jvm.exec) (hb : c.code = cc) (h0 : 0 < Z.2.2 ∧ gh 0 = 0) (hK : va_K D cl tys s) {n n2 t0 len ni m2 tg : Nat} {k k2 ki l2 : Int} {fts : List zFT} {ft : zFT} (hd : decode cc pc = .ok (.aaload, 1)) (hg : tg = 4 ∨ tg = 5)
    (ht : zty Z env (n, k) = some (tg, t0, len, fts)) (hj : fts[0]? = some ft) (hi : zbds env cd (ni, ki) len = true) (kk : zWP (zG Z D cl tys A ad gh wr H0 ws0 nu0 nL) (fun H locs pc ls st => W p l e R s m args below meth c H locs ce sl Q (F0 m pc ls st)) (pc + 1) (env, cd, L, (3, ni, ki + (ft.2.1.toNat : Int), 0, 0) :: st, fa, me)) : zWP (zG Z D cl tys A ad gh wr H0 ws0 nu0 nL) (fun H locs pc ls st => W p l e R s m args below meth c H locs ce sl Q (F0 m pc ls st)) pc (env, cd, L, (1, ni, ki, m2, l2) :: (3, n, k, n2, k2) :: st, fa, me) := by
  intro nu ls stc ws H locs hG
  obtain ⟨hH, hN, hL, hS, hF, hM⟩ := hG
  match stc, hS with
  | v2 :: v1 :: stc, ⟨⟨x, hx', h2⟩, ⟨q, hq, h1⟩, hS⟩ =>
    subst hq
    subst hx'
    obtain ⟨e0, he0, g1, g2, g3⟩ := zty_ok ht hN.1 h1
    have hc := hH.2.2.2.1 e0 he0 q g1 g2
    rw [g3] at hc
    obtain ⟨b1, b2, b3⟩ := zbds_ok (i := (ni, ki)) hi (hN.z0 h0) hN.1 hN.2.1 h2
    have hz : zV nu ni (ki + (ft.2.1.toNat : Int)) ((ft.2.1.toNat + x.toNatClampNeg : Nat) : Int) := by
      obtain ⟨u, hu, eu⟩ := h2
      exact ⟨u, hu, by omega⟩
    rcases hg with rfl | rfl
    · obtain ⟨cA, C, f, c1, c2, c3⟩ := hc
      refine va_aldq hx hb hK hH.1 q t0 c1 c2 b1 hd ?_
      rw [c3 _ ft b2 hj]
      exact kk nu ls _ ws H locs ⟨hH, hN, hL, ⟨⟨_, rfl, hz⟩, hS⟩, hF, hM⟩
    · obtain ⟨cA, f, c1, c2, c3⟩ := hc
      refine W.aald (v := va_rf (f x.toNatClampNeg)) (ty := .array .long) hx hb (hH.1 q _ c1) ((hK.2 t0 _ c2).1 len (fun j => va_rf (f j))) rfl (fun q => by cases q) (by show ¬ (x < 0 ∨ (arrV _ _ _).slots.size ≤ _); rw [arrV_size]; exact b1) (by show (arrV _ _ _).slots[_]? = _; rw [arrV_read _ _ b2]) rfl rfl hd ?_
      rw [c3 _ ft b2 hj]
      exact kk nu ls _ ws H locs ⟨hH, hN, hL, ⟨⟨_, rfl, hz⟩, hS⟩, hF, hM⟩
end ZA
end
section
/-! TEMPLATES: a state is an instance of one -/
abbrev zSrc : Type := Nat × Nat × Int × Nat
abbrev zTm : Type := List zSrc × zS
def zlin (a : zAV) : Option (Nat × Int) := if a.1 = 1 ∨ a.1 = 2 ∨ a.1 = 3 then some (a.2.1, a.2.2.1) else none
theorem zlin_ok {ad : Nat → Nat} {nu : List Int} {a : zAV} {b : Nat × Int} {v : Value} (h : zlin a = some b) (hv : zm ad nu a v) : ∃ z, zV nu b.1 b.2 z ∧ zval ad a.1 z v := by
  unfold zlin at h
  split at h
  · rename_i hh
    cases h
    obtain ⟨tg, n, k, n2, k2⟩ := a
    match tg, hv, hh with
    | 1, ⟨x, h1, h2⟩, _ => exact ⟨x.toInt, h2, x, h1, rfl⟩
    | 2, ⟨x, h1, h2⟩, _ => exact ⟨x.toInt, h2, x, h1, rfl⟩
    | 3, ⟨x, h1, h2⟩, _ => exact ⟨x, h2, x, h1, rfl⟩
    | 0, _, hh => simp at hh
    | 4, _, hh => simp at hh
  · cases h
def zeqI (a b : Int) : Bool := match a, b with
  | .ofNat m, .ofNat n => Nat.beq m n
  | .negSucc m, .negSucc n => Nat.beq m n
  | _, _ => false
theorem zeqI_ok {a b : Int} (h : zeqI a b = true) : a = b := by
  unfold zeqI at h
  split at h
  · rw [Nat.eq_of_beq_eq_true h]
  · rw [Nat.eq_of_beq_eq_true h]
  · cases h
def zff (fa : List zFa) (n : Nat) (k : Int) (j : Nat) : Option zAV := (fa.find? (fun f => Nat.beq f.2.2.1 j && (zeqI f.2.1 k && Nat.beq f.1 n))).map (fun f => f.2.2.2)
theorem zff_ok {ad : Nat → Nat} {nu : List Int} {ws : va_W} {fa : List zFa} {n j : Nat} {k : Int} {a : zAV} (h : zff fa n k j = some a) (hF : zF ad nu ws fa) : ∃ (q : Nat) (v : Value), zV nu n k q ∧ zfv ws q j = some v ∧ zm ad nu a v := by
  unfold zff at h
  obtain ⟨f, h1, rfl⟩ := Option.map_eq_some_iff.mp h
  have hp0 := List.find?_some h1
  have hp : (Nat.beq f.2.2.1 j && (zeqI f.2.1 k && Nat.beq f.1 n)) = true := hp0
  rw [Bool.and_eq_true, Bool.and_eq_true] at hp
  have p3 := Nat.eq_of_beq_eq_true hp.1
  have p2 := zeqI_ok hp.2.1
  have p1 := Nat.eq_of_beq_eq_true hp.2.2
  obtain ⟨q, v, g1, g2, g3⟩ := hF f (List.mem_of_find?_eq_some h1)
  rw [p1, p2] at g1
  rw [p3] at g2
  exact ⟨q, v, g1, g2, g3⟩
def zsrc (sg : zS) (acc : List (Nat × Int)) (sr : zSrc) : Option (Nat × Int) := match sr with
  | (0, i, _, _) => (sg.2.2.1[i]?).bind zlin
  | (1, i, _, _) => (sg.2.2.2.1[i]?).bind zlin
  | (2, n, k, j) => (acc[n]?).bind (fun a => (zff sg.2.2.2.2.1 a.1 (a.2 + k) j).bind zlin)
  | (_, _, k, _) => some (0, k)
def zinst (sg : zS) : List (Nat × Int) → List zSrc → Option (List (Nat × Int))
  | acc, [] => some acc
  | acc, sr :: r => match zsrc sg acc sr with
    | some a => zinst sg (acc ++ [a]) r
    | none => none
def zpre (pre : Nat) : List (Nat × Int) := (List.range pre).map (fun i => (i, 0))
def ztr (ins : List (Nat × Int)) (a : Nat × Int) : Option (Nat × Int) := (ins[a.1]?).map (fun b => (b.1, b.2 + a.2))
def zeqB (env : List zIv) (cd : List zCd) (a b : Nat × Int) : Bool := (a.1 == b.1 && decide (a.2 = b.2)) || (zle env cd a b && zle env cd b a)
/-- the template's value is the state's -/
def zavB (env : List zIv) (cd : List zCd) (ins : List (Nat × Int)) (t a : zAV) : Bool :=
  if t.1 = 0 then true else match ztr ins (t.2.1, t.2.2.1), zlin a with
    | some x, some y => t.1 == a.1 && zeqB env cd x y
    | _, _ => false
def zlsB (env : List zIv) (cd : List zCd) (ins : List (Nat × Int)) : List zAV → List zAV → Bool
  | [], [] => true
  | t :: ts, a :: as => zavB env cd ins t a && zlsB env cd ins ts as
  | _, _ => false
def zinV (env : List zIv) (cd : List zCd) (a : Nat × Int) (iv : zIv) : Bool := zin env a iv || (match iv with
  | [(lo, hi)] => zinX env cd a lo hi
  | _ => false)
theorem zinV_ok {env : List zIv} {cd : List zCd} {nu : List Int} {a : Nat × Int} {iv : zIv} {x : Int} (h : zinV env cd a iv = true) (h0 : nu[0]? = some 0) (he : zEnv env nu) (hc : zCds cd nu) (hx : zV nu a.1 a.2 x) : zInIv x iv := by
  unfold zinV at h
  rcases Bool.or_eq_true_iff.mp h with h | h
  · exact zin_ok h he hx
  · split at h
    · obtain ⟨g1, g2⟩ := zinX_ok h h0 he hc hx
      exact ⟨_, List.mem_cons_self, g1, g2⟩
    · cases h
def zevB (env : List zIv) (cd : List zCd) : List (Nat × Int) → List zIv → Bool
  | [], [] => true
  | a :: as, iv :: ivs => zinV env cd a iv && zevB env cd as ivs
  | _, _ => false
def zcdB (env : List zIv) (cd : List zCd) (ins : List (Nat × Int)) (q : zCd) : Bool := match ins[q.1]?, ins[q.2.1]? with
  | some a, some b => zle env cd a (b.1, b.2 + q.2.2)
  | _, _ => false
def zfaB (env : List zIv) (cd : List zCd) (fa : List zFa) (ins : List (Nat × Int)) (f : zFa) : Bool := match ztr ins (f.1, f.2.1) with
  | some a => (match zff fa a.1 a.2 f.2.2.1 with
    | some v => zavB env cd ins f.2.2.2 v
    | none => false)
  | none => false
def zmB (sg : zS) (ins : List (Nat × Int)) (T : zS) : Bool :=
  zevB sg.1 sg.2.1 ins T.1 && (T.2.1.all (zcdB sg.1 sg.2.1 ins) && (zlsB sg.1 sg.2.1 ins T.2.2.1 sg.2.2.1 && (zlsB sg.1 sg.2.1 ins T.2.2.2.1 sg.2.2.2.1 && (T.2.2.2.2.1.all (zfaB sg.1 sg.2.1 sg.2.2.2.2.1 ins) && T.2.2.2.2.2.isEmpty))))
/-- every instance has its number -/
def zIn (nu : List Int) (ins : List (Nat × Int)) (nu' : List Int) : Prop := nu'.length = ins.length ∧ ∀ (i : Nat) (a : Nat × Int), ins[i]? = some a → ∃ z, nu'[i]? = some z ∧ zV nu a.1 a.2 z
theorem zIn.snoc {nu nu' : List Int} {ins : List (Nat × Int)} {a : Nat × Int} {z : Int} (h : zIn nu ins nu') (ha : zV nu a.1 a.2 z) : zIn nu (ins ++ [a]) (nu' ++ [z]) := by
  refine ⟨by simp [h.1], fun i b hb => ?_⟩
  by_cases hl : i < ins.length
  · rw [List.getElem?_append_left hl] at hb
    obtain ⟨w, h1, h2⟩ := h.2 i b hb
    exact ⟨w, by rw [List.getElem?_append_left (by rw [h.1]; exact hl)]; exact h1, h2⟩
  · rw [List.getElem?_append_right (by omega)] at hb
    have h0 : i - ins.length < 1 := (List.getElem?_eq_some_iff.mp hb).1
    have e : i = ins.length := by omega
    subst e
    rw [Nat.sub_self] at hb
    cases hb
    refine ⟨z, ?_, ha⟩
    rw [← h.1, List.getElem?_append_right (Nat.le_refl _), Nat.sub_self]
    rfl
theorem zpre_ok {nu : List Int} {pre : Nat} (h : pre ≤ nu.length) : zIn nu (zpre pre) (nu.take pre) := by
  refine ⟨by simp [zpre]; omega, fun i a ha => ?_⟩
  unfold zpre at ha
  rw [List.getElem?_map] at ha
  by_cases hl : i < pre
  · rw [List.getElem?_range hl] at ha
    cases ha
    have hl2 : i < nu.length := by omega
    exact ⟨nu[i], by rw [List.getElem?_take_of_lt hl]; exact List.getElem?_eq_getElem hl2, nu[i], List.getElem?_eq_getElem hl2, by simp⟩
  · have hn0 : (List.range pre)[i]? = none := List.getElem?_eq_none (by rw [List.length_range]; omega)
    rw [hn0] at ha
    cases ha
theorem ztr_ok {nu nu' : List Int} {ins : List (Nat × Int)} {a b : Nat × Int} (h : zIn nu ins nu') (ht : ztr ins a = some b) : ∃ z, zV nu' a.1 a.2 z ∧ zV nu b.1 b.2 z := by
  unfold ztr at ht
  obtain ⟨c, h1, rfl⟩ := Option.map_eq_some_iff.mp ht
  obtain ⟨z, h2, u, h3, h4⟩ := h.2 _ _ h1
  exact ⟨z + a.2, ⟨z, h2, rfl⟩, ⟨u, h3, by omega⟩⟩
theorem zsrc_ok {ad : Nat → Nat} {nu nu' : List Int} {nL : Nat} {ls : Array Slot} {stc : List Value} {ws : va_W} {sg : zS} {acc : List (Nat × Int)} {sr : zSrc} {a : Nat × Int} (h0 : nu[0]? = some 0) (hL : zL ad nu nL ls sg.2.2.1) (hS : zall (zm ad nu) sg.2.2.2.1 stc) (hF : zF ad nu ws sg.2.2.2.2.1) (h : zsrc sg acc sr = some a) : ∃ z, zV nu a.1 a.2 z := by
  obtain ⟨tg, i, k, j⟩ := sr
  match tg, h with
  | 0, h =>
    obtain ⟨b, h1, h2⟩ := Option.bind_eq_some_iff.mp h
    have hb : b.1 ≠ 0 := by
      intro q
      unfold zlin at h2
      rw [q] at h2
      simp at h2
    obtain ⟨v, h3, h4⟩ := hL.2.2.2 i b h1 hb
    obtain ⟨z, h5, -⟩ := zlin_ok h2 h4
    exact ⟨z, h5⟩
  | 1, h =>
    obtain ⟨b, h1, h2⟩ := Option.bind_eq_some_iff.mp h
    obtain ⟨v, h3, h4⟩ := hS.get h1
    obtain ⟨z, h5, -⟩ := zlin_ok h2 h4
    exact ⟨z, h5⟩
  | 2, h =>
    obtain ⟨b, h1, h2⟩ := Option.bind_eq_some_iff.mp h
    obtain ⟨c, h3, h4⟩ := Option.bind_eq_some_iff.mp h2
    obtain ⟨q, v, g1, g2, g3⟩ := zff_ok h3 hF
    obtain ⟨z, h5, -⟩ := zlin_ok h4 g3
    exact ⟨z, h5⟩
  | n + 3, h =>
    cases h
    exact ⟨k, 0, h0, by omega⟩
theorem zinst_ok {ad : Nat → Nat} {nu : List Int} {nL : Nat} {ls : Array Slot} {stc : List Value} {ws : va_W} {sg : zS} (h0 : nu[0]? = some 0) (hL : zL ad nu nL ls sg.2.2.1) (hS : zall (zm ad nu) sg.2.2.2.1 stc) (hF : zF ad nu ws sg.2.2.2.2.1) :
    ∀ (srs : List zSrc) (acc ins : List (Nat × Int)) (nu' : List Int), zIn nu acc nu' → zinst sg acc srs = some ins → ∃ t, zIn nu ins (nu' ++ t)
  | [], acc, ins, nu', h, hi => by cases hi; exact ⟨[], by rw [List.append_nil]; exact h⟩
  | sr :: r, acc, ins, nu', h, hi => by
    unfold zinst at hi
    split at hi
    · rename_i a ha
      obtain ⟨z, hz⟩ := zsrc_ok (nu' := nu') h0 hL hS hF ha
      obtain ⟨t, ht⟩ := zinst_ok h0 hL hS hF r _ ins _ (h.snoc hz) hi
      exact ⟨[z] ++ t, by rw [← List.append_assoc]; exact ht⟩
    · cases hi
theorem zeqB_ok {env : List zIv} {cd : List zCd} {nu : List Int} {a b : Nat × Int} {x y : Int} (h : zeqB env cd a b = true) (he : zEnv env nu) (hc : zCds cd nu) (hx : zV nu a.1 a.2 x) (hy : zV nu b.1 b.2 y) : x = y := by
  unfold zeqB at h
  rcases Bool.or_eq_true_iff.mp h with h | h
  · rw [Bool.and_eq_true, beq_iff_eq, decide_eq_true_eq] at h
    rw [h.1, h.2] at hx
    exact hx.eq hy
  · rw [Bool.and_eq_true] at h
    have h1 := zle_ok h.1 he hc hx hy
    have h2 := zle_ok h.2 he hc hy hx
    omega
theorem zval_zm {ad : Nat → Nat} {nu : List Int} {t : zAV} {v : Value} {z : Int} (h : zval ad t.1 z v) (hz : zV nu t.2.1 t.2.2.1 z) : zm ad nu t v := by
  obtain ⟨tg, n, k, n2, k2⟩ := t
  match tg, h with
  | 1, ⟨x, h1, h2⟩ => exact ⟨x, h1, by rw [h2]; exact hz⟩
  | 2, ⟨x, h1, h2⟩ => exact ⟨x, h1, by rw [h2]; exact hz⟩
  | 3, ⟨x, h1, h2⟩ => exact ⟨x, h1, by rw [h2]; exact hz⟩
theorem zavB_ok {ad : Nat → Nat} {env : List zIv} {cd : List zCd} {nu nu' : List Int} {ins : List (Nat × Int)} {t a : zAV} {v : Value} (h : zavB env cd ins t a = true) (he : zEnv env nu) (hc : zCds cd nu) (hi : zIn nu ins nu') (hv : zm ad nu a v) : zm ad nu' t v := by
  unfold zavB at h
  by_cases h0 : t.1 = 0
  · obtain ⟨tg, n, k, n2, k2⟩ := t
    have h0 : tg = 0 := h0
    subst h0
    trivial
  · rw [if_neg h0] at h
    split at h
    · rename_i x y hx hy
      rw [Bool.and_eq_true, beq_iff_eq] at h
      obtain ⟨z, g1, g2⟩ := ztr_ok hi hx
      obtain ⟨w, g3, g4⟩ := zlin_ok hy hv
      have e := zeqB_ok h.2 he hc g2 g3
      subst e
      rw [← h.1] at g4
      exact zval_zm g4 g1
    · cases h
theorem zlsB_len {env : List zIv} {cd : List zCd} {ins : List (Nat × Int)} : ∀ {ts as : List zAV}, zlsB env cd ins ts as = true → ts.length = as.length
  | [], [], _ => rfl
  | t :: ts, a :: as, h => by
    have h : (zavB env cd ins t a && zlsB env cd ins ts as) = true := h
    rw [Bool.and_eq_true] at h
    rw [List.length_cons, List.length_cons, zlsB_len h.2]
  | [], a :: as, h => by cases h
  | t :: ts, [], h => by cases h
theorem zlsB_get {env : List zIv} {cd : List zCd} {ins : List (Nat × Int)} : ∀ {ts as : List zAV}, zlsB env cd ins ts as = true → ∀ {i : Nat} {t : zAV}, ts[i]? = some t → ∃ a, as[i]? = some a ∧ zavB env cd ins t a = true
  | t0 :: ts, a0 :: as, h, i, t, ht => by
    have h : (zavB env cd ins t0 a0 && zlsB env cd ins ts as) = true := h
    rw [Bool.and_eq_true] at h
    cases i with
    | zero => rw [List.getElem?_cons_zero] at ht; cases ht; exact ⟨a0, rfl, h.1⟩
    | succ i => rw [List.getElem?_cons_succ] at ht; rw [List.getElem?_cons_succ]; exact zlsB_get h.2 ht
  | [], _, h, i, t, ht => by simp at ht
  | t :: ts, [], h, _, _, _ => by cases h
theorem zlsB_all {ad : Nat → Nat} {env : List zIv} {cd : List zCd} {nu nu' : List Int} {ins : List (Nat × Int)} (he : zEnv env nu) (hc : zCds cd nu) (hi : zIn nu ins nu') : ∀ {ts as : List zAV} {vs : List Value}, zlsB env cd ins ts as = true → zall (zm ad nu) as vs → zall (zm ad nu') ts vs
  | [], [], [], _, _ => trivial
  | t :: ts, a :: as, v :: vs, h, hv => by
    have h : (zavB env cd ins t a && zlsB env cd ins ts as) = true := h
    rw [Bool.and_eq_true] at h
    exact ⟨zavB_ok h.1 he hc hi hv.1, zlsB_all he hc hi h.2 hv.2⟩
  | [], a :: as, _, h, _ => by cases h
  | t :: ts, [], _, h, _ => by cases h
theorem zevB_ok {env : List zIv} {cd : List zCd} {nu : List Int} (h0 : nu[0]? = some 0) (he : zEnv env nu) (hc : zCds cd nu) : ∀ {ins : List (Nat × Int)} {ivs : List zIv}, zevB env cd ins ivs = true → ins.length = ivs.length ∧ ∀ (i : Nat) (a : Nat × Int) (iv : zIv), ins[i]? = some a → ivs[i]? = some iv → ∀ z, zV nu a.1 a.2 z → zInIv z iv
  | [], [], _ => ⟨rfl, fun i a iv h => by simp at h⟩
  | a0 :: as, iv0 :: ivs, h => by
    have h : (zinV env cd a0 iv0 && zevB env cd as ivs) = true := h
    rw [Bool.and_eq_true] at h
    obtain ⟨h1, h2⟩ := zevB_ok h0 he hc h.2
    refine ⟨by simp [h1], fun i a iv ha hv z hz => ?_⟩
    cases i with
    | zero =>
      rw [List.getElem?_cons_zero] at ha hv
      cases ha
      cases hv
      exact zinV_ok h.1 h0 he hc hz
    | succ i =>
      rw [List.getElem?_cons_succ] at ha hv
      exact h2 i a iv ha hv z hz
  | [], _ :: _, h => by cases h
  | _ :: _, [], h => by cases h
/-- THE MATCH: the numbers of the template's names; they hold what it says -/
theorem zmB_ok {ad : Nat → Nat} {nu nu' : List Int} {nL : Nat} {ls : Array Slot} {stc : List Value} {ws : va_W} {sg T : zS} {ins : List (Nat × Int)} (h : zmB sg ins T = true) (h0 : nu[0]? = some 0) (he : zEnv sg.1 nu) (hc : zCds sg.2.1 nu) (hL : zL ad nu nL ls sg.2.2.1) (hS : zall (zm ad nu) sg.2.2.2.1 stc) (hF : zF ad nu ws sg.2.2.2.2.1) (hi : zIn nu ins nu') :
    zEnv T.1 nu' ∧ zCds T.2.1 nu' ∧ zL ad nu' nL ls T.2.2.1 ∧ zall (zm ad nu') T.2.2.2.1 stc ∧ zF ad nu' ws T.2.2.2.2.1 ∧ zMes T.2.2.2.2.2 nu' := by
  unfold zmB at h
  rw [Bool.and_eq_true, Bool.and_eq_true, Bool.and_eq_true, Bool.and_eq_true, Bool.and_eq_true] at h
  obtain ⟨h1, h2, h3, h4, h5, h6⟩ := h
  obtain ⟨e1, e2⟩ := zevB_ok h0 he hc h1
  refine ⟨⟨by rw [hi.1]; exact e1, fun i iv hv => ?_⟩, fun q hq => ?_, ⟨hL.1, by rw [zlsB_len h3]; exact hL.2.1, hL.2.2.1, fun i t ht h0 => ?_⟩, zlsB_all he hc hi h4 hS, fun f hf => ?_, fun q hq => ?_⟩
  · have hl : i < ins.length := by rw [e1]; exact (List.getElem?_eq_some_iff.mp hv).1
    obtain ⟨z, g1, g2⟩ := hi.2 i _ (List.getElem?_eq_getElem hl)
    exact ⟨z, g1, e2 i _ iv (List.getElem?_eq_getElem hl) hv z g2⟩
  · have g := List.all_eq_true.mp h2 q hq
    unfold zcdB at g
    split at g
    · rename_i a b ha hb
      obtain ⟨x, x1, x2⟩ := hi.2 _ _ ha
      obtain ⟨y, y1, y2⟩ := hi.2 _ _ hb
      exact ⟨x, y, x1, y1, zle_ok (b := (b.1, b.2 + q.2.2)) g he hc x2 (y2.up q.2.2)⟩
    · cases g
  · obtain ⟨a, g1, g2⟩ := zlsB_get h3 ht
    have ha0 : a.1 ≠ 0 := by
      intro z
      unfold zavB at g2
      rw [if_neg h0] at g2
      split at g2
      · rename_i x y hx hy
        unfold zlin at hy
        rw [z] at hy
        simp at hy
      · cases g2
    obtain ⟨v, g3, g4⟩ := hL.2.2.2 i a g1 ha0
    exact ⟨v, g3, zavB_ok g2 he hc hi g4⟩
  · have g := List.all_eq_true.mp h5 f hf
    unfold zfaB at g
    split at g
    · rename_i a ha
      split at g
      · rename_i w hw
        obtain ⟨z, z1, z2⟩ := ztr_ok hi ha
        obtain ⟨q, v, q1, q2, q3⟩ := zff_ok hw hF
        have e : z = q := z2.eq q1
        subst e
        exact ⟨q, v, z1, q2, zavB_ok g he hc hi q3⟩
      · cases g
    · cases g
  · rw [List.isEmpty_iff] at h6
    rw [h6] at hq
    cases hq
end
section
/-! CONTRACTS, CALLS, RETURNS -/
/-- a contract: method, bytes, locals, answer's type, (frames, locals' words), entry, exits, what it may write -/
abbrev zK : Type := MethodName × ByteArray × Nat × Option FieldType × (Nat × Nat) × zTm × List zTm × zWr
abbrev zRO : Type := (Nat → Nat) → (Nat → Prop) → State → Heap → Prop
def zels (As : List Value) (n : Nat) : Array Slot := (lg_sl As ++ List.replicate (n - (lg_sl As).length) Slot.unset).toArray
def zrm (K : zK) : Room := { frames := K.2.2.2.2.1.1, cells := 0, slots := 0, locals := K.2.2.2.2.1.2 }
abbrev zKT (K : zK) : zS := K.2.2.2.2.2.1.2
abbrev zKA (K : zK) : List zTm := K.2.2.2.2.2.2.1
abbrev zKW (K : zK) : zWr := K.2.2.2.2.2.2.2
/-- what holds at an entry -/
def zEnt (Z : zZ) (ad : Nat → Nat) (gh : Nat → Int) (tys : List (ClassId × FieldType)) (K : zK) (ws : va_W) (nu : List Int) (As : List Value) : Prop :=
  zW Z ad gh tys ws ∧ zEnv (zKT K).1 nu ∧ zCds (zKT K).2.1 nu ∧ (∀ g, g < Z.2.2 → nu[g]? = some (gh g)) ∧ zL ad nu K.2.2.1 (zels As K.2.2.1) (zKT K).2.2.1 ∧ (zKT K).2.2.2.1 = [] ∧ zF ad nu ws (zKT K).2.2.2.2.1 ∧ (zKT K).2.2.2.2.2 = []
/-- what holds at an exit -/
def zExt (ad : Nat → Nat) (nu : List Int) (alt : zS) (ws : va_W) (v : Option Value) : Prop := ∃ t, zEnv alt.1 (nu ++ t) ∧ zCds alt.2.1 (nu ++ t) ∧ zall (zm ad (nu ++ t)) alt.2.2.2.1 v.toList ∧ zF ad (nu ++ t) ws alt.2.2.2.2.1
def zQc (Z : zZ) (D : va_G) (cl : List vw_C) (tys : List (ClassId × FieldType)) (A : Nat → Prop) (ad : Nat → Nat) (gh : Nat → Int) (alts : List zTm) (wr : zWr) (ws : va_W) (nu : List Int) : Array Value → State → Outcome → State → Prop := fun _ st o t =>
  va_F A st t ∧ ∃ (alt : zTm) (v : Option Value) (ws' : va_W), alt ∈ alts ∧ o = .returned v ∧ va_P D cl ws' t.heap ∧ va_D A ws' ∧ zW Z ad gh tys ws' ∧ zUn wr ws ws' ∧ zExt ad nu alt.2 ws' v
def zPc (D : va_G) (cl : List vw_C) (tys : List (ClassId × FieldType)) (A : Nat → Prop) (ad : Nat → Nat) (RO : zRO) (ws : va_W) (As : List Value) : Array Value → State → Prop := fun a U => a = As.toArray ∧ va_P D cl ws U.heap ∧ va_K D cl tys U ∧ RO ad A U U.heap
def zMet (l : Launch) (Ts : List Cond) (cl : List vw_C) (Z : zZ) (RO : zRO) (K : zK) : Prop := ∀ (D : va_G) (tys : List (ClassId × FieldType)) (A : Nat → Prop) (ad : Nat → Nat) (gh : Nat → Int) (ws : va_W) (nu : List Int) (As : List Value), (0 < Z.2.2 ∧ gh 0 = 0) → zEnt Z ad gh tys K ws nu As → va_D A ws →
  Met l K.1 (Cond.code K.1 K.2.1 K.2.2.1 K.2.2.2.1 :: Ts) (zrm K) (zPc D cl tys A ad RO ws As) (zQc Z D cl tys A ad gh (zKA K) (zKW K) ws nu) 0 0 A
/-- how the read-only part moves -/
def zROk (RO : zRO) : Prop := (∀ (ad : Nat → Nat) (A : Nat → Prop) (s U : State) (H : Heap), s.WarmedH U.vm → RO ad A s H → RO ad A U H) ∧ (∀ (ad : Nat → Nat) (A : Nat → Prop) (u U : State) (H : Heap), u.vm = U.vm → RO ad A u H → RO ad A U H) ∧
  ∀ (ad : Nat → Nat) (A : Nat → Prop) (U : State) (H H1 : Heap), (∀ a : Nat, a < H.size → ¬ A a → H1[a]? = H[a]?) → RO ad A U H → RO ad A U H1
theorem zPc.blind {D : va_G} {cl : List vw_C} {tys : List (ClassId × FieldType)} {A : Nat → Prop} {ad : Nat → Nat} {RO : zRO} {ws : va_W} {As : List Value} (hR : zROk RO) : FrameBlind (zPc D cl tys A ad RO ws As) := fun a U g mk ⟨h1, h2, h3, h4⟩ =>
  ⟨h1, h2, va_K.moved (u := U) (U := U.calling g mk a) (Vm.Alike.refl U.vm) h3, hR.2.1 ad A U _ _ rfl h4⟩
/-- the arguments as locals -/
def zlay : List zAV → List zAV
  | [] => []
  | a :: r => if a.1 = 2 then a :: z0 :: zlay r else a :: zlay r
def zlayP (avs : List zAV) (n : Nat) : List zAV := zlay avs ++ List.replicate (n - (zlay avs).length) z0
theorem zlay_ok {ad : Nat → Nat} {nu : List Int} : ∀ {avs : List zAV} {As : List Value}, zall (zm ad nu) avs As → (∀ a ∈ avs, a.1 ≠ 0) → (zlay avs).length = (lg_sl As).length ∧ ∀ (i b : Nat) (a : zAV), (zlay avs)[i]? = some a → a.1 ≠ 0 → ∃ v, (b + i, v) ∈ lv_args b As ∧ zm ad nu a v
  | [], [], _, _ => ⟨rfl, fun i b a h => by simp [zlay] at h⟩
  | a0 :: avs, v0 :: As, h, h0 => by
    obtain ⟨e1, e2⟩ := zlay_ok h.2 (fun a ha => h0 a (List.mem_cons_of_mem _ ha))
    have hc := zcat_ok h.1 (h0 a0 List.mem_cons_self)
    by_cases ht : a0.1 = 2
    · have hc2 : v0.category = 2 := by rw [hc]; simp [zcat, ht]
      have el : zlay (a0 :: avs) = a0 :: z0 :: zlay avs := if_pos ht
      have es : lg_sl (v0 :: As) = .val v0 :: .second :: lg_sl As := by simp [lg_sl, hc2]
      have ev : ∀ b, lv_args b (v0 :: As) = (b, v0) :: lv_args (b + 2) As := fun b => by simp [lv_args, hc2]
      rw [el, es]
      refine ⟨by simp [e1], fun i b a hi ha => ?_⟩
      rw [ev]
      match i, hi with
      | 0, hi => rw [List.getElem?_cons_zero] at hi; cases hi; exact ⟨v0, List.mem_cons_self, h.1⟩
      | 1, hi => cases hi; exact absurd rfl ha
      | i + 2, hi =>
        rw [List.getElem?_cons_succ, List.getElem?_cons_succ] at hi
        obtain ⟨v, g1, g2⟩ := e2 i (b + 2) a hi ha
        exact ⟨v, List.mem_cons_of_mem _ (by rw [show b + (i + 2) = b + 2 + i by omega]; exact g1), g2⟩
    · have hc2 : ¬ v0.category = 2 := by rw [hc]; simp [zcat, ht]
      have el : zlay (a0 :: avs) = a0 :: zlay avs := if_neg ht
      have es : lg_sl (v0 :: As) = .val v0 :: lg_sl As := by simp [lg_sl, hc2]
      have ev : ∀ b, lv_args b (v0 :: As) = (b, v0) :: lv_args (b + 1) As := fun b => by simp [lv_args, hc2]
      rw [el, es]
      refine ⟨by simp [e1], fun i b a hi ha => ?_⟩
      rw [ev]
      match i, hi with
      | 0, hi => rw [List.getElem?_cons_zero] at hi; cases hi; exact ⟨v0, List.mem_cons_self, h.1⟩
      | i + 1, hi =>
        rw [List.getElem?_cons_succ] at hi
        obtain ⟨v, g1, g2⟩ := e2 i (b + 1) a hi ha
        exact ⟨v, List.mem_cons_of_mem _ (by rw [show b + (i + 1) = b + 1 + i by omega]; exact g1), g2⟩
theorem zlayP_ok {ad : Nat → Nat} {nu : List Int} {avs : List zAV} {As : List Value} {n : Nat} (h : zall (zm ad nu) avs As) (h0 : ∀ a ∈ avs, a.1 ≠ 0) (hn : (zlay avs).length ≤ n) : zL ad nu n (zels As n) (zlayP avs n) := by
  obtain ⟨e1, e2⟩ := zlay_ok h h0
  have hl := lv_entry As (n := n) (by rw [← e1]; exact hn)
  refine ⟨hl.1, by simp [zlayP]; omega, hl.2.1, fun i a hi ha => ?_⟩
  unfold zlayP at hi
  by_cases hil : i < (zlay avs).length
  · rw [List.getElem?_append_left hil] at hi
    obtain ⟨v, g1, g2⟩ := e2 i 0 a hi ha
    exact ⟨v, hl.2.2 (i, v) (by rw [Nat.zero_add] at g1; exact g1), g2⟩
  · rw [List.getElem?_append_right (by omega)] at hi
    rw [List.getElem?_replicate] at hi
    split at hi
    · cases hi
      exact absurd rfl ha
    · cases hi
/-- behind a call -/
def zmeet1 (iv jv : zIv) : zIv := iv.flatMap (fun p => jv.filterMap (fun q => bif (zltI p.2 q.1 || zltI q.2 p.1) then none else if (if p.1 ≤ q.1 then q.1 else p.1) ≤ (if p.2 ≤ q.2 then p.2 else q.2) then some (if p.1 ≤ q.1 then q.1 else p.1, if p.2 ≤ q.2 then p.2 else q.2) else none))
theorem zmeet1_ok {iv jv : zIv} {z : Int} (h1 : zInIv z iv) (h2 : zInIv z jv) : zInIv z (zmeet1 iv jv) := by
  obtain ⟨p, hp, p1, p2⟩ := h1
  obtain ⟨q, hq, q1, q2⟩ := h2
  have a1 : (if p.1 ≤ q.1 then q.1 else p.1) ≤ z := by split <;> omega
  have a2 : z ≤ (if p.2 ≤ q.2 then p.2 else q.2) := by split <;> omega
  refine ⟨(if p.1 ≤ q.1 then q.1 else p.1, if p.2 ≤ q.2 then p.2 else q.2), List.mem_flatMap.mpr ⟨p, hp, List.mem_filterMap.mpr ⟨q, hq, ?_⟩⟩, a1, a2⟩
  have hr : (zltI p.2 q.1 || zltI q.2 p.1) = false := by
    cases hb : (zltI p.2 q.1 || zltI q.2 p.1) with
    | false => rfl
    | true =>
      rcases Bool.or_eq_true_iff.mp hb with g | g
      · have g1 := zltI_ok g
        omega
      · have g1 := zltI_ok g
        omega
  rw [hr]
  exact if_pos (Int.le_trans a1 a2)
def zrefine : List zIv → List (Nat × Int) → List zIv → List zIv
  | env, a :: as, iv :: ivs => if zin env a iv = true then zrefine env as ivs else zrefine (env.set a.1 (zmeet1 (zE env a.1) (iv.map (fun p => (p.1 - a.2, p.2 - a.2))))) as ivs
  | env, _, _ => env
theorem zrefine_ok {nu : List Int} : ∀ {env : List zIv} {ins : List (Nat × Int)} {ivs : List zIv}, zEnv env nu → (∀ (i : Nat) (a : Nat × Int) (iv : zIv), ins[i]? = some a → ivs[i]? = some iv → ∃ z, zV nu a.1 a.2 z ∧ zInIv z iv) → zEnv (zrefine env ins ivs) nu
  | env, a :: as, iv :: ivs, he, h => by
    have ht : ∀ (i : Nat) (b : Nat × Int) (jv : zIv), as[i]? = some b → ivs[i]? = some jv → ∃ z, zV nu b.1 b.2 z ∧ zInIv z jv := fun i b jv h1 h2 => h (i + 1) b jv (by rw [List.getElem?_cons_succ]; exact h1) (by rw [List.getElem?_cons_succ]; exact h2)
    unfold zrefine
    split
    · exact zrefine_ok he ht
    · refine zrefine_ok (he.set (fun x hx => ?_)) ht
      obtain ⟨z, ⟨u, hu, rfl⟩, p, hp, p1, p2⟩ := h 0 a iv rfl rfl
      rw [hu] at hx
      cases hx
      exact zmeet1_ok (he.at hu) ⟨(p.1 - a.2, p.2 - a.2), List.mem_map.mpr ⟨p, hp, rfl⟩, by show p.1 - a.2 ≤ x; omega, by show x ≤ p.2 - a.2; omega⟩
  | env, [], _, he, _ => by unfold zrefine; exact he
  | env, _ :: _, [], he, _ => by unfold zrefine; exact he
def zkillW (env : List zIv) (wr : zWr) (fa : List zFa) : List zFa := fa.filter (fun f => wr.all (fun w => (!(w.2.2.1 == 0) && !(w.2.2.2 == f.2.2.1)) || (zltI (zhi env f.1 + f.2.1) w.1 || zltI w.2.1 (zlo env f.1 + f.2.1))))
def ztrA (ins : List (Nat × Int)) (a : zAV) : zAV := match ztr ins (a.2.1, a.2.2.1) with
  | some b => (a.1, b.1, b.2, 0, 0)
  | none => z0
def ztrF (ins : List (Nat × Int)) (f : zFa) : Option zFa := (ztr ins (f.1, f.2.1)).map (fun b => (b.1, b.2, f.2.2.1, ztrA ins f.2.2.2))
def ztrC (ins : List (Nat × Int)) (q : zCd) : Option zCd := match ins[q.1]?, ins[q.2.1]? with
  | some a, some b => some (a.1, b.1, b.2 + q.2.2 - a.2)
  | _, _ => none
def zins2 (env : List zIv) (ins : List (Nat × Int)) (k : Nat) : List (Nat × Int) := ins ++ (List.range k).map (fun i => (env.length + i, 0))
/-- an exit that can't be: its ends and the caller's are apart -/
def zalB (env : List zIv) : List (Nat × Int) → List zIv → Bool
  | a :: as, iv :: ivs => (zE env a.1).any (fun p => iv.any (fun q => zleI (p.1 + a.2) q.2 && zleI q.1 (p.2 + a.2))) && zalB env as ivs
  | _, _ => true
theorem zleI_of {a b : Int} (h : a ≤ b) : zleI a b = true := by
  unfold zleI
  cases g : zltI b a with
  | false => rfl
  | true =>
    have g1 := zltI_ok g
    omega
theorem zalB_ok {env : List zIv} {nu : List Int} (he : zEnv env nu) : ∀ {ins : List (Nat × Int)} {ivs : List zIv}, (∀ (i : Nat) (a : Nat × Int) (iv : zIv), ins[i]? = some a → ivs[i]? = some iv → ∃ z, zV nu a.1 a.2 z ∧ zInIv z iv) → zalB env ins ivs = true
  | [], [], _ => rfl
  | [], _ :: _, _ => rfl
  | _ :: _, [], _ => rfl
  | a :: as, iv :: ivs, h => by
    unfold zalB
    rw [Bool.and_eq_true]
    refine ⟨?_, zalB_ok he (fun i b jv h1 h2 => h (i + 1) b jv (by rw [List.getElem?_cons_succ]; exact h1) (by rw [List.getElem?_cons_succ]; exact h2))⟩
    obtain ⟨z, ⟨u, u1, u2⟩, q, hq, q1, q2⟩ := h 0 a iv rfl rfl
    obtain ⟨p, hp, p1, p2⟩ := he.at u1
    refine List.any_eq_true.mpr ⟨p, hp, List.any_eq_true.mpr ⟨q, hq, ?_⟩⟩
    rw [Bool.and_eq_true]
    exact ⟨zleI_of (by omega), zleI_of (by omega)⟩
/-- the intervals, by conditions -/
def zfoldC : List zIv → List zCd → List zIv
  | env, [] => env
  | env, q :: r => zfoldC (zasE env (q.1, 0) (q.2.1, q.2.2)) r
theorem zfoldC_ok {nu : List Int} : ∀ {cd : List zCd} {env : List zIv}, zEnv env nu → zCds cd nu → zEnv (zfoldC env cd) nu
  | [], env, he, _ => he
  | q :: r, env, he, hc => by
    obtain ⟨x, y, h1, h2, h3⟩ := hc q List.mem_cons_self
    exact zfoldC_ok (cd := r) (zasE_ok (a := (q.1, 0)) (b := (q.2.1, q.2.2)) he ⟨x, h1, rfl⟩ ⟨y, h2, rfl⟩ (by omega)) (fun p hp => hc p (List.mem_cons_of_mem _ hp))
/-- the caller's state behind an exit -/
def zpost (sg : zS) (rest : List zAV) (ins : List (Nat × Int)) (wr : zWr) (alt : zS) : zS :=
  (zfoldC (zrefine (sg.1 ++ alt.1.drop ins.length) ins alt.1) (alt.2.1.filterMap (ztrC (zins2 sg.1 ins (alt.1.drop ins.length).length))), sg.2.1 ++ alt.2.1.filterMap (ztrC (zins2 sg.1 ins (alt.1.drop ins.length).length)), sg.2.2.1, alt.2.2.2.1.map (ztrA (zins2 sg.1 ins (alt.1.drop ins.length).length)) ++ rest,
    alt.2.2.2.2.1.filterMap (ztrF (zins2 sg.1 ins (alt.1.drop ins.length).length)) ++ zkillW sg.1 wr sg.2.2.2.2.1, sg.2.2.2.2.2)
theorem zIn.app {nu nu' : List Int} {ins : List (Nat × Int)} (h : zIn nu ins nu') (env : List zIv) (he : nu.length = env.length) (t : List Int) : zIn (nu ++ t) (zins2 env ins t.length) (nu' ++ t) := by
  refine ⟨by simp [zins2, h.1], fun i a ha => ?_⟩
  unfold zins2 at ha
  by_cases hl : i < ins.length
  · rw [List.getElem?_append_left hl] at ha
    obtain ⟨z, h1, h2⟩ := h.2 i a ha
    exact ⟨z, by rw [List.getElem?_append_left (by rw [h.1]; exact hl)]; exact h1, h2.app⟩
  · rw [List.getElem?_append_right (by omega), List.getElem?_map] at ha
    by_cases hk : i - ins.length < t.length
    · rw [List.getElem?_range hk] at ha
      cases ha
      refine ⟨t[i - ins.length], ?_, t[i - ins.length], ?_, by simp⟩
      · rw [List.getElem?_append_right (by rw [h.1]; omega), h.1]
        exact List.getElem?_eq_getElem hk
      · show (nu ++ t)[env.length + (i - ins.length)]? = _
        rw [← he, List.getElem?_append_right (by omega), show nu.length + (i - ins.length) - nu.length = i - ins.length by omega]
        exact List.getElem?_eq_getElem hk
    · have hn0 : (List.range t.length)[i - ins.length]? = none := List.getElem?_eq_none (by rw [List.length_range]; omega)
      rw [hn0] at ha
      cases ha
theorem ztrA_ok {ad : Nat → Nat} {nu nu' : List Int} {ins : List (Nat × Int)} {a : zAV} {v : Value} (h : zIn nu ins nu') (ha : zm ad nu' a v) (h4 : a.1 ≠ 4) : zm ad nu (ztrA ins a) v := by
  obtain ⟨tg, n, k, n2, k2⟩ := a
  unfold ztrA
  split
  · rename_i b hb
    obtain ⟨z, g1, g2⟩ := ztr_ok h hb
    match tg, ha with
    | 0, _ => trivial
    | 1, ⟨x, h1, h2⟩ => exact ⟨x, h1, by rw [h2.eq g1]; exact g2⟩
    | 2, ⟨x, h1, h2⟩ => exact ⟨x, h1, by rw [h2.eq g1]; exact g2⟩
    | 3, ⟨x, h1, h2⟩ => exact ⟨x, h1, by rw [h2.eq g1]; exact g2⟩
    | 4, _ => exact absurd rfl h4
  · trivial
/-- no comparison's result stands in an exit -/
def zno4 (alt : zS) : Bool := alt.2.2.2.1.all (fun a => !(a.1 == 4)) && alt.2.2.2.2.1.all (fun f => !(f.2.2.2.1 == 4))
def zwrB (big small : zWr) : Bool := small.all (fun w => big.any (fun u => decide (u.1 ≤ w.1) && (decide (w.2.1 ≤ u.2.1) && (u.2.2.1 == 0 || (!(w.2.2.1 == 0) && u.2.2.2 == w.2.2.2)))))
theorem zwrB_ok {big small : zWr} (h : zwrB big small = true) {q j : Nat} (hn : ∀ w ∈ big, ¬ zcov w q j) : ∀ w ∈ small, ¬ zcov w q j := by
  intro w hw hc
  have h1 := List.all_eq_true.mp h w hw
  obtain ⟨u, hu, h2⟩ := List.any_eq_true.mp h1
  rw [Bool.and_eq_true, Bool.and_eq_true, decide_eq_true_eq, decide_eq_true_eq, Bool.or_eq_true, Bool.and_eq_true, beq_iff_eq, beq_iff_eq] at h2
  obtain ⟨c1, c2, c3⟩ := hc
  refine hn u hu ⟨by omega, by omega, ?_⟩
  rcases h2.2.2 with z | ⟨z1, z2⟩
  · exact Or.inl z
  · right
    rcases c3 with c3 | c3
    · rw [c3] at z1
      simp at z1
    · rw [z2]; exact c3
theorem zL.mono {ad : Nat → Nat} {nu t : List Int} {nL : Nat} {ls : Array Slot} {L : List zAV} (h : zL ad nu nL ls L) : zL ad (nu ++ t) nL ls L := h.app
section ZC
variable {p : Program} {l : Launch} {e : Env} {R : Room} {s : State} {m : MethodId} {args : Array Value} {below : List Frame} {meth : Method} {c : Code} {Q : State → Prop} {cc : ByteArray} {pc ce sl : Nat}
variable {Z : zZ} {D : va_G} {cl : List vw_C} {tys : List (ClassId × FieldType)} {A : Nat → Prop} {ad : Nat → Nat} {gh : Nat → Int} {wr : zWr} {H0 : Heap} {ws0 : va_W} {nu0 : List Int} {nL : Nat}
variable {env : List zIv} {cd : List zCd} {L st : List zAV} {fa : List zFa} {me : List zMe}
theorem zpost_ok {nu nu' : List Int} {ls : Array Slot} {stc : List Value} {ws ws' : va_W} {H H1 : Heap} {locs locs1 : List Loc} {ins : List (Nat × Int)} {wr' : zWr} {alt : zS} {v : Option Value} (hG : zG Z D cl tys A ad gh wr H0 ws0 nu0 nL (env, cd, L, st, fa, me) nu ls stc ws H locs) (hi : zIn nu ins nu')
    (h4 : zno4 alt = true) (hw : zwrB wr wr' = true) (hX : zExt ad nu' alt ws' v) (hP : va_P D cl ws' H1) (hD : va_D A ws') (hS1 : va_S A H0 H1 locs1) (hW : zW Z ad gh tys ws') (hU : zUn wr' ws ws') : ∃ nu2, zG Z D cl tys A ad gh wr H0 ws0 nu0 nL (zpost (env, cd, L, st, fa, me) st ins wr' alt) nu2 ls (v.toList ++ stc) ws' H1 locs1 := by
  obtain ⟨hH, hN, hL, hS, hF, hM⟩ := hG
  obtain ⟨t, x1, x2, x3, x4⟩ := hX
  have hlen : (alt.1.drop ins.length).length = t.length := by
    have := x1.1
    rw [List.length_append, hi.1] at this
    rw [List.length_drop]
    omega
  have hi2 : zIn (nu ++ t) (zins2 env ins (alt.1.drop ins.length).length) (nu' ++ t) := by rw [hlen]; exact hi.app env hN.1.1 t
  unfold zno4 at h4
  rw [Bool.and_eq_true] at h4
  have hnl : nu.length = env.length := hN.1.1
  have hE1 : zEnv (env ++ alt.1.drop ins.length) (nu ++ t) := by
    refine ⟨by rw [List.length_append, List.length_append, hnl, hlen], fun i iv hv => ?_⟩
    by_cases hl : i < env.length
    · rw [List.getElem?_append_left hl] at hv
      obtain ⟨a, g1, g2⟩ := hN.1.2 i iv hv
      exact ⟨a, by rw [List.getElem?_append_left (by rw [hnl]; exact hl)]; exact g1, g2⟩
    · rw [List.getElem?_append_right (by omega), List.getElem?_drop] at hv
      obtain ⟨a, g1, g2⟩ := x1.2 _ iv hv
      refine ⟨a, ?_, g2⟩
      rw [List.getElem?_append_right (by rw [hi.1]; omega), hi.1, show ins.length + (i - env.length) - ins.length = i - env.length by omega] at g1
      rw [List.getElem?_append_right (by rw [hnl]; omega), hnl]
      exact g1
  have hC2 : zCds (alt.2.1.filterMap (ztrC (zins2 env ins (alt.1.drop ins.length).length))) (nu ++ t) := by
    intro q hq
    obtain ⟨q0, h1, h2⟩ := List.mem_filterMap.mp hq
    unfold ztrC at h2
    split at h2
    · rename_i a b ha hb
      cases h2
      obtain ⟨x, y, y1, y2, y3⟩ := x2 q0 h1
      obtain ⟨z1, g1, u1, g2, g3⟩ := hi2.2 _ _ ha
      obtain ⟨z2, g4, u2, g5, g6⟩ := hi2.2 _ _ hb
      rw [g1] at y1
      cases y1
      rw [g4] at y2
      cases y2
      exact ⟨u1, u2, g2, g5, by show u1 ≤ u2 + (b.2 + q0.2.2 - a.2); omega⟩
    · cases h2
  refine ⟨nu ++ t, ⟨hP, hD, hS1, hW, fun q j hn => ?_⟩, ⟨?_, ?_, ?_, ?_⟩, hL.app, ?_, ?_, hM.app⟩
  · rw [hU q j (zwrB_ok hw hn)]
    exact hH.2.2.2.2 q j hn
  · refine zfoldC_ok (zrefine_ok hE1 (fun i a iv ha hv => ?_)) hC2
    obtain ⟨z, g1, g2⟩ := hi.2 i a ha
    obtain ⟨b, g3, g4⟩ := x1.2 i iv hv
    rw [List.getElem?_append_left (List.getElem?_eq_some_iff.mp g1).1, g1] at g3
    cases g3
    exact ⟨z, g2.app, g4⟩
  · intro q hq
    rcases List.mem_append.mp hq with hq | hq
    · exact hN.2.1.app q hq
    · exact hC2 q hq
  · intro g hg
    have := hN.2.2.1 g hg
    rw [List.getElem?_append_left (List.getElem?_eq_some_iff.mp this).1]
    exact this
  · obtain ⟨t0, rfl⟩ := hN.2.2.2
    exact ⟨t0 ++ t, by rw [List.append_assoc]⟩
  · refine zall.app ?_ (hS.mono fun a v h => h.app)
    have g := List.all_eq_true.mp h4.1
    generalize alt.2.2.2.1 = sl at x3 g
    generalize v.toList = vl at x3
    induction sl generalizing vl with
    | nil => cases vl with
      | nil => trivial
      | cons _ _ => exact x3.elim
    | cons a sl ih => cases vl with
      | nil => exact x3.elim
      | cons w vl => exact ⟨ztrA_ok hi2 x3.1 (by have := g a List.mem_cons_self; simpa using this), ih (fun b hb => g b (List.mem_cons_of_mem _ hb)) vl x3.2⟩
  · intro f hf
    rcases List.mem_append.mp hf with hf | hf
    · obtain ⟨f0, h1, h2⟩ := List.mem_filterMap.mp hf
      unfold ztrF at h2
      obtain ⟨b, hb, rfl⟩ := Option.map_eq_some_iff.mp h2
      obtain ⟨q, w, y1, y2, y3⟩ := x4 f0 h1
      obtain ⟨z, g1, g2⟩ := ztr_ok hi2 hb
      have e := g1.eq y1
      subst e
      exact ⟨q, w, g2, y2, ztrA_ok hi2 y3 (by have := List.all_eq_true.mp h4.2 f0 h1; simpa using this)⟩
    · obtain ⟨h1, h2⟩ := List.mem_filter.mp hf
      obtain ⟨q, w, y1, y2, y3⟩ := hF f h1
      refine ⟨q, w, y1.app, ?_, y3.app⟩
      rw [hU q _ (fun u hu hc => ?_)]
      · exact y2
      · have h3 := List.all_eq_true.mp h2 u hu
        have bd := y1.bd hN.1
        obtain ⟨c1, c2, c3⟩ := hc
        rcases Bool.or_eq_true_iff.mp h3 with h3 | h3
        · rw [Bool.and_eq_true] at h3
          rcases c3 with c3 | c3
          · rw [c3] at h3; simp at h3
          · rw [c3] at h3; simp at h3
        · rw [Bool.or_eq_true] at h3
          simp only at bd
          rcases h3 with h3 | h3
          · have h3 := zltI_ok h3
            first | omega | (simp only at h3; omega)
          · have h3 := zltI_ok h3
            first | omega | (simp only at h3; omega)
/-- a call that runs: on with each exit -/
theorem zs_run {ws : va_W} {nu nu' : List Int} {ls : Array Slot} {stc restc : List Value} {H : Heap} {locs : List Loc} {ins : List (Nat × Int)} {alts : List zTm} {wr' : zWr} {a : Array Value} {pc' : Nat} (hpc : pc' = pc + 3) (hG : zG Z D cl tys A ad gh wr H0 ws0 nu0 nL (env, cd, L, st, fa, me) nu ls restc ws H locs) (hi : zIn nu ins nu')
    (hr : va_Run p l e R s m args below meth c H locs ce sl 0 0 (F0 m pc ls stc) restc (zQc Z D cl tys A ad gh alts wr' ws nu' a) A) (h4 : ∀ alt ∈ alts, zno4 alt.2 = true) (hw : zwrB wr wr' = true) (k : ∀ alt ∈ alts, zalB env ins alt.2.1 = true → zWP (zG Z D cl tys A ad gh wr H0 ws0 nu0 nL) (fun H locs pc ls st => W p l e R s m args below meth c H locs ce sl Q (F0 m pc ls st)) pc' (zpost (env, cd, L, st, fa, me) st ins wr' alt.2)) : W p l e R s m args below meth c H locs ce sl Q (F0 m pc ls stc) := by
  subst hpc
  intro T hT X
  obtain ⟨v, st₀, t, T', L', g0, X', hL, e1, e2, ⟨⟨hz, hk⟩, alt, v', ws', ha, hv, hP, hD, hW, hU, hX⟩, hst⟩ := hr T hT X
  cases hv
  rw [g0] at hz hk
  have hS := hG.1.2.2.1
  have hS1 : va_S A H0 T'.heap (locs ++ L') := ⟨Nat.le_trans hS.1 (by rw [e1]; exact hz), fun q h1 h2 => by rw [e1, hk q (Nat.lt_of_lt_of_le h1 hS.1) h2]; exact hS.2.1 q h1 h2, fun q hq => by
    rcases List.mem_append.mp hq with h | h
    · exact hS.2.2 q h
    · exact hL q h⟩
  obtain ⟨nu2, h2⟩ := zpost_ok hG hi (h4 alt ha) hw hX (by rw [e1]; exact hP) hD hS1 hW hU
  have hal : zalB env ins alt.2.1 = true := by
    obtain ⟨t9, x1, -⟩ := hX
    refine zalB_ok hG.2.1.1 (fun i b iv hb hv => ?_)
    obtain ⟨z, g1, g2⟩ := hi.2 i b hb
    obtain ⟨y, g3, g4⟩ := x1.2 i iv hv
    rw [List.getElem?_append_left (List.getElem?_eq_some_iff.mp g1).1, g1] at g3
    cases g3
    exact ⟨z, g2, g4⟩
  obtain ⟨t2, a1, b1⟩ := k alt ha hal nu2 ls _ ws' T'.heap _ h2 T' rfl X'
  exact ⟨t2, hst t2 a1, b1⟩
end ZC
end
section
/-! CALLS OF EACH SORT, RETURNS, SWITCHES -/
theorem zall.split {M : zAV → Value → Prop} : ∀ {as bs : List zAV} {vs : List Value}, zall M (as ++ bs) vs → ∃ v1 v2, vs = v1 ++ v2 ∧ zall M as v1 ∧ zall M bs v2
  | [], bs, vs, h => ⟨[], vs, rfl, trivial, h⟩
  | a :: as, bs, v :: vs, h => by
    obtain ⟨v1, v2, e, h1, h2⟩ := zall.split (as := as) h.2
    exact ⟨v :: v1, v2, by rw [e]; rfl, ⟨h.1, h1⟩, h2⟩
theorem zall.rev {M : zAV → Value → Prop} : ∀ {as : List zAV} {vs : List Value}, zall M as vs → zall M as.reverse vs.reverse
  | [], [], _ => trivial
  | a :: as, v :: vs, h => by
    rw [List.reverse_cons, List.reverse_cons]
    exact h.2.rev.app ⟨h.1, trivial⟩
theorem zall.cats {ad : Nat → Nat} {nu : List Int} : ∀ {as : List zAV} {vs : List Value}, zall (zm ad nu) as vs → (∀ a ∈ as, a.1 ≠ 0) → (vs.map fun v => v.category).sum = (as.map zcat).sum
  | [], [], _, _ => rfl
  | a :: as, v :: vs, h, h0 => by
    rw [List.map_cons, List.map_cons, List.sum_cons, List.sum_cons, h.2.cats (fun b hb => h0 b (List.mem_cons_of_mem _ hb)), zcat_ok h.1 (h0 a List.mem_cons_self)]
/-- what the tables say of a call: plain, virtual -/
def zLkV (Ts : List Cond) (own : String) (idx : Nat) (K : zK) (n : Nat) : Prop := Cond.methodLink own idx K.1 ∈ Ts ∧ Cond.instanceMethod K.1 ∈ Ts ∧ Cond.selects K.1.cls K.1 K.1 ∈ Ts ∧ Cond.initialized K.1.cls ∈ Ts ∧ Cond.code K.1 K.2.1 K.2.2.1 K.2.2.2.1 ∈ Ts ∧
  K.1.cls ≠ "java/lang/invoke/MethodHandle" ∧ K.1.cls ≠ "java/lang/invoke/VarHandle" ∧ (parseMethodDescriptor K.1.desc).map (fun d => d.parameters.length) = some n
/-- static: its link is plain, or a nest mate's, which the read-only part says -/
def zLkS (Ts : List Cond) (K : zK) (n : Nat) : Prop := Cond.static K.1 ∈ Ts ∧ Cond.initialized K.1.cls ∈ Ts ∧ Cond.code K.1 K.2.1 K.2.2.1 K.2.2.2.1 ∈ Ts ∧
  K.1.cls ≠ "java/lang/invoke/MethodHandle" ∧ K.1.cls ≠ "java/lang/invoke/VarHandle" ∧ (parseMethodDescriptor K.1.desc).map (fun d => d.parameters.length) = some n
theorem zgoodIn {Ts : List Cond} (hTg : ∀ w ∈ Ts, goodWord w = true) {ws : List Cond} (h : ∀ w ∈ ws, w ∈ Ts) : GoodIn Ts ws := fun w hw => ⟨h w hw, good_of_word (hTg w (h w hw))⟩
section ZC2
variable {p : Program} {l : Launch} {e : Env} {R : Room} {s : State} {m : MethodId} {args : Array Value} {below : List Frame} {meth : Method} {c : Code} {Q : State → Prop} {cc : ByteArray} {pc ce sl : Nat}
variable {Z : zZ} {D : va_G} {cl : List vw_C} {tys : List (ClassId × FieldType)} {A : Nat → Prop} {ad : Nat → Nat} {gh : Nat → Int} {wr : zWr} {H0 : Heap} {ws0 : va_W} {nu0 : List Int} {nL : Nat}
variable {env : List zIv} {cd : List zCd} {L st : List zAV} {fa : List zFa} {me : List zMe}
variable {Ts : List Cond} {RO : zRO} {K : zK} {own : String} {nuE : List Int} {alts : List zTm}
theorem zent_ok {nu : List Int} {ls : Array Slot} {stc As : List Value} {ws : va_W} {H : Heap} {locs : List Loc} {avs st0 : List zAV} {ins : List (Nat × Int)} (h0 : 0 < Z.2.2 ∧ gh 0 = 0) (hG : zG Z D cl tys A ad gh wr H0 ws0 nu0 nL (env, cd, L, st0, fa, me) nu ls stc ws H locs) (hA : zall (zm ad nu) avs As) (ha : ∀ a ∈ avs, a.1 ≠ 0) (hl : (zlay avs).length ≤ K.2.2.1)
    (hin : zinst (env, cd, zlayP avs K.2.2.1, [], fa, me) (zpre Z.2.2) K.2.2.2.2.2.1.1 = some ins) (hm : zmB (env, cd, zlayP avs K.2.2.1, [], fa, me) ins (zKT K) = true) : ∃ nu', zIn nu ins nu' ∧ zEnt Z ad gh tys K ws nu' As := by
  obtain ⟨hH, hN, hL, hS, hF, hM⟩ := hG
  have hL2 := zlayP_ok hA ha hl
  have hGl : Z.2.2 ≤ nu.length := by
    rcases Nat.lt_or_ge nu.length Z.2.2 with q | q
    · have h1 := hN.2.2.1 _ q
      have h2 := (List.getElem?_eq_some_iff.mp h1).1
      omega
    · exact q
  obtain ⟨t, ht⟩ := zinst_ok (sg := (env, cd, zlayP avs K.2.2.1, [], fa, me)) (stc := []) (hN.z0 h0) hL2 trivial hF _ _ _ _ (zpre_ok hGl) hin
  obtain ⟨g1, g2, g3, g4, g5, g6⟩ := zmB_ok (sg := (env, cd, zlayP avs K.2.2.1, [], fa, me)) (stc := []) hm (hN.z0 h0) hN.1 hN.2.1 hL2 trivial hF ht
  refine ⟨_, ht, hH.2.2.2.1, g1, g2, fun g hg => ?_, g3, ?_, g5, ?_⟩
  · have h1 := hN.2.2.1 g hg
    rw [List.getElem?_append_left (by rw [List.length_take]; omega), List.getElem?_take_of_lt hg]
    exact h1
  · have := g4.len
    exact List.length_eq_zero_iff.mp this
  · unfold zmB at hm
    rw [Bool.and_eq_true, Bool.and_eq_true, Bool.and_eq_true, Bool.and_eq_true, Bool.and_eq_true] at hm
    exact List.isEmpty_iff.mp hm.2.2.2.2.2
theorem zs_callV (hx : p.tables.exec = Jvm.exec) (hb : c.code = cc) (h0 : 0 < Z.2.2 ∧ gh 0 = 0) (hcs : ce ≤ R.cells ∧ sl ≤ R.slots) (hml : c.maxLocals = nL) (hH0 : H0 = s.heap) (hown : s.vm.findClass own = some m.cls) (hts : ∀ w ∈ Ts, w.before args s = true) (hTg : ∀ w ∈ Ts, goodWord w = true) (hK : va_K D cl tys s) (hR : zROk RO) (hro : RO ad A s s.heap) (hM : zMet l Ts cl Z RO K)
    {idx n n2 ci x N : Nat} {k k2 : Int} {T : u_T} {fts : List zFT} {avs : List zAV} {ins : List (Nat × Int)} (hd : decode cc pc = .ok (.invokevirtual idx, 3)) (hlk : zLkV Ts own idx K avs.length) (ht : zty Z env (n, k) = some (0, ci, x, fts)) (hcl : cl[ci]? = some (K.1.cls, T, N)) (ha : ∀ a ∈ avs, a.1 ≠ 0) (hl : (zlay ((3, n, k, n2, k2) :: avs)).length ≤ K.2.2.1)
    (hin : zinst (env, cd, zlayP ((3, n, k, n2, k2) :: avs) K.2.2.1, [], fa, me) (zpre Z.2.2) K.2.2.2.2.2.1.1 = some ins) (hm : zmB (env, cd, zlayP ((3, n, k, n2, k2) :: avs) K.2.2.1, [], fa, me) ins (zKT K) = true)
    (hroom : K.2.2.2.2.1.1 + 1 ≤ R.frames ∧ 8 + (K.2.2.1 + 11) + K.2.2.2.2.1.2 ≤ R.locals) (hst : (st.map zcat).sum ≤ 8) (hst0 : ∀ a ∈ st, a.1 ≠ 0) (h4 : ∀ alt ∈ zKA K, zno4 alt.2 = true) (hw : zwrB wr (zKW K) = true)
    (kk : ∀ alt ∈ zKA K, zalB env ins alt.2.1 = true → zWP (zG Z D cl tys A ad gh wr H0 ws0 nu0 nL) (fun H locs pc ls st => W p l e R s m args below meth c H locs ce sl Q (F0 m pc ls st)) (pc + 3) (zpost (env, cd, L, st, fa, me) st ins (zKW K) alt.2)) : zWP (zG Z D cl tys A ad gh wr H0 ws0 nu0 nL) (fun H locs pc ls st => W p l e R s m args below meth c H locs ce sl Q (F0 m pc ls st)) pc (env, cd, L, avs.reverse ++ (3, n, k, n2, k2) :: st, fa, me) := by
  intro nu ls stc ws H locs hG
  obtain ⟨hH, hN, hL, hS, hF, hM2⟩ := hG
  obtain ⟨v1, v2, rfl, hS1, hS2⟩ := hS.split
  match v2, hS2 with
  | v0 :: restc, ⟨hv0, hS3⟩ =>
    have hS1r := hS1.rev
    rw [List.reverse_reverse] at hS1r
    have hG2 : zG Z D cl tys A ad gh wr H0 ws0 nu0 nL (env, cd, L, st, fa, me) nu ls restc ws H locs := ⟨hH, hN, hL, hS3, hF, hM2⟩
    have ha2 : ∀ a ∈ (3, n, k, n2, k2) :: avs, a.1 ≠ 0 := fun a h => by
      rcases List.mem_cons.mp h with h | h
      · rw [h]; simp
      · exact ha a h
    obtain ⟨nu', hi, hE⟩ := zent_ok (K := K) (avs := (3, n, k, n2, k2) :: avs) (As := v0 :: v1.reverse) h0 hG2 ⟨hv0, hS1r⟩ ha2 hl hin hm
    obtain ⟨q, rfl, hq⟩ := hv0
    obtain ⟨e0, he0, g1, g2, g3⟩ := zty_ok ht hN.1 hq
    have hc := hH.2.2.2.1 e0 he0 q g1 g2
    rw [g3] at hc
    obtain ⟨fs, c1, -⟩ := hc
    obtain ⟨l1, l2, l3, l4, l5, l6, l7, l8⟩ := hlk
    have hgd : GoodIn Ts (wsV own idx K.1.cls K.1 (Cond.code K.1 K.2.1 K.2.2.1 K.2.2.2.1 :: Ts)) := zgoodIn hTg (fun w hw => by
      unfold wsV at hw
      rcases List.mem_append.mp hw with hw | hw
      · simp only [List.mem_cons, List.not_mem_nil, or_false] at hw
        rcases hw with rfl | rfl | rfl | rfl
        · exact l1
        · exact l2
        · exact l3
        · exact l4
      · rcases List.mem_cons.mp hw with rfl | hw
        · exact l5
        · exact hw)
    have hsum : (restc.map fun v => v.category).sum ≤ 8 := by rw [hS3.cats hst0]; exact hst
    refine zs_run (ins := ins) (a := (Value.ref (ad q) :: v1.reverse).toArray) rfl hG2 hi ?_ h4 hw kk
    refine va_runV (As := v1.reverse) (rest := restc) (n := avs.length) ⟨hx, hb, hml, hown, hts⟩ (hM D tys A ad gh ws nu' (.ref (ad q) :: v1.reverse) h0 hE hH.2.1) (cwV avs.length hts hgd rfl rfl rfl ⟨rfl, l6, l7, l8⟩ hroom)
      ⟨zPc.blind hR, va_recv hK hH.1 hcl c1, fun U hU hW => ⟨rfl, by rw [hU]; exact hH.1, va_K.moved hW.alike hK, ?_⟩⟩ rfl (by rw [List.length_reverse]; have := hS1.len; rw [List.length_reverse] at this; omega) hL.1 (by rw [List.reverse_reverse]) (lv_room hsum) hd ⟨hcs.1, hcs.2⟩
    rw [hU]
    refine hR.1 ad A s U H hW (hR.2.2 ad A s s.heap H (fun a h1 h2 => ?_) hro)
    have := hH.2.2.1
    rw [hH0] at this
    exact this.2.1 a h1 h2
theorem zs_callS (hx : p.tables.exec = Jvm.exec) (hb : c.code = cc) (h0 : 0 < Z.2.2 ∧ gh 0 = 0) (hcs : ce ≤ R.cells ∧ sl ≤ R.slots) (hml : c.maxLocals = nL) (hH0 : H0 = s.heap) (hown : s.vm.findClass own = some m.cls) (hts : ∀ w ∈ Ts, w.before args s = true) (hTg : ∀ w ∈ Ts, goodWord w = true) (hK : va_K D cl tys s) (hR : zROk RO) (hro : RO ad A s s.heap) (hM : zMet l Ts cl Z RO K)
    {idx : Nat} {avs : List zAV} {ins : List (Nat × Int)} (hd : decode cc pc = .ok (.invokestatic idx, 3)) (hlk : zLkS Ts K avs.length) (hln : (Cond.methodLink own idx K.1) ∈ Ts ∨ ∃ host, va_Nw (Cond.methodLinkNest own idx K.1 host) s) (ha : ∀ a ∈ avs, a.1 ≠ 0) (hl : (zlay avs).length ≤ K.2.2.1)
    (hin : zinst (env, cd, zlayP avs K.2.2.1, [], fa, me) (zpre Z.2.2) K.2.2.2.2.2.1.1 = some ins) (hm : zmB (env, cd, zlayP avs K.2.2.1, [], fa, me) ins (zKT K) = true)
    (hroom : K.2.2.2.2.1.1 + 1 ≤ R.frames ∧ 8 + (K.2.2.1 + 11) + K.2.2.2.2.1.2 ≤ R.locals) (hst : (st.map zcat).sum ≤ 8) (hst0 : ∀ a ∈ st, a.1 ≠ 0) (h4 : ∀ alt ∈ zKA K, zno4 alt.2 = true) (hw : zwrB wr (zKW K) = true)
    (kk : ∀ alt ∈ zKA K, zalB env ins alt.2.1 = true → zWP (zG Z D cl tys A ad gh wr H0 ws0 nu0 nL) (fun H locs pc ls st => W p l e R s m args below meth c H locs ce sl Q (F0 m pc ls st)) (pc + 3) (zpost (env, cd, L, st, fa, me) st ins (zKW K) alt.2)) : zWP (zG Z D cl tys A ad gh wr H0 ws0 nu0 nL) (fun H locs pc ls st => W p l e R s m args below meth c H locs ce sl Q (F0 m pc ls st)) pc (env, cd, L, avs.reverse ++ st, fa, me) := by
  intro nu ls stc ws H locs hG
  obtain ⟨hH, hN, hL, hS, hF, hM2⟩ := hG
  obtain ⟨v1, restc, rfl, hS1, hS3⟩ := hS.split
  have hS1r := hS1.rev
  rw [List.reverse_reverse] at hS1r
  have hG2 : zG Z D cl tys A ad gh wr H0 ws0 nu0 nL (env, cd, L, st, fa, me) nu ls restc ws H locs := ⟨hH, hN, hL, hS3, hF, hM2⟩
  obtain ⟨nu', hi, hE⟩ := zent_ok (K := K) (avs := avs) (As := v1.reverse) h0 hG2 hS1r ha hl hin hm
  obtain ⟨l3, l4, l5, l6, l7, l8⟩ := hlk
  have hgd : GoodIn Ts (Cond.code K.1 K.2.1 K.2.2.1 K.2.2.2.1 :: Ts) := zgoodIn hTg (fun w hw => by
    rcases List.mem_cons.mp hw with rfl | hw
    · exact l5
    · exact hw)
  have hsum : (restc.map fun v => v.category).sum ≤ 8 := by rw [hS3.cats hst0]; exact hst
  have hpre : PreS s H (zPc D cl tys A ad RO ws v1.reverse) v1.reverse := ⟨zPc.blind hR, fun U hU hW => ⟨rfl, by rw [hU]; exact hH.1, va_K.moved hW.alike hK, by
    rw [hU]
    refine hR.1 ad A s U H hW (hR.2.2 ad A s s.heap H (fun a h1 h2 => ?_) hro)
    have := hH.2.2.1
    rw [hH0] at this
    exact this.2.1 a h1 h2⟩⟩
  have hlen : v1.reverse.length = avs.length := by rw [List.length_reverse]; have := hS1.len; rw [List.length_reverse] at this; omega
  refine zs_run (ins := ins) (a := v1.reverse.toArray) rfl hG2 hi ?_ h4 hw kk
  rcases hln with hln | ⟨host, hln⟩
  · exact va_runS (As := v1.reverse) (rest := restc) (n := avs.length) ⟨hx, hb, hml, hown, hts⟩ (hM D tys A ad gh ws nu' v1.reverse h0 hE hH.2.1) ⟨callB_of avs.length hts hgd rfl rfl rfl (hts _ l4) (hts _ hln) ⟨l6, l7, l8⟩ hroom, hts _ l3⟩ hpre rfl hlen hL.1 (by rw [List.reverse_reverse]) (lv_room hsum) hd ⟨hcs.1, hcs.2⟩
  · exact va_runSN (As := v1.reverse) (rest := restc) (n := avs.length) ⟨hx, hb, hml, hown, hts⟩ (hM D tys A ad gh ws nu' v1.reverse h0 hE hH.2.1) ⟨va_cnB avs.length hts hgd rfl rfl rfl hln (hts _ l4) ⟨l6, l7, l8⟩ hroom, hts _ l3, trivial⟩ hpre rfl hlen hL.1 (by rw [List.reverse_reverse]) (lv_room hsum) hd ⟨hcs.1, hcs.2⟩
/-- an exit is met -/
theorem zret_ok {nu : List Int} {ls : Array Slot} {stc : List Value} {ws : va_W} {H : Heap} {locs : List Loc} {sv : List zAV} {vo : Option Value} {alt : zTm} {ins : List (Nat × Int)} {t : State} {a : Array Value} (h0 : 0 < Z.2.2 ∧ gh 0 = 0) (hH0 : H0 = s.heap) (hE : ∃ u, nu0 = nuE ++ u) (hG : zG Z D cl tys A ad gh wr H0 ws0 nu0 nL (env, cd, L, st, fa, me) nu ls stc ws H locs) (hv : zall (zm ad nu) sv vo.toList)
    (hal : alt ∈ alts) (hin : zinst (env, cd, [], sv, fa, me) (zpre nuE.length) alt.1 = some ins) (hm : zmB (env, cd, [], sv, fa, me) ins alt.2 = true) (ht : t.heap = H) : zQc Z D cl tys A ad gh alts wr ws0 nuE a s (.returned vo) t := by
  obtain ⟨hH, hN, hL, hS, hF, hM⟩ := hG
  obtain ⟨u, rfl⟩ := hE
  obtain ⟨t0, rfl⟩ := hN.2.2.2
  have hL2 : zL ad (nuE ++ u ++ t0) 0 #[] [] := ⟨rfl, rfl, ⟨fun i v h => by simp at h, fun i h => by simp at h⟩, fun i a h => by simp at h⟩
  have hle : nuE.length ≤ (nuE ++ u ++ t0).length := by rw [List.length_append, List.length_append]; omega
  obtain ⟨t1, h1⟩ := zinst_ok (sg := (env, cd, [], sv, fa, me)) (hN.z0 h0) hL2 hv hF _ _ _ _ (zpre_ok hle) hin
  obtain ⟨g1, g2, g3, g4, g5, g6⟩ := zmB_ok (sg := (env, cd, [], sv, fa, me)) hm (hN.z0 h0) hN.1 hN.2.1 hL2 hv hF h1
  have e : (nuE ++ u ++ t0).take nuE.length = nuE := by rw [List.append_assoc, List.take_left']; rfl
  rw [e] at g1 g2 g4 g5
  have hS2 := hH.2.2.1
  rw [hH0] at hS2
  exact ⟨hS2.F ht, alt, vo, ws, hal, rfl, by rw [ht]; exact hH.1, hH.2.1, hH.2.2.2.1, hH.2.2.2.2, t1, g1, g2, g4, g5⟩
end ZC2
section ZR
variable {p : Program} {l : Launch} {e : Env} {R : Room} {s : State} {m : MethodId} {args : Array Value} {below : List Frame} {meth : Method} {c : Code} {cc : ByteArray} {pc : Nat}
variable {Z : zZ} {D : va_G} {cl : List vw_C} {tys : List (ClassId × FieldType)} {A : Nat → Prop} {ad : Nat → Nat} {gh : Nat → Int} {wr : zWr} {H0 : Heap} {ws0 : va_W} {nu0 : List Int} {nL : Nat}
variable {env : List zIv} {cd : List zCd} {L st : List zAV} {fa : List zFa} {me : List zMe} {nuE : List Int} {alts : List zTm}
theorem zs_iret (hx : p.tables.exec = Jvm.exec) (hb : c.code = cc) (h0 : 0 < Z.2.2 ∧ gh 0 = 0) (hlocks : meth.locks = false) (hH0 : H0 = s.heap) (hE : ∃ u, nu0 = nuE ++ u) (hr : meth.sig.returnType = some .int) {a : zAV} {alt : zTm} {ins : List (Nat × Int)} (h1 : a.1 = 1) (hal : alt ∈ alts) (hin : zinst (env, cd, [], [a], fa, me) (zpre nuE.length) alt.1 = some ins) (hm : zmB (env, cd, [], [a], fa, me) ins alt.2 = true) (hd : decode cc pc = .ok (.ireturn, 1)) :
    zWP (zG Z D cl tys A ad gh wr H0 ws0 nu0 nL) (fun H locs pc ls st => W p l e R s m args below meth c H locs 0 0 (MQ below (zQc Z D cl tys A ad gh alts wr ws0 nuE) args s 0 0 A) (F0 m pc ls st)) pc (env, cd, L, [a], fa, me) := by
  intro nu ls stc ws H locs hG
  obtain ⟨tg, n, k, n2, k2⟩ := a
  have h1 : tg = 1 := h1
  subst h1
  obtain ⟨hH, hN, hL, hS, hF, hM⟩ := id hG
  match stc, hS with
  | [v], ⟨⟨x, hv, hz⟩, _⟩ =>
    subst hv
    exact W.iret hx hb hr (fun t ht _ => zret_ok (sv := [(1, n, k, n2, k2)]) (vo := some (.int x)) h0 hH0 hE hG ⟨⟨x, rfl, hz⟩, trivial⟩ hal hin hm ht) hH.2.2.1.2.2 hd hlocks
theorem zs_zret (hx : p.tables.exec = Jvm.exec) (hb : c.code = cc) (h0 : 0 < Z.2.2 ∧ gh 0 = 0) (hlocks : meth.locks = false) (hH0 : H0 = s.heap) (hE : ∃ u, nu0 = nuE ++ u) (hr : meth.sig.returnType = some .boolean) {n n2 : Nat} {k k2 : Int} {alt : zTm} {ins : List (Nat × Int)} (h1 : zin env (n, k) [(0, 1)] = true) (hal : alt ∈ alts) (hin : zinst (env, cd, [], [(1, n, k, n2, k2)], fa, me) (zpre nuE.length) alt.1 = some ins) (hm : zmB (env, cd, [], [(1, n, k, n2, k2)], fa, me) ins alt.2 = true) (hd : decode cc pc = .ok (.ireturn, 1)) :
    zWP (zG Z D cl tys A ad gh wr H0 ws0 nu0 nL) (fun H locs pc ls st => W p l e R s m args below meth c H locs 0 0 (MQ below (zQc Z D cl tys A ad gh alts wr ws0 nuE) args s 0 0 A) (F0 m pc ls st)) pc (env, cd, L, [(1, n, k, n2, k2)], fa, me) := by
  intro nu ls stc ws H locs hG
  obtain ⟨hH, hN, hL, hS, hF, hM⟩ := id hG
  match stc, hS with
  | [v], ⟨hv, _⟩ =>
    have hf := zfit_bool hv hN.1 h1
    obtain ⟨x, hv', hz⟩ := hv
    subst hv'
    exact W.zret hx hb hr hf.1 (fun t ht _ => zret_ok (sv := [(1, n, k, n2, k2)]) (vo := some (.int x)) h0 hH0 hE hG ⟨⟨x, rfl, hz⟩, trivial⟩ hal hin hm ht) hH.2.2.1.2.2 hd hlocks
theorem zs_lret (hx : p.tables.exec = Jvm.exec) (hb : c.code = cc) (h0 : 0 < Z.2.2 ∧ gh 0 = 0) (hlocks : meth.locks = false) (hH0 : H0 = s.heap) (hE : ∃ u, nu0 = nuE ++ u) (hr : meth.sig.returnType = some .long) {n n2 : Nat} {k k2 : Int} {alt : zTm} {ins : List (Nat × Int)} (hal : alt ∈ alts) (hin : zinst (env, cd, [], [(2, n, k, n2, k2)], fa, me) (zpre nuE.length) alt.1 = some ins) (hm : zmB (env, cd, [], [(2, n, k, n2, k2)], fa, me) ins alt.2 = true) (hd : decode cc pc = .ok (.lreturn, 1)) :
    zWP (zG Z D cl tys A ad gh wr H0 ws0 nu0 nL) (fun H locs pc ls st => W p l e R s m args below meth c H locs 0 0 (MQ below (zQc Z D cl tys A ad gh alts wr ws0 nuE) args s 0 0 A) (F0 m pc ls st)) pc (env, cd, L, [(2, n, k, n2, k2)], fa, me) := by
  intro nu ls stc ws H locs hG
  obtain ⟨hH, hN, hL, hS, hF, hM⟩ := id hG
  match stc, hS with
  | [v], ⟨⟨x, hv, hz⟩, _⟩ =>
    subst hv
    exact W.lret hx hb hr (fun t ht _ => zret_ok (sv := [(2, n, k, n2, k2)]) (vo := some (.long x)) h0 hH0 hE hG ⟨⟨x, rfl, hz⟩, trivial⟩ hal hin hm ht) hH.2.2.1.2.2 hd hlocks
theorem zs_vret (hx : p.tables.exec = Jvm.exec) (hb : c.code = cc) (h0 : 0 < Z.2.2 ∧ gh 0 = 0) (hlocks : meth.locks = false) (hH0 : H0 = s.heap) (hE : ∃ u, nu0 = nuE ++ u) (hr : meth.sig.returnType = none) {alt : zTm} {ins : List (Nat × Int)} (hal : alt ∈ alts) (hin : zinst (env, cd, [], [], fa, me) (zpre nuE.length) alt.1 = some ins) (hm : zmB (env, cd, [], [], fa, me) ins alt.2 = true) (hd : decode cc pc = .ok (.return_, 1)) :
    zWP (zG Z D cl tys A ad gh wr H0 ws0 nu0 nL) (fun H locs pc ls st => W p l e R s m args below meth c H locs 0 0 (MQ below (zQc Z D cl tys A ad gh alts wr ws0 nuE) args s 0 0 A) (F0 m pc ls st)) pc (env, cd, L, [], fa, me) := by
  intro nu ls stc ws H locs hG
  obtain ⟨hH, hN, hL, hS, hF, hM⟩ := id hG
  match stc, hS with
  | [], _ => exact W.vret hx hb hr (fun t ht _ => zret_ok (sv := []) (vo := none) h0 hH0 hE hG trivial hal hin hm ht) hH.2.2.1.2.2 hd hlocks
end ZR
section ZSW
variable {p : Program} {l : Launch} {e : Env} {R : Room} {s : State} {m : MethodId} {args : Array Value} {below : List Frame} {meth : Method} {c : Code} {Q : State → Prop} {cc : ByteArray} {pc ce sl : Nat}
variable {Z : zZ} {D : va_G} {cl : List vw_C} {tys : List (ClassId × FieldType)} {A : Nat → Prop} {ad : Nat → Nat} {gh : Nat → Int} {wr : zWr} {H0 : Heap} {ws0 : va_W} {nu0 : List Int} {nL : Nat}
variable {env : List zIv} {cd : List zCd} {L st : List zAV} {fa : List zFa} {me : List zMe}
theorem zs_tsw (hx : p.tables.exec = Jvm.exec) (hb : c.code = cc) (h0 : 0 < Z.2.2 ∧ gh 0 = 0) {n1 a1 len dt : Nat} {k1 b1 dflt lo hi : Int} {offs : Array Int} (hd : decode cc pc = .ok (.tableswitch dflt lo hi offs, len)) (hsz : (offs.toList.length : Int) = hi - lo + 1) (hdt : (pc : Int) + dflt = (dt : Int))
    (kl : zWP (zG Z D cl tys A ad gh wr H0 ws0 nu0 nL) (fun H locs pc ls st => W p l e R s m args below meth c H locs ce sl Q (F0 m pc ls st)) dt ((zas 2 env cd (n1, k1) (0, lo)).1, (zas 2 env cd (n1, k1) (0, lo)).2, L, st, fa, me)) (kh : zWP (zG Z D cl tys A ad gh wr H0 ws0 nu0 nL) (fun H locs pc ls st => W p l e R s m args below meth c H locs ce sl Q (F0 m pc ls st)) dt ((zas 4 env cd (n1, k1) (0, hi)).1, (zas 4 env cd (n1, k1) (0, hi)).2, L, st, fa, me))
    (ki : ∀ (i : Nat) (off : Int), offs.toList[i]? = some off → ∃ tgt : Nat, (pc : Int) + off = (tgt : Int) ∧ zWP (zG Z D cl tys A ad gh wr H0 ws0 nu0 nL) (fun H locs pc ls st => W p l e R s m args below meth c H locs ce sl Q (F0 m pc ls st)) tgt ((zas 0 env cd (n1, k1) (0, lo + i)).1, (zas 0 env cd (n1, k1) (0, lo + i)).2, L, st, fa, me)) : zWP (zG Z D cl tys A ad gh wr H0 ws0 nu0 nL) (fun H locs pc ls st => W p l e R s m args below meth c H locs ce sl Q (F0 m pc ls st)) pc (env, cd, L, (1, n1, k1, a1, b1) :: st, fa, me) := by
  intro nu ls stc ws H locs hG
  obtain ⟨hH, hN, hL, hS, hF, hM⟩ := hG
  match stc, hS with
  | v1 :: stc, ⟨⟨x, hx', h1⟩, hS⟩ =>
    subst hx'
    by_cases hlo : x.toInt < lo
    · have z := zas_ok (op := 2) (a := (n1, k1)) (b := (0, lo)) hN.1 hN.2.1 h1 (hN.cst h0 lo) hlo
      exact lv_tableOut hx hb hd (Or.inl hlo) hdt (kl nu ls _ ws H locs ⟨hH, ⟨z.1, z.2, hN.2.2⟩, hL, hS, hF, hM⟩)
    · by_cases hhi : hi < x.toInt
      · have z := zas_ok (op := 4) (a := (n1, k1)) (b := (0, hi)) hN.1 hN.2.1 h1 (hN.cst h0 hi) hhi
        exact lv_tableOut hx hb hd (Or.inr hhi) hdt (kh nu ls _ ws H locs ⟨hH, ⟨z.1, z.2, hN.2.2⟩, hL, hS, hF, hM⟩)
      · have hl : (x.toInt - lo).toNat < offs.toList.length := by omega
        have ho : offs.toList[(x.toInt - lo).toNat]? = some (offs.toList[(x.toInt - lo).toNat]) := List.getElem?_eq_getElem hl
        obtain ⟨tgt, h2, h3⟩ := ki _ _ ho
        have z := zas_ok (op := 0) (a := (n1, k1)) (b := (0, lo + ((x.toInt - lo).toNat : Int))) hN.1 hN.2.1 h1 (hN.cst h0 _) (show x.toInt = lo + ((x.toInt - lo).toNat : Int) by omega)
        rw [Array.getElem?_toList] at ho
        exact lv_tableIn hx hb hd hlo hhi ho h2 (h3 nu ls _ ws H locs ⟨hH, ⟨z.1, z.2, hN.2.2⟩, hL, hS, hF, hM⟩)
theorem zlk_off (d x : Int) : ∀ ps : List (Int × Int), (Op.lookupswitch.offset ps d x = d ∧ ∀ q ∈ ps, q.1 ≠ x) ∨ ∃ q ∈ ps, q.1 = x ∧ Op.lookupswitch.offset ps d x = q.2
  | [] => Or.inl ⟨rfl, fun q h => by cases h⟩
  | (a, o) :: r => by
    rw [Op.lookupswitch.offset_cons]
    by_cases h : a = x
    · right
      exact ⟨(a, o), List.mem_cons_self, h, by rw [if_pos h]⟩
    · rw [if_neg h]
      rcases zlk_off d x r with ⟨h1, h2⟩ | ⟨q, h1, h2, h3⟩
      · left
        refine ⟨h1, fun q hq => ?_⟩
        rcases List.mem_cons.mp hq with rfl | hq
        · exact h
        · exact h2 q hq
      · right
        exact ⟨q, List.mem_cons_of_mem _ h1, h2, h3⟩
def zcuts (env : List zIv) (a : Nat × Int) : List (Int × Int) → List zIv
  | [] => env
  | q :: r => zcuts (zne env a (0, q.1)) a r
theorem zcuts_ok {nu : List Int} {a : Nat × Int} {x : Int} (h0' : nu[0]? = some 0) (hx : zV nu a.1 a.2 x) : ∀ {ps : List (Int × Int)} {env : List zIv}, zEnv env nu → (∀ q ∈ ps, q.1 ≠ x) → zEnv (zcuts env a ps) nu
  | [], env, he, _ => he
  | q :: r, env, he, h => zcuts_ok (ps := r) (env := zne env a (0, q.1)) h0' hx (zne_ok (b := (0, q.1)) he hx ⟨0, h0', rfl⟩ (by
      have := h q List.mem_cons_self
      show x ≠ 0 + q.1
      omega)) (fun p hp => h p (List.mem_cons_of_mem _ hp))
theorem zs_lsw (hx : p.tables.exec = Jvm.exec) (hb : c.code = cc) (h0 : 0 < Z.2.2 ∧ gh 0 = 0) {n1 a1 len dt : Nat} {k1 b1 dflt : Int} {ps : Array (Int × Int)} (hd : decode cc pc = .ok (.lookupswitch dflt ps, len)) (hp : (ps.toList.zip (ps.toList.drop 1)).all (fun (a, next) => a.1 < next.1) = true) (hdt : (pc : Int) + dflt = (dt : Int))
    (kd : zWP (zG Z D cl tys A ad gh wr H0 ws0 nu0 nL) (fun H locs pc ls st => W p l e R s m args below meth c H locs ce sl Q (F0 m pc ls st)) dt (zcuts env (n1, k1) ps.toList, cd, L, st, fa, me))
    (ki : ∀ q ∈ ps.toList, ∃ tgt : Nat, (pc : Int) + q.2 = (tgt : Int) ∧ zWP (zG Z D cl tys A ad gh wr H0 ws0 nu0 nL) (fun H locs pc ls st => W p l e R s m args below meth c H locs ce sl Q (F0 m pc ls st)) tgt ((zas 0 env cd (n1, k1) (0, q.1)).1, (zas 0 env cd (n1, k1) (0, q.1)).2, L, st, fa, me)) : zWP (zG Z D cl tys A ad gh wr H0 ws0 nu0 nL) (fun H locs pc ls st => W p l e R s m args below meth c H locs ce sl Q (F0 m pc ls st)) pc (env, cd, L, (1, n1, k1, a1, b1) :: st, fa, me) := by
  intro nu ls stc ws H locs hG
  obtain ⟨hH, hN, hL, hS, hF, hM⟩ := hG
  match stc, hS with
  | v1 :: stc, ⟨⟨x, hx', h1⟩, hS⟩ =>
    subst hx'
    rcases zlk_off dflt x.toInt ps.toList with ⟨g1, g2⟩ | ⟨q, g1, g2, g3⟩
    · exact lv_lookup hx hb hd hp g1 hdt (kd nu ls _ ws H locs ⟨hH, ⟨zcuts_ok (a := (n1, k1)) (hN.z0 h0) h1 hN.1 g2, hN.2.1, hN.2.2⟩, hL, hS, hF, hM⟩)
    · obtain ⟨tgt, h2, h3⟩ := ki q g1
      have z := zas_ok (op := 0) (a := (n1, k1)) (b := (0, q.1)) hN.1 hN.2.1 h1 (hN.cst h0 _) (show x.toInt = q.1 from g2.symm)
      exact lv_lookup hx hb hd hp g3 h2 (h3 nu ls _ ws H locs ⟨hH, ⟨z.1, z.2, hN.2.2⟩, hL, hS, hF, hM⟩)
end ZSW
end
section
/-! THE CHECKER'S STEP -/
/-- of a class: its fields' instructions (entry, class, field, kind of store), its constants, its calls (entry, sort, method, arguments, class), its statics and texts (entry, cell) -/
abbrev zPool : Type := List (Nat × Nat × Nat × Nat) × List (Nat × Int) × List (Nat × Int) × List (Nat × Nat × Nat × Nat × Nat) × List (Nat × Nat) × List (Nat × Nat)
/-- of a contract: names at its start, exits, writes, room, answer (0 none, 1 int, 2 boolean, 3 long) -/
abbrev zCo : Type := Nat × List zTm × zWr × (Nat × Nat) × Nat
/-- a contract in the table: its method's number, room, entry, exits, writes -/
abbrev zC : Type := Nat × (Nat × Nat) × zTm × List zTm × zWr
abbrev zMT : Type := Nat → MethodName × ByteArray × Nat × Option FieldType
def zKof (MT : zMT) (C : zC) : zK := ((MT C.1).1, (MT C.1).2.1, (MT C.1).2.2.1, (MT C.1).2.2.2, C.2.1, C.2.2.1, C.2.2.2.1, C.2.2.2.2)
def ztgt (pc : Nat) (off : Int) : Nat := ((pc : Int) + off).toNat
def zon1 (x : Nat × zS) : Option (List (Nat × zS)) := some [x]
def zi_c (tag pc : Nat) (sg : zS) (n lo hi : Int) (len el : Nat) : Option (List (Nat × zS)) := if len = el ∧ lo ≤ n ∧ n ≤ hi then some [(pc + el, (sg.1, sg.2.1, sg.2.2.1, (tag, 0, n, 0, 0) :: sg.2.2.2.1, sg.2.2.2.2.1, sg.2.2.2.2.2))] else none
def zi_ld (tag pc : Nat) (sg : zS) (i len el : Nat) : Option (List (Nat × zS)) := match sg.2.2.1[i]? with
  | some a => if len = el ∧ a.1 = tag then some [(pc + el, (sg.1, sg.2.1, sg.2.2.1, (tag, a.2.1, a.2.2.1, 0, 0) :: sg.2.2.2.1, sg.2.2.2.2.1, sg.2.2.2.2.2))] else none
  | none => none
def zi_st (tag pc : Nat) (sg : zS) (i len el : Nat) : Option (List (Nat × zS)) := match sg.2.2.2.1 with
  | a :: r => if len = el ∧ a.1 = tag ∧ i < sg.2.2.1.length then some [(pc + el, (sg.1, sg.2.1, zst1 sg.2.2.1 i (tag, a.2.1, a.2.2.1, 0, 0), r, sg.2.2.2.2.1, sg.2.2.2.2.2))] else none
  | [] => none
def zi_stL (pc : Nat) (sg : zS) (i len el : Nat) : Option (List (Nat × zS)) := match sg.2.2.2.1 with
  | a :: r => if len = el ∧ a.1 = 2 ∧ i + 1 < sg.2.2.1.length then some [(pc + el, (sg.1, sg.2.1, zst2 sg.2.2.1 i (2, a.2.1, a.2.2.1, 0, 0), r, sg.2.2.2.2.1, sg.2.2.2.2.2))] else none
  | [] => none
def zi_iinc (pc : Nat) (sg : zS) (i : Nat) (d : Int) (len : Nat) : Option (List (Nat × zS)) := match sg.2.2.1[i]? with
  | some a => if len = 3 ∧ a.1 = 1 ∧ -2147483648 ≤ d ∧ d ≤ 2147483647 then some [(pc + 3, zinc sg i (zaddI sg.1 (a.2.1, a.2.2.1) (0, d)))] else none
  | none => none
def zi_bin (f : List zIv → Nat × Int → Nat × Int → zRes) (pc : Nat) (sg : zS) (len : Nat) : Option (List (Nat × zS)) := match sg.2.2.2.1 with
  | b :: a :: r => if len = 1 ∧ b.1 = 1 ∧ a.1 = 1 then some [(pc + 1, zpush 1 (sg.1, sg.2.1, sg.2.2.1, r, sg.2.2.2.2.1, sg.2.2.2.2.2) r (f sg.1 (a.2.1, a.2.2.1) (b.2.1, b.2.2.1)))] else none
  | _ => none
def zi_binL (f : List zIv → Nat × Int → Nat × Int → zRes) (pc : Nat) (sg : zS) (len : Nat) : Option (List (Nat × zS)) := match sg.2.2.2.1 with
  | b :: a :: r => if len = 1 ∧ b.1 = 2 ∧ a.1 = 2 then some [(pc + 1, zpush 2 (sg.1, sg.2.1, sg.2.2.1, r, sg.2.2.2.2.1, sg.2.2.2.2.2) r (f sg.1 (a.2.1, a.2.2.1) (b.2.1, b.2.2.1)))] else none
  | _ => none
def zi_shL (pc : Nat) (sg : zS) (len : Nat) : Option (List (Nat × zS)) := match sg.2.2.2.1 with
  | b :: a :: r => if len = 1 ∧ b.1 = 1 ∧ a.1 = 2 then some [(pc + 1, zpush 2 (sg.1, sg.2.1, sg.2.2.1, r, sg.2.2.2.2.1, sg.2.2.2.2.2) r (.inr zFullL))] else none
  | _ => none
def zi_dr (op pc : Nat) (sg : zS) (len : Nat) : Option (List (Nat × zS)) := match sg.2.2.2.1 with
  | b :: a :: r => if len = 1 ∧ b.1 = 1 ∧ a.1 = 1 then (match zdr op (sg.1, sg.2.1, sg.2.2.1, r, sg.2.2.2.2.1, sg.2.2.2.2.2) r (a.2.1, a.2.2.1) (b.2.1, b.2.2.1) with
    | some s' => some [(pc + 1, s')]
    | none => none) else none
  | _ => none
def zi_una (iv : zIv) (pc : Nat) (sg : zS) (len : Nat) : Option (List (Nat × zS)) := match sg.2.2.2.1 with
  | a :: r => if len = 1 ∧ a.1 = 1 then some [(pc + 1, zpush 1 (sg.1, sg.2.1, sg.2.2.1, r, sg.2.2.2.2.1, sg.2.2.2.2.2) r (.inr iv))] else none
  | _ => none
def zi_i2l (pc : Nat) (sg : zS) (len : Nat) : Option (List (Nat × zS)) := match sg.2.2.2.1 with
  | a :: r => if len = 1 ∧ a.1 = 1 then some [(pc + 1, (sg.1, sg.2.1, sg.2.2.1, (2, a.2.1, a.2.2.1, 0, 0) :: r, sg.2.2.2.2.1, sg.2.2.2.2.2))] else none
  | _ => none
def zi_l2i (pc : Nat) (sg : zS) (len : Nat) : Option (List (Nat × zS)) := match sg.2.2.2.1 with
  | a :: r => if len = 1 ∧ a.1 = 2 then some [(pc + 1, zpush 1 (sg.1, sg.2.1, sg.2.2.1, r, sg.2.2.2.2.1, sg.2.2.2.2.2) r (zl2i sg.1 (a.2.1, a.2.2.1)))] else none
  | _ => none
def zi_lcmp (pc : Nat) (sg : zS) (len : Nat) : Option (List (Nat × zS)) := match sg.2.2.2.1 with
  | b :: a :: r => if len = 1 ∧ b.1 = 2 ∧ a.1 = 2 then some [(pc + 1, (sg.1, sg.2.1, sg.2.2.1, (4, a.2.1, a.2.2.1, b.2.1, b.2.2.1) :: r, sg.2.2.2.2.1, sg.2.2.2.2.2))] else none
  | _ => none
/-- two ways on -/
def ztwo (op pc tgt : Nat) (sg : zS) (r : List zAV) (a b : Nat × Int) : List (Nat × zS) :=
  [(tgt, ((zas op sg.1 sg.2.1 a b).1, (zas op sg.1 sg.2.1 a b).2, sg.2.2.1, r, sg.2.2.2.2.1, sg.2.2.2.2.2)), (pc + 3, ((zas (zopn op) sg.1 sg.2.1 a b).1, (zas (zopn op) sg.1 sg.2.1 a b).2, sg.2.2.1, r, sg.2.2.2.2.1, sg.2.2.2.2.2))]
def zi_icmp (op pc : Nat) (sg : zS) (off : Int) (len : Nat) : Option (List (Nat × zS)) := match sg.2.2.2.1 with
  | b :: a :: r => if len = 3 ∧ b.1 = 1 ∧ a.1 = 1 ∧ (pc : Int) + off = (ztgt pc off : Int) then some (ztwo op pc (ztgt pc off) sg r (a.2.1, a.2.2.1) (b.2.1, b.2.2.1)) else none
  | _ => none
def zi_if (op pc : Nat) (sg : zS) (off : Int) (len : Nat) : Option (List (Nat × zS)) := match sg.2.2.2.1 with
  | a :: r => if len = 3 ∧ (pc : Int) + off = (ztgt pc off : Int) then (if a.1 = 1 then some (ztwo op pc (ztgt pc off) sg r (a.2.1, a.2.2.1) (0, 0)) else if a.1 = 4 then some (ztwo op pc (ztgt pc off) sg r (a.2.1, a.2.2.1) (a.2.2.2.1, a.2.2.2.2)) else none) else none
  | _ => none
def zi_goto (pc : Nat) (sg : zS) (off : Int) (len : Nat) : Option (List (Nat × zS)) := if len = 3 ∧ (pc : Int) + off = (ztgt pc off : Int) then some [(ztgt pc off, sg)] else none
def zi_dup (pc : Nat) (sg : zS) (len : Nat) : Option (List (Nat × zS)) := match sg.2.2.2.1 with
  | a :: r => if len = 1 ∧ a.1 ≠ 0 ∧ a.1 ≠ 2 then some [(pc + 1, (sg.1, sg.2.1, sg.2.2.1, a :: a :: r, sg.2.2.2.2.1, sg.2.2.2.2.2))] else none
  | _ => none
def zi_pop (pc : Nat) (sg : zS) (len : Nat) : Option (List (Nat × zS)) := match sg.2.2.2.1 with
  | a :: r => if len = 1 ∧ a.1 ≠ 0 ∧ a.1 ≠ 2 then some [(pc + 1, (sg.1, sg.2.1, sg.2.2.1, r, sg.2.2.2.2.1, sg.2.2.2.2.2))] else none
  | _ => none
def zi_pop2 (pc : Nat) (sg : zS) (len : Nat) : Option (List (Nat × zS)) := match sg.2.2.2.1 with
  | a :: r => if len = 1 ∧ a.1 = 2 then some [(pc + 1, (sg.1, sg.2.1, sg.2.2.1, r, sg.2.2.2.2.1, sg.2.2.2.2.2))] else none
  | _ => none
def zsw (pc : Nat) (sg : zS) (r : List zAV) (a : Nat × Int) (lo : Int) : Nat → List Int → List (Nat × zS)
  | _, [] => []
  | i, off :: offs => (ztgt pc off, ((zas 0 sg.1 sg.2.1 a (0, lo + i)).1, (zas 0 sg.1 sg.2.1 a (0, lo + i)).2, sg.2.2.1, r, sg.2.2.2.2.1, sg.2.2.2.2.2)) :: zsw pc sg r a lo (i + 1) offs
def zi_tsw (pc : Nat) (sg : zS) (dflt lo hi : Int) (offs : List Int) : Option (List (Nat × zS)) := match sg.2.2.2.1 with
  | a :: r => if a.1 = 1 ∧ (offs.length : Int) = hi - lo + 1 ∧ (pc : Int) + dflt = (ztgt pc dflt : Int) ∧ offs.all (fun o => decide ((pc : Int) + o = (ztgt pc o : Int))) = true then
      some ((ztgt pc dflt, ((zas 2 sg.1 sg.2.1 (a.2.1, a.2.2.1) (0, lo)).1, (zas 2 sg.1 sg.2.1 (a.2.1, a.2.2.1) (0, lo)).2, sg.2.2.1, r, sg.2.2.2.2.1, sg.2.2.2.2.2)) :: (ztgt pc dflt, ((zas 4 sg.1 sg.2.1 (a.2.1, a.2.2.1) (0, hi)).1, (zas 4 sg.1 sg.2.1 (a.2.1, a.2.2.1) (0, hi)).2, sg.2.2.1, r, sg.2.2.2.2.1, sg.2.2.2.2.2)) :: zsw pc sg r (a.2.1, a.2.2.1) lo 0 offs) else none
  | _ => none
def zi_lsw (pc : Nat) (sg : zS) (dflt : Int) (ps : List (Int × Int)) : Option (List (Nat × zS)) := match sg.2.2.2.1 with
  | a :: r => if a.1 = 1 ∧ (ps.zip (ps.drop 1)).all (fun (a, next) => a.1 < next.1) = true ∧ (pc : Int) + dflt = (ztgt pc dflt : Int) ∧ ps.all (fun o => decide ((pc : Int) + o.2 = (ztgt pc o.2 : Int))) = true then
      some ((ztgt pc dflt, (zcuts sg.1 (a.2.1, a.2.2.1) ps, sg.2.1, sg.2.2.1, r, sg.2.2.2.2.1, sg.2.2.2.2.2)) :: ps.map (fun q => (ztgt pc q.2, ((zas 0 sg.1 sg.2.1 (a.2.1, a.2.2.1) (0, q.1)).1, (zas 0 sg.1 sg.2.1 (a.2.1, a.2.2.1) (0, q.1)).2, sg.2.2.1, r, sg.2.2.2.2.1, sg.2.2.2.2.2)))) else none
  | _ => none
/-- the numbers from one on -/
def zspl (lo : Int) (n : Nat) : List Int := (List.range n).map (fun (i : Nat) => lo + (i : Int))
def zi_get (Z : zZ) (P : zPool) (pc : Nat) (sg : zS) (idx len : Nat) : Option (List (Nat × zS)) := match sg.2.2.2.1, P.1.find? (fun f => f.1 == idx) with
  | a :: r, some f => if len = 3 ∧ a.1 = 3 then (match zty Z sg.1 (a.2.1, a.2.2.1) with
    | some (0, ci, _, fts) => (match fts[f.2.2.1]? with
      | some ft => if ci = f.2.1 then (if ft.1 = 7 ∧ zff sg.2.2.2.2.1 a.2.1 a.2.2.1 f.2.2.1 = none then some ((zspl ft.2.1 (ft.2.2 - ft.2.1 + 1).toNat).map (fun v => (pc + 3, (sg.1, sg.2.1, sg.2.2.1, (1, 0, v, 0, 0) :: r, (a.2.1, a.2.2.1, f.2.2.1, (1, 0, v, 0, 0)) :: sg.2.2.2.2.1, sg.2.2.2.2.2)))) else match zread Z (sg.1, sg.2.1, sg.2.2.1, r, sg.2.2.2.2.1, sg.2.2.2.2.2) r (a.2.1, a.2.2.1) f.2.2.1 ft with
        | some s' => some [(pc + 3, s')]
        | none => none) else none
      | none => none)
    | _ => none) else none
  | _, _ => none
def zi_put (Z : zZ) (P : zPool) (wr : zWr) (pc : Nat) (sg : zS) (idx len : Nat) : Option (List (Nat × zS)) := match sg.2.2.2.1, P.1.find? (fun f => f.1 == idx) with
  | v :: a :: r, some f => if len = 3 ∧ a.1 = 3 ∧ f.2.2.2 ≤ 2 then (match zty Z sg.1 (a.2.1, a.2.2.1) with
    | some (0, ci, _, fts) => (match fts[f.2.2.1]? with
      | some ft => if ci = f.2.1 ∧ zwt Z sg.1 sg.2.1 (a.2.1, a.2.2.1) ft v = true ∧ zcovB wr sg.1 (a.2.1, a.2.2.1) f.2.2.1 = true ∧ zfitB sg.1 f.2.2.2 v = true then some [(pc + 3, (sg.1, sg.2.1, sg.2.2.1, r, (a.2.1, a.2.2.1, f.2.2.1, v) :: zfk sg.1 sg.2.2.2.2.1 (a.2.1, a.2.2.1) f.2.2.1, sg.2.2.2.2.2))] else none
      | none => none)
    | _ => none) else none
  | _, _ => none
/-- what a table that nobody writes can hold -/
def zrsI (r : List Int) (i : Nat × Int) (env : List zIv) : zRes := if zcst env i = true then .inl (0, r.getD (zlo env i.1 + i.2).toNat 0) else .inr (r.map (fun v => (v, v)))
def zi_iald (Z : zZ) (RS : List (List Int)) (pc : Nat) (sg : zS) (len : Nat) : Option (List (Nat × zS)) := match sg.2.2.2.1 with
  | i :: a :: r => if len = 1 ∧ i.1 = 1 ∧ a.1 = 3 then (if a.2.1 = 0 ∧ 1000 ≤ a.2.2.1 then (match RS[(a.2.2.1 - 1000).toNat]? with
      | some tb => if zbds sg.1 sg.2.1 (i.2.1, i.2.2.1) tb.length = true ∧ tb.all (fun v => decide (-2147483648 ≤ v) && decide (v ≤ 2147483647)) = true then some [(pc + 1, zpush 1 (sg.1, sg.2.1, sg.2.2.1, r, sg.2.2.2.2.1, sg.2.2.2.2.2) r (zrsI tb (i.2.1, i.2.2.1) sg.1))] else none
      | none => none)
    else (match zty Z sg.1 (a.2.1, a.2.2.1) with
    | some (1, _, n, ft :: _) => if zbds sg.1 sg.2.1 (i.2.1, i.2.2.1) n = true then (match zaread Z (sg.1, sg.2.1, sg.2.2.1, r, sg.2.2.2.2.1, sg.2.2.2.2.2) r (a.2.1, a.2.2.1) (i.2.1, i.2.2.1) ft with
        | some s' => some [(pc + 1, s')]
        | none => none) else none
    | _ => none)) else none
  | _ => none
def zi_bald (Z : zZ) (pc : Nat) (sg : zS) (len : Nat) : Option (List (Nat × zS)) := match sg.2.2.2.1 with
  | i :: a :: r => if len = 1 ∧ i.1 = 1 ∧ a.1 = 3 then (match zty Z sg.1 (a.2.1, a.2.2.1) with
    | some (2, _, n, ft :: _) => if zbds sg.1 sg.2.1 (i.2.1, i.2.2.1) n = true then (match zaread Z (sg.1, sg.2.1, sg.2.2.1, r, sg.2.2.2.2.1, sg.2.2.2.2.2) r (a.2.1, a.2.2.1) (i.2.1, i.2.2.1) ft with
        | some s' => some [(pc + 1, s')]
        | none => none) else none
    | _ => none) else none
  | _ => none
def zi_lald (Z : zZ) (pc : Nat) (sg : zS) (len : Nat) : Option (List (Nat × zS)) := match sg.2.2.2.1 with
  | i :: a :: r => if len = 1 ∧ i.1 = 1 ∧ a.1 = 3 then (match zty Z sg.1 (a.2.1, a.2.2.1) with
    | some (3, _, n, _) => if zbds sg.1 sg.2.1 (i.2.1, i.2.2.1) n = true then (match zaread Z (sg.1, sg.2.1, sg.2.2.1, r, sg.2.2.2.2.1, sg.2.2.2.2.2) r (a.2.1, a.2.2.1) (i.2.1, i.2.2.1) (1, 0, 0) with
        | some s' => some [(pc + 1, s')]
        | none => none) else none
    | _ => none) else none
  | _ => none
def zi_aald (Z : zZ) (pc : Nat) (sg : zS) (len : Nat) : Option (List (Nat × zS)) := match sg.2.2.2.1 with
  | i :: a :: r => if len = 1 ∧ i.1 = 1 ∧ a.1 = 3 then (match zty Z sg.1 (a.2.1, a.2.2.1) with
    | some (tg, _, n, ft :: _) => if (tg = 4 ∨ tg = 5) ∧ zbds sg.1 sg.2.1 (i.2.1, i.2.2.1) n = true then some [(pc + 1, (sg.1, sg.2.1, sg.2.2.1, (3, i.2.1, i.2.2.1 + (ft.2.1.toNat : Int), 0, 0) :: r, sg.2.2.2.2.1, sg.2.2.2.2.2))] else none
    | _ => none) else none
  | _ => none
def zi_iast (Z : zZ) (wr : zWr) (pc : Nat) (sg : zS) (len : Nat) : Option (List (Nat × zS)) := match sg.2.2.2.1 with
  | v :: i :: a :: r => if len = 1 ∧ v.1 = 1 ∧ i.1 = 1 ∧ a.1 = 3 then (match zty Z sg.1 (a.2.1, a.2.2.1) with
    | some (1, _, n, [ft]) => if zbds sg.1 sg.2.1 (i.2.1, i.2.2.1) n = true ∧ zwt Z sg.1 sg.2.1 (a.2.1, a.2.2.1) ft v = true ∧ zawC wr sg.1 (a.2.1, a.2.2.1) (i.2.1, i.2.2.1) = true then some [(pc + 1, (sg.1, sg.2.1, sg.2.2.1, r, zawF sg.1 sg.2.2.2.2.1 (a.2.1, a.2.2.1) (i.2.1, i.2.2.1) v, sg.2.2.2.2.2))] else none
    | _ => none) else none
  | _ => none
def zi_bast (Z : zZ) (wr : zWr) (pc : Nat) (sg : zS) (len : Nat) : Option (List (Nat × zS)) := match sg.2.2.2.1 with
  | v :: i :: a :: r => if len = 1 ∧ v.1 = 1 ∧ i.1 = 1 ∧ a.1 = 3 then (match zty Z sg.1 (a.2.1, a.2.2.1) with
    | some (2, _, n, fts) => if fts = [(0, -128, 127)] ∧ zbds sg.1 sg.2.1 (i.2.1, i.2.2.1) n = true ∧ zcovA wr sg.1 (a.2.1, a.2.2.1) = true then some [(pc + 1, (sg.1, sg.2.1, sg.2.2.1, r, zfkA sg.1 sg.2.2.2.2.1 (a.2.1, a.2.2.1), sg.2.2.2.2.2))] else none
    | _ => none) else none
  | _ => none
def zi_last (Z : zZ) (wr : zWr) (pc : Nat) (sg : zS) (len : Nat) : Option (List (Nat × zS)) := match sg.2.2.2.1 with
  | v :: i :: a :: r => if len = 1 ∧ v.1 = 2 ∧ i.1 = 1 ∧ a.1 = 3 then (match zty Z sg.1 (a.2.1, a.2.2.1) with
    | some (3, _, n, _) => if zbds sg.1 sg.2.1 (i.2.1, i.2.2.1) n = true ∧ zcovA wr sg.1 (a.2.1, a.2.2.1) = true then some [(pc + 1, (sg.1, sg.2.1, sg.2.2.1, r, zfkA sg.1 sg.2.2.2.2.1 (a.2.1, a.2.2.1), sg.2.2.2.2.2))] else none
    | _ => none) else none
  | _ => none
/-- a static, or a text: its cell -/
def zi_cell (tb : List (Nat × Nat)) (pc : Nat) (sg : zS) (idx len el : Nat) : Option (List (Nat × zS)) := match tb.find? (fun f => f.1 == idx) with
  | some f => if len = el then some [(pc + el, (sg.1, sg.2.1, sg.2.2.1, (3, 0, (f.2 : Int), 0, 0) :: sg.2.2.2.1, sg.2.2.2.2.1, sg.2.2.2.2.2))] else none
  | none => none
def zi_ldc (tb : List (Nat × Int)) (tag pc : Nat) (sg : zS) (idx len el : Nat) : Option (List (Nat × zS)) := match tb.find? (fun f => f.1 == idx) with
  | some f => if len = el then some [(pc + el, (sg.1, sg.2.1, sg.2.2.1, (tag, 0, f.2, 0, 0) :: sg.2.2.2.1, sg.2.2.2.2.1, sg.2.2.2.2.2))] else none
  | none => none
/-- reading ahead: a fact that a template asks for -/
def ztouch (Z : zZ) (env : List zIv) (cd : List zCd) (fa : List zFa) (a : Nat × Int) (j : Nat) : List zIv × List zFa := match zff fa a.1 a.2 j with
  | some _ => (env, fa)
  | none => (match zty Z env a with
    | some (0, _, _, fts) => (match fts[j]? with
      | some ft => if (zrdT Z env cd a ft).1 = 9 ∨ env.length ≤ a.1 then (env, fa) else (match (zrdT Z env cd a ft).2 with
        | .inl b => (env, (a.1, a.2, j, ((zrdT Z env cd a ft).1, b.1, b.2, 0, 0)) :: fa)
        | .inr iv => (env ++ [iv], (a.1, a.2, j, ((zrdT Z env cd a ft).1, env.length, 0, 0, 0)) :: fa))
      | none => (env, fa))
    | _ => (env, fa))
def zpref (Z : zZ) (cd : List zCd) (L st : List zAV) (me : List zMe) : List zIv → List zFa → List (Nat × Int) → List zSrc → List zIv × List zFa
  | env, fa, _, [] => (env, fa)
  | env, fa, acc, sr :: r => if sr.1 = 2 then (match acc[sr.2.1]? with
      | some a => (match zsrc ((ztouch Z env cd fa (a.1, a.2 + sr.2.2.1) sr.2.2.2).1, cd, L, st, (ztouch Z env cd fa (a.1, a.2 + sr.2.2.1) sr.2.2.2).2, me) acc sr with
        | some b => zpref Z cd L st me (ztouch Z env cd fa (a.1, a.2 + sr.2.2.1) sr.2.2.2).1 (ztouch Z env cd fa (a.1, a.2 + sr.2.2.1) sr.2.2.2).2 (acc ++ [b]) r
        | none => (env, fa))
      | none => (env, fa))
    else (match zsrc (env, cd, L, st, fa, me) acc sr with
      | some b => zpref Z cd L st me env fa (acc ++ [b]) r
      | none => (env, fa))
/-- the receiver is of this class -/
def zrcv (Z : zZ) (env : List zIv) (a : Nat × Int) (ci : Nat) : Bool := match zty Z env a with
  | some (0, c, _, _) => c == ci
  | _ => false
/-- one contract tried at a call -/
def zone (Z : zZ) (MT : zMT) (wr : zWr) (rm : Nat × Nat) (chk : List zIv → Bool) (sg : zS) (avs rest : List zAV) (C : zC) : Option (List zS) :=
  if (zlay avs).length ≤ (MT C.1).2.2.1 ∧ C.2.1.1 + 1 ≤ rm.1 ∧ 8 + ((MT C.1).2.2.1 + 11) + C.2.1.2 ≤ rm.2 ∧ zwrB wr C.2.2.2.2 = true ∧ C.2.2.2.1.all (fun t => zno4 t.2) = true then
    (match zinst ((zpref Z sg.2.1 (zlayP avs (MT C.1).2.2.1) [] sg.2.2.2.2.2 sg.1 sg.2.2.2.2.1 (zpre Z.2.2) C.2.2.1.1).1, sg.2.1, zlayP avs (MT C.1).2.2.1, [], (zpref Z sg.2.1 (zlayP avs (MT C.1).2.2.1) [] sg.2.2.2.2.2 sg.1 sg.2.2.2.2.1 (zpre Z.2.2) C.2.2.1.1).2, sg.2.2.2.2.2) (zpre Z.2.2) C.2.2.1.1 with
      | some ins => if chk (zpref Z sg.2.1 (zlayP avs (MT C.1).2.2.1) [] sg.2.2.2.2.2 sg.1 sg.2.2.2.2.1 (zpre Z.2.2) C.2.2.1.1).1 = true ∧ zmB ((zpref Z sg.2.1 (zlayP avs (MT C.1).2.2.1) [] sg.2.2.2.2.2 sg.1 sg.2.2.2.2.1 (zpre Z.2.2) C.2.2.1.1).1, sg.2.1, zlayP avs (MT C.1).2.2.1, [], (zpref Z sg.2.1 (zlayP avs (MT C.1).2.2.1) [] sg.2.2.2.2.2 sg.1 sg.2.2.2.2.1 (zpre Z.2.2) C.2.2.1.1).2, sg.2.2.2.2.2) ins C.2.2.1.2 = true then
          some ((C.2.2.2.1.filter (fun t => zalB (zpref Z sg.2.1 (zlayP avs (MT C.1).2.2.1) [] sg.2.2.2.2.2 sg.1 sg.2.2.2.2.1 (zpre Z.2.2) C.2.2.1.1).1 ins t.2.1)).map (fun t => zpost ((zpref Z sg.2.1 (zlayP avs (MT C.1).2.2.1) [] sg.2.2.2.2.2 sg.1 sg.2.2.2.2.1 (zpre Z.2.2) C.2.2.1.1).1, sg.2.1, sg.2.2.1, rest, (zpref Z sg.2.1 (zlayP avs (MT C.1).2.2.1) [] sg.2.2.2.2.2 sg.1 sg.2.2.2.2.1 (zpre Z.2.2) C.2.2.1.1).2, sg.2.2.2.2.2) rest ins C.2.2.2.2 t.2)) else none
      | none => none)
  else none
def zany (f : zC → Option (List zS)) : List zC → Option (List zS)
  | [] => none
  | C :: r => match f C with
    | some x => some x
    | none => zany f r
/-- a stretch of one array onto another of its sort: within both -/
def zcopB (Z : zZ) (env : List zIv) (n dp d sp sr : Nat × Int) : Bool := decide (0 ≤ zlo env n.1 + n.2) && (decide (0 ≤ zlo env dp.1 + dp.2) && (decide (0 ≤ zlo env sp.1 + sp.2) && (match zty Z env sr, zty Z env d with
  | some (1, _, n0, f0), some (1, _, n1, f1) => decide (f0 = f1) && (f0.all (fun t => t.1 == 0) && (decide (zhi env sp.1 + sp.2 + (zhi env n.1 + n.2) ≤ (n0 : Int)) && decide (zhi env dp.1 + dp.2 + (zhi env n.1 + n.2) ≤ (n1 : Int))))
  | some (3, _, n0, _), some (3, _, n1, _) => decide (zhi env sp.1 + sp.2 + (zhi env n.1 + n.2) ≤ (n0 : Int)) && decide (zhi env dp.1 + dp.2 + (zhi env n.1 + n.2) ≤ (n1 : Int))
  | _, _ => false)))
def zok8 (st : List zAV) : Bool := decide ((st.map zcat).sum ≤ 8) && st.all (fun a => !(a.1 == 0))
def zi_call (Z : zZ) (P : zPool) (MT : zMT) (CS : List zC) (wr : zWr) (rm : Nat × Nat) (virt : Bool) (pc : Nat) (sg : zS) (idx len : Nat) : Option (List (Nat × zS)) := match P.2.2.2.1.find? (fun f => f.1 == idx) with
  | some q =>
    if len = 3 ∧ virt = true ∧ q.2.1 = 0 then
      (match sg.2.2.2.1.drop q.2.2.2.1 with
        | a :: r => if a.1 = 3 ∧ (sg.2.2.2.1.take q.2.2.2.1).length = q.2.2.2.1 ∧ (sg.2.2.2.1.take q.2.2.2.1).all (fun a => !(a.1 == 0)) = true ∧ zok8 r = true then
            (zany (fun C => if C.1 = q.2.2.1 then zone Z MT wr rm (fun e1 => zrcv Z e1 (a.2.1, a.2.2.1) q.2.2.2.2) sg ((3, a.2.1, a.2.2.1, a.2.2.2.1, a.2.2.2.2) :: (sg.2.2.2.1.take q.2.2.2.1).reverse) r C else none) CS).map (fun l => l.map (fun s' => (pc + 3, s'))) else none
        | [] => none)
    else if len = 3 ∧ virt = false ∧ (q.2.1 = 1 ∨ q.2.1 = 2) then
      (if (sg.2.2.2.1.take q.2.2.2.1).length = q.2.2.2.1 ∧ (sg.2.2.2.1.take q.2.2.2.1).all (fun a => !(a.1 == 0)) = true ∧ zok8 (sg.2.2.2.1.drop q.2.2.2.1) = true then
        (zany (fun C => if C.1 = q.2.2.1 then zone Z MT wr rm (fun _ => true) sg (sg.2.2.2.1.take q.2.2.2.1).reverse (sg.2.2.2.1.drop q.2.2.2.1) C else none) CS).map (fun l => l.map (fun s' => (pc + 3, s'))) else none)
    else if len = 3 ∧ virt = true ∧ q.2.1 = 3 then
      (match sg.2.2.2.1 with
        | i :: a :: r => if i.1 = 1 ∧ a = (3, 0, 2000, 0, 0) ∧ zok8 r = true then some [(pc + 3, zpush 1 (sg.1, sg.2.1, sg.2.2.1, r, sg.2.2.2.2.1, sg.2.2.2.2.2) r (.inr [(-1, 7)]))] else none
        | _ => none)
    else if len = 3 ∧ virt = false ∧ q.2.1 = 4 then
      (match sg.2.2.2.1 with
        | n :: dp :: d :: sp :: sr :: r => if n.1 = 1 ∧ dp.1 = 1 ∧ d.1 = 3 ∧ sp.1 = 1 ∧ sr.1 = 3 ∧ zok8 r = true ∧ 1 ≤ rm.1 ∧ 1000 ≤ rm.2 ∧ zcopB Z sg.1 (n.2.1, n.2.2.1) (dp.2.1, dp.2.2.1) (d.2.1, d.2.2.1) (sp.2.1, sp.2.2.1) (sr.2.1, sr.2.2.1) = true ∧ zcovA wr sg.1 (d.2.1, d.2.2.1) = true then some [(pc + 3, (sg.1, sg.2.1, sg.2.2.1, r, zfkA sg.1 sg.2.2.2.2.1 (d.2.1, d.2.2.1), sg.2.2.2.2.2))] else none
        | _ => none)
    else none
  | none => none
/-- an exit tried at a return -/
def zpov : Nat → List zIv → List zIv → Bool
  | n + 1, a :: r, b :: s => a.any (fun p => b.any (fun q => zleI p.1 q.2 && zleI q.1 p.2)) && zpov n r s
  | _, _, _ => true
def zsq1 (env : List zIv) (t a : zAV) : Bool := if t.1 = 1 ∧ (t.2.1 = 0 ∧ (a.1 = 1 ∧ zcst env (a.2.1, 0) = true)) then zleI t.2.2.1 (zlo env a.2.1 + a.2.2.1) && zleI (zlo env a.2.1 + a.2.2.1) t.2.2.1 else true
def zsqL (env : List zIv) : List zAV → List zAV → Bool
  | t :: ts, a :: as => zsq1 env t a && zsqL env ts as
  | _, _ => true
def zex1 (Z : zZ) (P0 : Nat) (sg : zS) (sv : List zAV) (t : zTm) : Bool :=
  zsqL sg.1 t.2.2.2.2.1 sv && (zpov P0 sg.1 t.2.1 && (match zinst ((zpref Z sg.2.1 [] sv sg.2.2.2.2.2 sg.1 sg.2.2.2.2.1 (zpre P0) t.1).1, sg.2.1, [], sv, (zpref Z sg.2.1 [] sv sg.2.2.2.2.2 sg.1 sg.2.2.2.2.1 (zpre P0) t.1).2, sg.2.2.2.2.2) (zpre P0) t.1 with
  | some ins => zmB ((zpref Z sg.2.1 [] sv sg.2.2.2.2.2 sg.1 sg.2.2.2.2.1 (zpre P0) t.1).1, sg.2.1, [], sv, (zpref Z sg.2.1 [] sv sg.2.2.2.2.2 sg.1 sg.2.2.2.2.1 (zpre P0) t.1).2, sg.2.2.2.2.2) ins t.2
  | none => false))
def zi_ret (Z : zZ) (Co : zCo) (sg : zS) (rc len : Nat) : Option (List (Nat × zS)) := match rc, sg.2.2.2.1 with
  | 0, [] => if len = 1 ∧ Co.2.2.2.2 = 0 ∧ Co.2.1.any (zex1 Z Co.1 sg []) = true then some [] else none
  | 1, [a] => if len = 1 ∧ a.1 = 1 ∧ (Co.2.2.2.2 = 1 ∨ (Co.2.2.2.2 = 2 ∧ zin sg.1 (a.2.1, a.2.2.1) [(0, 1)] = true)) ∧ Co.2.1.any (zex1 Z Co.1 sg [a]) = true then some [] else none
  | 2, [a] => if len = 1 ∧ a.1 = 2 ∧ Co.2.2.2.2 = 3 ∧ Co.2.1.any (zex1 Z Co.1 sg [a]) = true then some [] else none
  | _, _ => none

def zstep (Z : zZ) (RS : List (List Int)) (P : zPool) (MT : zMT) (CS : List zC) (Co : zCo) (pc : Nat) (sg : zS) (ins : Instr) (len : Nat) : Option (List (Nat × zS)) := match ins with
  | .iconst n => zi_c 1 pc sg n (-2147483648) 2147483647 len 1
  | .bipush n => zi_c 1 pc sg n (-128) 127 len 2
  | .sipush n => zi_c 1 pc sg n (-32768) 32767 len 3
  | .lconst n => zi_c 2 pc sg (((n : Fin 2) : Nat) : Int) 0 1 len 1
  | .ldc i => (match P.2.2.2.2.2.find? (fun f => f.1 == i) with
    | some _ => zi_cell P.2.2.2.2.2 pc sg i len 2
    | none => zi_ldc P.2.1 1 pc sg i len 2)
  | .ldc_w i => zi_ldc P.2.1 1 pc sg i len 3
  | .ldc2_w i => zi_ldc P.2.2.1 2 pc sg i len 3
  | .iload_n k => zi_ld 1 pc sg k.val len 1
  | .iload i => zi_ld 1 pc sg i len 2
  | .lload_n k => zi_ld 2 pc sg k.val len 1
  | .lload i => zi_ld 2 pc sg i len 2
  | .aload_n k => zi_ld 3 pc sg k.val len 1
  | .aload i => zi_ld 3 pc sg i len 2
  | .istore_n k => zi_st 1 pc sg k.val len 1
  | .istore i => zi_st 1 pc sg i len 2
  | .astore_n k => zi_st 3 pc sg k.val len 1
  | .astore i => zi_st 3 pc sg i len 2
  | .lstore_n k => zi_stL pc sg k.val len 1
  | .lstore i => zi_stL pc sg i len 2
  | .iinc i d => zi_iinc pc sg i d len
  | .iadd => zi_bin zaddI pc sg len
  | .isub => zi_bin zsub pc sg len
  | .imul => zi_bin zmul pc sg len
  | .iand => zi_bin zand pc sg len
  | .ior => zi_bin (fun _ _ _ => .inr zFull) pc sg len
  | .ixor => zi_bin (fun _ _ _ => .inr zFull) pc sg len
  | .ishl => zi_bin zshl pc sg len
  | .ishr => zi_bin (fun _ _ _ => .inr zFull) pc sg len
  | .iushr => zi_bin (fun env _ b => zushr env b) pc sg len
  | .idiv => zi_dr 0 pc sg len
  | .irem => zi_dr 1 pc sg len
  | .ineg => zi_una zFull pc sg len
  | .i2b => zi_una [(-128, 127)] pc sg len
  | .i2s => zi_una [(-32768, 32767)] pc sg len
  | .i2c => zi_una [(0, 65535)] pc sg len
  | .i2l => zi_i2l pc sg len
  | .l2i => zi_l2i pc sg len
  | .lcmp => zi_lcmp pc sg len
  | .ladd => zi_binL zaddL pc sg len
  | .land => zi_binL (fun _ _ _ => .inr zFullL) pc sg len
  | .lor => zi_binL (fun _ _ _ => .inr zFullL) pc sg len
  | .lshl => zi_shL pc sg len
  | .lshr => zi_shL pc sg len
  | .lushr => zi_shL pc sg len
  | .dup => zi_dup pc sg len
  | .pop => zi_pop pc sg len
  | .pop2 => zi_pop2 pc sg len
  | .goto off => zi_goto pc sg off len
  | .tableswitch d lo hi offs => zi_tsw pc sg d lo hi offs.toList
  | .lookupswitch d ps => zi_lsw pc sg d ps.toList
  | .getfield i => zi_get Z P pc sg i len
  | .putfield i => zi_put Z P Co.2.2.1 pc sg i len
  | .getstatic i => zi_cell P.2.2.2.2.1 pc sg i len 3
  | .iaload => zi_iald Z RS pc sg len
  | .baload => zi_bald Z pc sg len
  | .laload => zi_lald Z pc sg len
  | .aaload => zi_aald Z pc sg len
  | .iastore => zi_iast Z Co.2.2.1 pc sg len
  | .bastore => zi_bast Z Co.2.2.1 pc sg len
  | .lastore => zi_last Z Co.2.2.1 pc sg len
  | .invokevirtual i => zi_call Z P MT CS Co.2.2.1 Co.2.2.2.1 true pc sg i len
  | .invokestatic i => zi_call Z P MT CS Co.2.2.1 Co.2.2.2.1 false pc sg i len
  | .return_ => zi_ret Z Co sg 0 len
  | .ireturn => zi_ret Z Co sg 1 len
  | .lreturn => zi_ret Z Co sg 2 len
  | .if_icmp .eq off => zi_icmp 0 pc sg off len
  | .ifCond .eq off => zi_if 0 pc sg off len
  | .if_icmp .ne off => zi_icmp 1 pc sg off len
  | .ifCond .ne off => zi_if 1 pc sg off len
  | .if_icmp .lt off => zi_icmp 2 pc sg off len
  | .ifCond .lt off => zi_if 2 pc sg off len
  | .if_icmp .ge off => zi_icmp 3 pc sg off len
  | .ifCond .ge off => zi_if 3 pc sg off len
  | .if_icmp .gt off => zi_icmp 4 pc sg off len
  | .ifCond .gt off => zi_if 4 pc sg off len
  | .if_icmp .le off => zi_icmp 5 pc sg off len
  | .ifCond .le off => zi_if 5 pc sg off len
  | _ => none
end
section
/-! THE CHECKER'S STEP IS RIGHT -/
section ZK
variable {p : Program} {l : Launch} {e : Env} {R : Room} {s : State} {m : MethodId} {args : Array Value} {below : List Frame} {meth : Method} {c : Code} {Q : State → Prop} {cc : ByteArray} {pc ce sl : Nat}
variable {Z : zZ} {D : va_G} {cl : List vw_C} {tys : List (ClassId × FieldType)} {A : Nat → Prop} {ad : Nat → Nat} {gh : Nat → Int} {wr : zWr} {H0 : Heap} {ws0 : va_W} {nu0 : List Int} {nL : Nat}
variable {env : List zIv} {cd : List zCd} {L st : List zAV} {fa : List zFa} {me : List zMe}
variable {sg : zS} {su : List (Nat × zS)} {len : Nat}
theorem zk_cI (h0 : 0 < Z.2.2 ∧ gh 0 = 0) {n lo hi : Int} {el : Nat} {v : Int32} (hlo : -2147483648 ≤ lo) (hhi : hi ≤ 2147483647) (h : zi_c 1 pc sg n lo hi len el = some su) (hv : lo ≤ n → n ≤ hi → v.toInt = n) (row : len = el → ∀ (H : Heap) (locs : List Loc) (ls : Array Slot) (rest : List Value), W p l e R s m args below meth c H locs ce sl Q (F0 m (pc + el) ls (.int v :: rest)) → W p l e R s m args below meth c H locs ce sl Q (F0 m pc ls rest)) (k : ∀ x ∈ su, zWP (zG Z D cl tys A ad gh wr H0 ws0 nu0 nL) (fun H locs pc ls st => W p l e R s m args below meth c H locs ce sl Q (F0 m pc ls st)) x.1 x.2) : zWP (zG Z D cl tys A ad gh wr H0 ws0 nu0 nL) (fun H locs pc ls st => W p l e R s m args below meth c H locs ce sl Q (F0 m pc ls st)) pc sg := by
  obtain ⟨env, cd, L, st, fa, me⟩ := sg
  unfold zi_c at h
  split at h
  · rename_i hc
    cases h
    exact zs_cI h0 (hv hc.2.1 hc.2.2) (row hc.1) (k _ List.mem_cons_self)
  · cases h
theorem zk_cL (h0 : 0 < Z.2.2 ∧ gh 0 = 0) {n lo hi : Int} {el : Nat} {v : Int64} (h : zi_c 2 pc sg n lo hi len el = some su) (hv : lo ≤ n → n ≤ hi → v.toInt = n) (row : len = el → ∀ (H : Heap) (locs : List Loc) (ls : Array Slot) (rest : List Value), W p l e R s m args below meth c H locs ce sl Q (F0 m (pc + el) ls (.long v :: rest)) → W p l e R s m args below meth c H locs ce sl Q (F0 m pc ls rest)) (k : ∀ x ∈ su, zWP (zG Z D cl tys A ad gh wr H0 ws0 nu0 nL) (fun H locs pc ls st => W p l e R s m args below meth c H locs ce sl Q (F0 m pc ls st)) x.1 x.2) : zWP (zG Z D cl tys A ad gh wr H0 ws0 nu0 nL) (fun H locs pc ls st => W p l e R s m args below meth c H locs ce sl Q (F0 m pc ls st)) pc sg := by
  obtain ⟨env, cd, L, st, fa, me⟩ := sg
  unfold zi_c at h
  split at h
  · rename_i hc
    cases h
    exact zs_cL h0 (hv hc.2.1 hc.2.2) (row hc.1) (k _ List.mem_cons_self)
  · cases h
theorem zk_ldcI (h0 : 0 < Z.2.2 ∧ gh 0 = 0) {tb : List (Nat × Int)} {idx el : Nat} (h : zi_ldc tb 1 pc sg idx len el = some su) (row : len = el → ∀ q ∈ tb, q.1 = idx → ∃ v : Int32, v.toInt = q.2 ∧ ∀ (H : Heap) (locs : List Loc) (ls : Array Slot) (rest : List Value), W p l e R s m args below meth c H locs ce sl Q (F0 m (pc + el) ls (.int v :: rest)) → W p l e R s m args below meth c H locs ce sl Q (F0 m pc ls rest)) (k : ∀ x ∈ su, zWP (zG Z D cl tys A ad gh wr H0 ws0 nu0 nL) (fun H locs pc ls st => W p l e R s m args below meth c H locs ce sl Q (F0 m pc ls st)) x.1 x.2) : zWP (zG Z D cl tys A ad gh wr H0 ws0 nu0 nL) (fun H locs pc ls st => W p l e R s m args below meth c H locs ce sl Q (F0 m pc ls st)) pc sg := by
  obtain ⟨env, cd, L, st, fa, me⟩ := sg
  unfold zi_ldc at h
  split at h
  · rename_i f hf
    split at h
    · rename_i hc
      cases h
      obtain ⟨v, hv, hr⟩ := row hc f (List.mem_of_find?_eq_some hf) (by have := List.find?_some hf; simpa using this)
      exact zs_cI h0 hv hr (k _ List.mem_cons_self)
    · cases h
  · cases h
theorem zk_ldcL (h0 : 0 < Z.2.2 ∧ gh 0 = 0) {tb : List (Nat × Int)} {idx el : Nat} (h : zi_ldc tb 2 pc sg idx len el = some su) (row : len = el → ∀ q ∈ tb, q.1 = idx → ∃ v : Int64, v.toInt = q.2 ∧ ∀ (H : Heap) (locs : List Loc) (ls : Array Slot) (rest : List Value), W p l e R s m args below meth c H locs ce sl Q (F0 m (pc + el) ls (.long v :: rest)) → W p l e R s m args below meth c H locs ce sl Q (F0 m pc ls rest)) (k : ∀ x ∈ su, zWP (zG Z D cl tys A ad gh wr H0 ws0 nu0 nL) (fun H locs pc ls st => W p l e R s m args below meth c H locs ce sl Q (F0 m pc ls st)) x.1 x.2) : zWP (zG Z D cl tys A ad gh wr H0 ws0 nu0 nL) (fun H locs pc ls st => W p l e R s m args below meth c H locs ce sl Q (F0 m pc ls st)) pc sg := by
  obtain ⟨env, cd, L, st, fa, me⟩ := sg
  unfold zi_ldc at h
  split at h
  · rename_i f hf
    split at h
    · rename_i hc
      cases h
      obtain ⟨v, hv, hr⟩ := row hc f (List.mem_of_find?_eq_some hf) (by have := List.find?_some hf; simpa using this)
      exact zs_cL h0 hv hr (k _ List.mem_cons_self)
    · cases h
  · cases h
/-- a static or a text -/
theorem zk_cell (h0 : 0 < Z.2.2 ∧ gh 0 = 0) {tb : List (Nat × Nat)} {idx el : Nat} (h : zi_cell tb pc sg idx len el = some su) (row : len = el → ∀ q ∈ tb, q.1 = idx → ∀ (H : Heap) (locs : List Loc) (ls : Array Slot) (rest : List Value), va_S A H0 H locs → W p l e R s m args below meth c H locs ce sl Q (F0 m (pc + el) ls (.ref (ad q.2) :: rest)) → W p l e R s m args below meth c H locs ce sl Q (F0 m pc ls rest)) (k : ∀ x ∈ su, zWP (zG Z D cl tys A ad gh wr H0 ws0 nu0 nL) (fun H locs pc ls st => W p l e R s m args below meth c H locs ce sl Q (F0 m pc ls st)) x.1 x.2) : zWP (zG Z D cl tys A ad gh wr H0 ws0 nu0 nL) (fun H locs pc ls st => W p l e R s m args below meth c H locs ce sl Q (F0 m pc ls st)) pc sg := by
  obtain ⟨env, cd, L, st, fa, me⟩ := sg
  unfold zi_cell at h
  split at h
  · rename_i f hf
    split at h
    · rename_i hc
      cases h
      have hr := row hc f (List.mem_of_find?_eq_some hf) (by have := List.find?_some hf; simpa using this)
      intro nu ls stc ws H locs hG
      obtain ⟨hH, hN, hL, hS, hF, hM⟩ := hG
      exact hr H locs ls stc hH.2.2.1 (k _ List.mem_cons_self nu ls _ ws H locs ⟨hH, hN, hL, ⟨⟨f.2, rfl, hN.cst h0 _⟩, hS⟩, hF, hM⟩)
    · cases h
  · cases h
theorem zk_ldI {i el : Nat} (h : zi_ld 1 pc sg i len el = some su) (row : len = el → ∀ (H : Heap) (locs : List Loc) (ls : Array Slot) (rest : List Value) (x : Int32), ls[i]? = some (.val (.int x)) → W p l e R s m args below meth c H locs ce sl Q (F0 m (pc + el) ls (.int x :: rest)) → W p l e R s m args below meth c H locs ce sl Q (F0 m pc ls rest)) (k : ∀ x ∈ su, zWP (zG Z D cl tys A ad gh wr H0 ws0 nu0 nL) (fun H locs pc ls st => W p l e R s m args below meth c H locs ce sl Q (F0 m pc ls st)) x.1 x.2) : zWP (zG Z D cl tys A ad gh wr H0 ws0 nu0 nL) (fun H locs pc ls st => W p l e R s m args below meth c H locs ce sl Q (F0 m pc ls st)) pc sg := by
  obtain ⟨env, cd, L, st, fa, me⟩ := sg
  unfold zi_ld at h
  split at h
  · rename_i a ha
    obtain ⟨tg, n, kk, n2, k2⟩ := a
    split at h
    · rename_i hc
      obtain ⟨h1, h2⟩ := hc
      have h2 : tg = 1 := h2
      subst h2
      cases h
      exact zs_ldI ha (row h1) (k _ List.mem_cons_self)
    · cases h
  · cases h
theorem zk_ldL {i el : Nat} (h : zi_ld 2 pc sg i len el = some su) (row : len = el → ∀ (H : Heap) (locs : List Loc) (ls : Array Slot) (rest : List Value) (x : Int64), ls[i]? = some (.val (.long x)) → W p l e R s m args below meth c H locs ce sl Q (F0 m (pc + el) ls (.long x :: rest)) → W p l e R s m args below meth c H locs ce sl Q (F0 m pc ls rest)) (k : ∀ x ∈ su, zWP (zG Z D cl tys A ad gh wr H0 ws0 nu0 nL) (fun H locs pc ls st => W p l e R s m args below meth c H locs ce sl Q (F0 m pc ls st)) x.1 x.2) : zWP (zG Z D cl tys A ad gh wr H0 ws0 nu0 nL) (fun H locs pc ls st => W p l e R s m args below meth c H locs ce sl Q (F0 m pc ls st)) pc sg := by
  obtain ⟨env, cd, L, st, fa, me⟩ := sg
  unfold zi_ld at h
  split at h
  · rename_i a ha
    obtain ⟨tg, n, kk, n2, k2⟩ := a
    split at h
    · rename_i hc
      obtain ⟨h1, h2⟩ := hc
      have h2 : tg = 2 := h2
      subst h2
      cases h
      exact zs_ldL ha (row h1) (k _ List.mem_cons_self)
    · cases h
  · cases h
theorem zk_ldA {i el : Nat} (h : zi_ld 3 pc sg i len el = some su) (row : len = el → ∀ (H : Heap) (locs : List Loc) (ls : Array Slot) (rest : List Value) (x : Nat), ls[i]? = some (.val (.ref x)) → W p l e R s m args below meth c H locs ce sl Q (F0 m (pc + el) ls (.ref x :: rest)) → W p l e R s m args below meth c H locs ce sl Q (F0 m pc ls rest)) (k : ∀ x ∈ su, zWP (zG Z D cl tys A ad gh wr H0 ws0 nu0 nL) (fun H locs pc ls st => W p l e R s m args below meth c H locs ce sl Q (F0 m pc ls st)) x.1 x.2) : zWP (zG Z D cl tys A ad gh wr H0 ws0 nu0 nL) (fun H locs pc ls st => W p l e R s m args below meth c H locs ce sl Q (F0 m pc ls st)) pc sg := by
  obtain ⟨env, cd, L, st, fa, me⟩ := sg
  unfold zi_ld at h
  split at h
  · rename_i a ha
    obtain ⟨tg, n, kk, n2, k2⟩ := a
    split at h
    · rename_i hc
      obtain ⟨h1, h2⟩ := hc
      have h2 : tg = 3 := h2
      subst h2
      cases h
      exact zs_ldA ha (row h1) (k _ List.mem_cons_self)
    · cases h
  · cases h
theorem zk_stI {i el : Nat} (h : zi_st 1 pc sg i len el = some su) (row : len = el → ∀ (H : Heap) (locs : List Loc) (ls : Array Slot) (rest : List Value) (x : Int32), lv_has ls nL (zlv ls) → i < nL → (∀ ls' : Array Slot, lv_has ls' nL ((i, Value.int x) :: (zlv ls).filter (fun q => !(q.1 == i) && !(q.1 + 1 == i && q.2.category == 2))) → W p l e R s m args below meth c H locs ce sl Q (F0 m (pc + el) ls' rest)) → W p l e R s m args below meth c H locs ce sl Q (F0 m pc ls (.int x :: rest))) (k : ∀ x ∈ su, zWP (zG Z D cl tys A ad gh wr H0 ws0 nu0 nL) (fun H locs pc ls st => W p l e R s m args below meth c H locs ce sl Q (F0 m pc ls st)) x.1 x.2) : zWP (zG Z D cl tys A ad gh wr H0 ws0 nu0 nL) (fun H locs pc ls st => W p l e R s m args below meth c H locs ce sl Q (F0 m pc ls st)) pc sg := by
  obtain ⟨env, cd, L, st, fa, me⟩ := sg
  match st, h with
  | (tg, n, kk, n2, k2) :: r, hh =>
    simp only [zi_st] at hh
    split at hh
    · rename_i hc
      obtain ⟨h1, h2, h3⟩ := hc
      subst h2
      cases hh
      exact zs_stI h3 (row h1) (k _ List.mem_cons_self)
    · cases hh
theorem zk_stA {i el : Nat} (h : zi_st 3 pc sg i len el = some su) (row : len = el → ∀ (H : Heap) (locs : List Loc) (ls : Array Slot) (rest : List Value) (x : Nat), lv_has ls nL (zlv ls) → i < nL → (∀ ls' : Array Slot, lv_has ls' nL ((i, Value.ref x) :: (zlv ls).filter (fun q => !(q.1 == i) && !(q.1 + 1 == i && q.2.category == 2))) → W p l e R s m args below meth c H locs ce sl Q (F0 m (pc + el) ls' rest)) → W p l e R s m args below meth c H locs ce sl Q (F0 m pc ls (.ref x :: rest))) (k : ∀ x ∈ su, zWP (zG Z D cl tys A ad gh wr H0 ws0 nu0 nL) (fun H locs pc ls st => W p l e R s m args below meth c H locs ce sl Q (F0 m pc ls st)) x.1 x.2) : zWP (zG Z D cl tys A ad gh wr H0 ws0 nu0 nL) (fun H locs pc ls st => W p l e R s m args below meth c H locs ce sl Q (F0 m pc ls st)) pc sg := by
  obtain ⟨env, cd, L, st, fa, me⟩ := sg
  match st, h with
  | (tg, n, kk, n2, k2) :: r, hh =>
    simp only [zi_st] at hh
    split at hh
    · rename_i hc
      obtain ⟨h1, h2, h3⟩ := hc
      subst h2
      cases hh
      exact zs_stA h3 (row h1) (k _ List.mem_cons_self)
    · cases hh
theorem zk_stL {i el : Nat} (h : zi_stL pc sg i len el = some su) (row : len = el → ∀ (H : Heap) (locs : List Loc) (ls : Array Slot) (rest : List Value) (x : Int64), lv_has ls nL (zlv ls) → i + 1 < nL → (∀ ls' : Array Slot, lv_has ls' nL ((i, Value.long x) :: (zlv ls).filter (fun q => !(q.1 == i) && (!(q.1 == i + 1) && !(q.1 + 1 == i && q.2.category == 2)))) → W p l e R s m args below meth c H locs ce sl Q (F0 m (pc + el) ls' rest)) → W p l e R s m args below meth c H locs ce sl Q (F0 m pc ls (.long x :: rest))) (k : ∀ x ∈ su, zWP (zG Z D cl tys A ad gh wr H0 ws0 nu0 nL) (fun H locs pc ls st => W p l e R s m args below meth c H locs ce sl Q (F0 m pc ls st)) x.1 x.2) : zWP (zG Z D cl tys A ad gh wr H0 ws0 nu0 nL) (fun H locs pc ls st => W p l e R s m args below meth c H locs ce sl Q (F0 m pc ls st)) pc sg := by
  obtain ⟨env, cd, L, st, fa, me⟩ := sg
  match st, h with
  | (tg, n, kk, n2, k2) :: r, hh =>
    simp only [zi_stL] at hh
    split at hh
    · rename_i hc
      obtain ⟨h1, h2, h3⟩ := hc
      subst h2
      cases hh
      exact zs_stL h3 (row h1) (k _ List.mem_cons_self)
    · cases hh
theorem zk_iinc (hx : p.tables.exec = Jvm.exec) (hb : c.code = cc) (h0 : 0 < Z.2.2 ∧ gh 0 = 0) {i : Nat} {d : Int} (h : zi_iinc pc sg i d len = some su) (hd : decode cc pc = .ok (.iinc i d, len)) (k : ∀ x ∈ su, zWP (zG Z D cl tys A ad gh wr H0 ws0 nu0 nL) (fun H locs pc ls st => W p l e R s m args below meth c H locs ce sl Q (F0 m pc ls st)) x.1 x.2) : zWP (zG Z D cl tys A ad gh wr H0 ws0 nu0 nL) (fun H locs pc ls st => W p l e R s m args below meth c H locs ce sl Q (F0 m pc ls st)) pc sg := by
  obtain ⟨env, cd, L, st, fa, me⟩ := sg
  unfold zi_iinc at h
  split at h
  · rename_i a ha
    obtain ⟨tg, n, kk, n2, k2⟩ := a
    split at h
    · rename_i hc
      obtain ⟨h1, h2, h3⟩ := hc
      have h2 : tg = 1 := h2
      subst h2
      subst h1
      cases h
      exact zs_iinc hx hb h0 hd h3 ha (k _ List.mem_cons_self)
    · cases h
  · cases h
theorem zk_bin {f : List zIv → Nat × Int → Nat × Int → zRes} {g : Int32 → Int32 → Int32} (h : zi_bin f pc sg len = some su) (row : len = 1 → ∀ (H : Heap) (locs : List Loc) (ls : Array Slot) (rest : List Value) (x y : Int32), W p l e R s m args below meth c H locs ce sl Q (F0 m (pc + 1) ls (.int (g x y) :: rest)) → W p l e R s m args below meth c H locs ce sl Q (F0 m pc ls (.int y :: .int x :: rest)))
    (hr : ∀ (env : List zIv) (cd : List zCd) (a b : Nat × Int) (nu : List Int) (x y : Int32), zN Z.2.2 gh nu0 nu env cd → zV nu a.1 a.2 x.toInt → zV nu b.1 b.2 y.toInt → zRok nu (f env a b) (g x y).toInt) (k : ∀ x ∈ su, zWP (zG Z D cl tys A ad gh wr H0 ws0 nu0 nL) (fun H locs pc ls st => W p l e R s m args below meth c H locs ce sl Q (F0 m pc ls st)) x.1 x.2) : zWP (zG Z D cl tys A ad gh wr H0 ws0 nu0 nL) (fun H locs pc ls st => W p l e R s m args below meth c H locs ce sl Q (F0 m pc ls st)) pc sg := by
  obtain ⟨env, cd, L, st, fa, me⟩ := sg
  match st, h with
  | (t2, n2, k2, m2, l2) :: (t1, n1, k1, m1, l1) :: r, hh =>
    simp only [zi_bin] at hh
    split at hh
    · rename_i hc
      obtain ⟨h1, h2, h3⟩ := hc
      subst h2
      subst h3
      cases hh
      exact zs_bin (fun _ => True) (fun _ _ _ _ => trivial) (fun H locs ls rest x y _ => row h1 H locs ls rest x y) (fun nu x y hN hx hy => hr env cd (n1, k1) (n2, k2) nu x y hN hx hy) (k _ List.mem_cons_self)
    · cases hh
theorem zk_binL {f : List zIv → Nat × Int → Nat × Int → zRes} {g : Int64 → Int64 → Int64} (h : zi_binL f pc sg len = some su) (row : len = 1 → ∀ (H : Heap) (locs : List Loc) (ls : Array Slot) (rest : List Value) (x y : Int64), W p l e R s m args below meth c H locs ce sl Q (F0 m (pc + 1) ls (.long (g x y) :: rest)) → W p l e R s m args below meth c H locs ce sl Q (F0 m pc ls (.long y :: .long x :: rest)))
    (hr : ∀ (env : List zIv) (cd : List zCd) (a b : Nat × Int) (nu : List Int) (x y : Int64), zN Z.2.2 gh nu0 nu env cd → zV nu a.1 a.2 x.toInt → zV nu b.1 b.2 y.toInt → zRok nu (f env a b) (g x y).toInt) (k : ∀ x ∈ su, zWP (zG Z D cl tys A ad gh wr H0 ws0 nu0 nL) (fun H locs pc ls st => W p l e R s m args below meth c H locs ce sl Q (F0 m pc ls st)) x.1 x.2) : zWP (zG Z D cl tys A ad gh wr H0 ws0 nu0 nL) (fun H locs pc ls st => W p l e R s m args below meth c H locs ce sl Q (F0 m pc ls st)) pc sg := by
  obtain ⟨env, cd, L, st, fa, me⟩ := sg
  match st, h with
  | (t2, n2, k2, m2, l2) :: (t1, n1, k1, m1, l1) :: r, hh =>
    simp only [zi_binL] at hh
    split at hh
    · rename_i hc
      obtain ⟨h1, h2, h3⟩ := hc
      subst h2
      subst h3
      cases hh
      exact zs_binL (row h1) (fun nu x y hN hx hy => hr env cd (n1, k1) (n2, k2) nu x y hN hx hy) (k _ List.mem_cons_self)
    · cases hh
theorem zk_shL {g : Int64 → Int32 → Int64} (h : zi_shL pc sg len = some su) (row : len = 1 → ∀ (H : Heap) (locs : List Loc) (ls : Array Slot) (rest : List Value) (x : Int64) (y : Int32), W p l e R s m args below meth c H locs ce sl Q (F0 m (pc + 1) ls (.long (g x y) :: rest)) → W p l e R s m args below meth c H locs ce sl Q (F0 m pc ls (.int y :: .long x :: rest))) (k : ∀ x ∈ su, zWP (zG Z D cl tys A ad gh wr H0 ws0 nu0 nL) (fun H locs pc ls st => W p l e R s m args below meth c H locs ce sl Q (F0 m pc ls st)) x.1 x.2) : zWP (zG Z D cl tys A ad gh wr H0 ws0 nu0 nL) (fun H locs pc ls st => W p l e R s m args below meth c H locs ce sl Q (F0 m pc ls st)) pc sg := by
  obtain ⟨env, cd, L, st, fa, me⟩ := sg
  match st, h with
  | (t2, n2, k2, m2, l2) :: (t1, n1, k1, m1, l1) :: r, hh =>
    simp only [zi_shL] at hh
    split at hh
    · rename_i hc
      obtain ⟨h1, h2, h3⟩ := hc
      subst h2
      subst h3
      cases hh
      exact zs_shL (row h1) (k _ List.mem_cons_self)
    · cases hh
theorem zk_div (hx : p.tables.exec = Jvm.exec) (hb : c.code = cc) (h : zi_dr 0 pc sg len = some su) (hd : decode cc pc = .ok (.idiv, len)) (k : ∀ x ∈ su, zWP (zG Z D cl tys A ad gh wr H0 ws0 nu0 nL) (fun H locs pc ls st => W p l e R s m args below meth c H locs ce sl Q (F0 m pc ls st)) x.1 x.2) : zWP (zG Z D cl tys A ad gh wr H0 ws0 nu0 nL) (fun H locs pc ls st => W p l e R s m args below meth c H locs ce sl Q (F0 m pc ls st)) pc sg := by
  obtain ⟨env, cd, L, st, fa, me⟩ := sg
  match st, h with
  | (t2, n2, k2, m2, l2) :: (t1, n1, k1, m1, l1) :: r, hh =>
    simp only [zi_dr] at hh
    split at hh
    · rename_i hc
      obtain ⟨h1, h2, h3⟩ := hc
      subst h1
      subst h2
      subst h3
      split at hh
      · rename_i s' hs
        cases hh
        exact zs_div hx hb hd hs (k _ List.mem_cons_self)
      · cases hh
    · cases hh
theorem zk_rem (hx : p.tables.exec = Jvm.exec) (hb : c.code = cc) (h : zi_dr 1 pc sg len = some su) (hd : decode cc pc = .ok (.irem, len)) (k : ∀ x ∈ su, zWP (zG Z D cl tys A ad gh wr H0 ws0 nu0 nL) (fun H locs pc ls st => W p l e R s m args below meth c H locs ce sl Q (F0 m pc ls st)) x.1 x.2) : zWP (zG Z D cl tys A ad gh wr H0 ws0 nu0 nL) (fun H locs pc ls st => W p l e R s m args below meth c H locs ce sl Q (F0 m pc ls st)) pc sg := by
  obtain ⟨env, cd, L, st, fa, me⟩ := sg
  match st, h with
  | (t2, n2, k2, m2, l2) :: (t1, n1, k1, m1, l1) :: r, hh =>
    simp only [zi_dr] at hh
    split at hh
    · rename_i hc
      obtain ⟨h1, h2, h3⟩ := hc
      subst h1
      subst h2
      subst h3
      split at hh
      · rename_i s' hs
        cases hh
        exact zs_rem hx hb hd hs (k _ List.mem_cons_self)
      · cases hh
    · cases hh
theorem zk_una {iv : zIv} {g : Int32 → Int32} (h : zi_una iv pc sg len = some su) (row : len = 1 → ∀ (H : Heap) (locs : List Loc) (ls : Array Slot) (rest : List Value) (x : Int32), W p l e R s m args below meth c H locs ce sl Q (F0 m (pc + 1) ls (.int (g x) :: rest)) → W p l e R s m args below meth c H locs ce sl Q (F0 m pc ls (.int x :: rest))) (hr : ∀ x : Int32, zInIv (g x).toInt iv) (k : ∀ x ∈ su, zWP (zG Z D cl tys A ad gh wr H0 ws0 nu0 nL) (fun H locs pc ls st => W p l e R s m args below meth c H locs ce sl Q (F0 m pc ls st)) x.1 x.2) : zWP (zG Z D cl tys A ad gh wr H0 ws0 nu0 nL) (fun H locs pc ls st => W p l e R s m args below meth c H locs ce sl Q (F0 m pc ls st)) pc sg := by
  obtain ⟨env, cd, L, st, fa, me⟩ := sg
  match st, h with
  | (t1, n1, k1, m1, l1) :: r, hh =>
    simp only [zi_una] at hh
    split at hh
    · rename_i hc
      obtain ⟨h1, h2⟩ := hc
      subst h2
      cases hh
      exact zs_una (r := .inr iv) (row h1) (fun nu x hN hx => hr x) (k _ List.mem_cons_self)
    · cases hh
theorem zk_i2l (hx : p.tables.exec = Jvm.exec) (hb : c.code = cc) (h : zi_i2l pc sg len = some su) (hd : decode cc pc = .ok (.i2l, len)) (k : ∀ x ∈ su, zWP (zG Z D cl tys A ad gh wr H0 ws0 nu0 nL) (fun H locs pc ls st => W p l e R s m args below meth c H locs ce sl Q (F0 m pc ls st)) x.1 x.2) : zWP (zG Z D cl tys A ad gh wr H0 ws0 nu0 nL) (fun H locs pc ls st => W p l e R s m args below meth c H locs ce sl Q (F0 m pc ls st)) pc sg := by
  obtain ⟨env, cd, L, st, fa, me⟩ := sg
  match st, h with
  | (t1, n1, k1, m1, l1) :: r, hh =>
    simp only [zi_i2l] at hh
    split at hh
    · rename_i hc
      obtain ⟨h1, h2⟩ := hc
      subst h1
      subst h2
      cases hh
      exact zs_i2l hx hb hd (k _ List.mem_cons_self)
    · cases hh
theorem zk_l2i (hx : p.tables.exec = Jvm.exec) (hb : c.code = cc) (h : zi_l2i pc sg len = some su) (hd : decode cc pc = .ok (.l2i, len)) (k : ∀ x ∈ su, zWP (zG Z D cl tys A ad gh wr H0 ws0 nu0 nL) (fun H locs pc ls st => W p l e R s m args below meth c H locs ce sl Q (F0 m pc ls st)) x.1 x.2) : zWP (zG Z D cl tys A ad gh wr H0 ws0 nu0 nL) (fun H locs pc ls st => W p l e R s m args below meth c H locs ce sl Q (F0 m pc ls st)) pc sg := by
  obtain ⟨env, cd, L, st, fa, me⟩ := sg
  match st, h with
  | (t1, n1, k1, m1, l1) :: r, hh =>
    simp only [zi_l2i] at hh
    split at hh
    · rename_i hc
      obtain ⟨h1, h2⟩ := hc
      subst h1
      subst h2
      cases hh
      exact zs_l2i hx hb hd (k _ List.mem_cons_self)
    · cases hh
theorem zk_lcmp (hx : p.tables.exec = Jvm.exec) (hb : c.code = cc) (h : zi_lcmp pc sg len = some su) (hd : decode cc pc = .ok (.lcmp, len)) (k : ∀ x ∈ su, zWP (zG Z D cl tys A ad gh wr H0 ws0 nu0 nL) (fun H locs pc ls st => W p l e R s m args below meth c H locs ce sl Q (F0 m pc ls st)) x.1 x.2) : zWP (zG Z D cl tys A ad gh wr H0 ws0 nu0 nL) (fun H locs pc ls st => W p l e R s m args below meth c H locs ce sl Q (F0 m pc ls st)) pc sg := by
  obtain ⟨env, cd, L, st, fa, me⟩ := sg
  match st, h with
  | (t2, n2, k2, m2, l2) :: (t1, n1, k1, m1, l1) :: r, hh =>
    simp only [zi_lcmp] at hh
    split at hh
    · rename_i hc
      obtain ⟨h1, h2, h3⟩ := hc
      subst h1
      subst h2
      subst h3
      cases hh
      exact zs_lcmp hx hb hd (k _ List.mem_cons_self)
    · cases hh
theorem zk_icmp {op : Nat} {off : Int} {Pr : Int32 → Int32 → Prop} (h : zi_icmp op pc sg off len = some su) (hP : ∀ x y : Int32, (Pr x y → zrel op x.toInt y.toInt) ∧ (¬ Pr x y → zrel (zopn op) x.toInt y.toInt))
    (row : len = 3 → (pc : Int) + off = (ztgt pc off : Int) → ∀ (H : Heap) (locs : List Loc) (ls : Array Slot) (rest : List Value) (x y : Int32), (Pr x y → W p l e R s m args below meth c H locs ce sl Q (F0 m (ztgt pc off) ls rest)) → (¬ Pr x y → W p l e R s m args below meth c H locs ce sl Q (F0 m (pc + 3) ls rest)) → W p l e R s m args below meth c H locs ce sl Q (F0 m pc ls (.int y :: .int x :: rest))) (k : ∀ x ∈ su, zWP (zG Z D cl tys A ad gh wr H0 ws0 nu0 nL) (fun H locs pc ls st => W p l e R s m args below meth c H locs ce sl Q (F0 m pc ls st)) x.1 x.2) : zWP (zG Z D cl tys A ad gh wr H0 ws0 nu0 nL) (fun H locs pc ls st => W p l e R s m args below meth c H locs ce sl Q (F0 m pc ls st)) pc sg := by
  obtain ⟨env, cd, L, st, fa, me⟩ := sg
  match st, h with
  | (t2, n2, k2, m2, l2) :: (t1, n1, k1, m1, l1) :: r, hh =>
    simp only [zi_icmp] at hh
    split at hh
    · rename_i hc
      obtain ⟨h1, h2, h3, h4⟩ := hc
      subst h2
      subst h3
      cases hh
      exact zs_icmp hP (row h1 h4) (k _ List.mem_cons_self) (k _ (List.mem_cons_of_mem _ List.mem_cons_self))
    · cases hh
theorem zk_if (h0 : 0 < Z.2.2 ∧ gh 0 = 0) {op : Nat} {off : Int} {Pr : Int32 → Prop} (h : zi_if op pc sg off len = some su) (hP : ∀ x : Int32, (Pr x → zrel op x.toInt 0) ∧ (¬ Pr x → zrel (zopn op) x.toInt 0)) (hPL : ∀ x y : Int64, (Pr (lg_cmp x y) → zrel op x.toInt y.toInt) ∧ (¬ Pr (lg_cmp x y) → zrel (zopn op) x.toInt y.toInt))
    (row : len = 3 → (pc : Int) + off = (ztgt pc off : Int) → ∀ (H : Heap) (locs : List Loc) (ls : Array Slot) (rest : List Value) (x : Int32), (Pr x → W p l e R s m args below meth c H locs ce sl Q (F0 m (ztgt pc off) ls rest)) → (¬ Pr x → W p l e R s m args below meth c H locs ce sl Q (F0 m (pc + 3) ls rest)) → W p l e R s m args below meth c H locs ce sl Q (F0 m pc ls (.int x :: rest))) (k : ∀ x ∈ su, zWP (zG Z D cl tys A ad gh wr H0 ws0 nu0 nL) (fun H locs pc ls st => W p l e R s m args below meth c H locs ce sl Q (F0 m pc ls st)) x.1 x.2) : zWP (zG Z D cl tys A ad gh wr H0 ws0 nu0 nL) (fun H locs pc ls st => W p l e R s m args below meth c H locs ce sl Q (F0 m pc ls st)) pc sg := by
  obtain ⟨env, cd, L, st, fa, me⟩ := sg
  match st, h with
  | (t1, n1, k1, m1, l1) :: r, hh =>
    simp only [zi_if] at hh
    split at hh
    · rename_i hc
      obtain ⟨h1, h4⟩ := hc
      split at hh
      · rename_i h2
        subst h2
        cases hh
        exact zs_if h0 hP (row h1 h4) (k _ List.mem_cons_self) (k _ (List.mem_cons_of_mem _ List.mem_cons_self))
      · split at hh
        · rename_i h2
          subst h2
          cases hh
          exact zs_ifL hPL (row h1 h4) (k _ List.mem_cons_self) (k _ (List.mem_cons_of_mem _ List.mem_cons_self))
        · cases hh
    · cases hh
theorem zk_goto (hx : p.tables.exec = Jvm.exec) (hb : c.code = cc) {off : Int} (h : zi_goto pc sg off len = some su) (hd : decode cc pc = .ok (.goto off, len)) (k : ∀ x ∈ su, zWP (zG Z D cl tys A ad gh wr H0 ws0 nu0 nL) (fun H locs pc ls st => W p l e R s m args below meth c H locs ce sl Q (F0 m pc ls st)) x.1 x.2) : zWP (zG Z D cl tys A ad gh wr H0 ws0 nu0 nL) (fun H locs pc ls st => W p l e R s m args below meth c H locs ce sl Q (F0 m pc ls st)) pc sg := by
  unfold zi_goto at h
  split at h
  · rename_i hc
    obtain ⟨h1, h2⟩ := hc
    subst h1
    cases h
    exact zs_goto (env := sg.1) (cd := sg.2.1) (L := sg.2.2.1) (st := sg.2.2.2.1) (fa := sg.2.2.2.2.1) (me := sg.2.2.2.2.2) hx hb hd h2 (k _ List.mem_cons_self)
  · cases h
theorem zk_dup (hx : p.tables.exec = Jvm.exec) (hb : c.code = cc) (h : zi_dup pc sg len = some su) (hd : decode cc pc = .ok (.dup, len)) (k : ∀ x ∈ su, zWP (zG Z D cl tys A ad gh wr H0 ws0 nu0 nL) (fun H locs pc ls st => W p l e R s m args below meth c H locs ce sl Q (F0 m pc ls st)) x.1 x.2) : zWP (zG Z D cl tys A ad gh wr H0 ws0 nu0 nL) (fun H locs pc ls st => W p l e R s m args below meth c H locs ce sl Q (F0 m pc ls st)) pc sg := by
  obtain ⟨env, cd, L, st, fa, me⟩ := sg
  match st, h with
  | a :: r, hh =>
    simp only [zi_dup] at hh
    split at hh
    · rename_i hc
      obtain ⟨h1, h2, h3⟩ := hc
      subst h1
      cases hh
      exact zs_dup hx hb h2 h3 hd (k _ List.mem_cons_self)
    · cases hh
theorem zk_pop (hx : p.tables.exec = Jvm.exec) (hb : c.code = cc) (h : zi_pop pc sg len = some su) (hd : decode cc pc = .ok (.pop, len)) (k : ∀ x ∈ su, zWP (zG Z D cl tys A ad gh wr H0 ws0 nu0 nL) (fun H locs pc ls st => W p l e R s m args below meth c H locs ce sl Q (F0 m pc ls st)) x.1 x.2) : zWP (zG Z D cl tys A ad gh wr H0 ws0 nu0 nL) (fun H locs pc ls st => W p l e R s m args below meth c H locs ce sl Q (F0 m pc ls st)) pc sg := by
  obtain ⟨env, cd, L, st, fa, me⟩ := sg
  match st, h with
  | a :: r, hh =>
    simp only [zi_pop] at hh
    split at hh
    · rename_i hc
      obtain ⟨h1, h2, h3⟩ := hc
      subst h1
      cases hh
      exact zs_pop hx hb h2 h3 hd (k _ List.mem_cons_self)
    · cases hh
theorem zk_pop2 (hx : p.tables.exec = Jvm.exec) (hb : c.code = cc) (h : zi_pop2 pc sg len = some su) (hd : decode cc pc = .ok (.pop2, len)) (k : ∀ x ∈ su, zWP (zG Z D cl tys A ad gh wr H0 ws0 nu0 nL) (fun H locs pc ls st => W p l e R s m args below meth c H locs ce sl Q (F0 m pc ls st)) x.1 x.2) : zWP (zG Z D cl tys A ad gh wr H0 ws0 nu0 nL) (fun H locs pc ls st => W p l e R s m args below meth c H locs ce sl Q (F0 m pc ls st)) pc sg := by
  obtain ⟨env, cd, L, st, fa, me⟩ := sg
  match st, h with
  | (t1, n1, k1, m1, l1) :: r, hh =>
    simp only [zi_pop2] at hh
    split at hh
    · rename_i hc
      obtain ⟨h1, h2⟩ := hc
      subst h1
      subst h2
      cases hh
      intro nu ls stc ws H locs hG
      obtain ⟨hH, hN, hL, hS, hF, hM⟩ := hG
      match stc, hS with
      | v1 :: stc, ⟨⟨x, hv, _⟩, hS⟩ =>
        subst hv
        exact lv_pop2_2 hx hb hd rfl (k _ List.mem_cons_self nu ls _ ws H locs ⟨hH, hN, hL, hS, hF, hM⟩)
    · cases hh
theorem zsw_mem {r : List zAV} {a : Nat × Int} {lo : Int} : ∀ {offs : List Int} {b i : Nat} {off : Int}, offs[i]? = some off → (ztgt pc off, ((zas 0 sg.1 sg.2.1 a (0, lo + ((b + i : Nat) : Int))).1, (zas 0 sg.1 sg.2.1 a (0, lo + ((b + i : Nat) : Int))).2, sg.2.2.1, r, sg.2.2.2.2.1, sg.2.2.2.2.2)) ∈ zsw pc sg r a lo b offs
  | o :: offs, b, 0, off, h => by
    rw [List.getElem?_cons_zero] at h
    cases h
    exact List.mem_cons_self
  | o :: offs, b, i + 1, off, h => by
    rw [List.getElem?_cons_succ] at h
    have := zsw_mem (r := r) (a := a) (lo := lo) (b := b + 1) h
    rw [show b + 1 + i = b + (i + 1) by omega] at this
    exact List.mem_cons_of_mem _ this
  | [], b, i, off, h => by simp at h
theorem zk_tsw (hx : p.tables.exec = Jvm.exec) (hb : c.code = cc) (h0 : 0 < Z.2.2 ∧ gh 0 = 0) {dflt lo hi : Int} {offs : Array Int} (h : zi_tsw pc sg dflt lo hi offs.toList = some su) (hd : decode cc pc = .ok (.tableswitch dflt lo hi offs, len)) (k : ∀ x ∈ su, zWP (zG Z D cl tys A ad gh wr H0 ws0 nu0 nL) (fun H locs pc ls st => W p l e R s m args below meth c H locs ce sl Q (F0 m pc ls st)) x.1 x.2) : zWP (zG Z D cl tys A ad gh wr H0 ws0 nu0 nL) (fun H locs pc ls st => W p l e R s m args below meth c H locs ce sl Q (F0 m pc ls st)) pc sg := by
  obtain ⟨env, cd, L, st, fa, me⟩ := sg
  match st, h with
  | (t1, n1, k1, m1, l1) :: r, hh =>
    simp only [zi_tsw] at hh
    split at hh
    · rename_i hc
      obtain ⟨h1, h2, h3, h4⟩ := hc
      subst h1
      cases hh
      refine zs_tsw hx hb h0 hd h2 h3 (k _ List.mem_cons_self) (k _ (List.mem_cons_of_mem _ List.mem_cons_self)) (fun i off ho => ?_)
      have h5 := List.all_eq_true.mp h4 off (List.mem_of_getElem? ho)
      rw [decide_eq_true_eq] at h5
      have h6 := zsw_mem (pc := pc) (sg := (env, cd, L, (1, n1, k1, m1, l1) :: r, fa, me)) (r := r) (a := (n1, k1)) (lo := lo) (b := 0) ho
      rw [Nat.zero_add] at h6
      exact ⟨_, h5, k _ (List.mem_cons_of_mem _ (List.mem_cons_of_mem _ h6))⟩
    · cases hh
theorem zk_lsw (hx : p.tables.exec = Jvm.exec) (hb : c.code = cc) (h0 : 0 < Z.2.2 ∧ gh 0 = 0) {dflt : Int} {ps : Array (Int × Int)} (h : zi_lsw pc sg dflt ps.toList = some su) (hd : decode cc pc = .ok (.lookupswitch dflt ps, len)) (k : ∀ x ∈ su, zWP (zG Z D cl tys A ad gh wr H0 ws0 nu0 nL) (fun H locs pc ls st => W p l e R s m args below meth c H locs ce sl Q (F0 m pc ls st)) x.1 x.2) : zWP (zG Z D cl tys A ad gh wr H0 ws0 nu0 nL) (fun H locs pc ls st => W p l e R s m args below meth c H locs ce sl Q (F0 m pc ls st)) pc sg := by
  obtain ⟨env, cd, L, st, fa, me⟩ := sg
  match st, h with
  | (t1, n1, k1, m1, l1) :: r, hh =>
    simp only [zi_lsw] at hh
    split at hh
    · rename_i hc
      obtain ⟨h1, h2, h3, h4⟩ := hc
      subst h1
      cases hh
      refine zs_lsw hx hb h0 hd h2 h3 (k _ List.mem_cons_self) (fun q hq => ?_)
      have h5 := List.all_eq_true.mp h4 q hq
      rw [decide_eq_true_eq] at h5
      exact ⟨_, h5, k _ (List.mem_cons_of_mem _ (List.mem_map.mpr ⟨q, hq, rfl⟩))⟩
    · cases hh
/-- a field of few values: a way for each -/
theorem zs_get7 (hx : p.tables.exec = Jvm.exec) (hb : c.code = cc) (h0 : 0 < Z.2.2 ∧ gh 0 = 0) {own : String} (hown : s.vm.findClass own = some m.cls) (hK : va_K D cl tys s) {idx ci j n n2 x : Nat} {k k2 : Int} {fts : List zFT} {ft : zFT} (hd : decode cc pc = .ok (.getfield idx, 3)) (hf : zFld cl s args own idx ci j)
    (ht : zty Z env (n, k) = some (0, ci, x, fts)) (hj : fts[j]? = some ft) (h7 : ft.1 = 7) (kk : ∀ v ∈ zspl ft.2.1 (ft.2.2 - ft.2.1 + 1).toNat, zWP (zG Z D cl tys A ad gh wr H0 ws0 nu0 nL) (fun H locs pc ls st => W p l e R s m args below meth c H locs ce sl Q (F0 m pc ls st)) (pc + 3) (env, cd, L, (1, 0, v, 0, 0) :: st, (n, k, j, (1, 0, v, 0, 0)) :: fa, me)) : zWP (zG Z D cl tys A ad gh wr H0 ws0 nu0 nL) (fun H locs pc ls st => W p l e R s m args below meth c H locs ce sl Q (F0 m pc ls st)) pc (env, cd, L, (3, n, k, n2, k2) :: st, fa, me) := by
  intro nu ls stc ws H locs hG
  obtain ⟨hH, hN, hL, hS, hF, hM⟩ := hG
  match stc, hS with
  | v1 :: stc, ⟨⟨q, hq, h1⟩, hS⟩ =>
    subst hq
    obtain ⟨e0, he0, g1, g2, g3⟩ := zty_ok ht hN.1 h1
    have hc := hH.2.2.2.1 e0 he0 q g1 g2
    rw [g3] at hc
    obtain ⟨fs, c1, c2, c3⟩ := hc
    have hl : j < fs.length := by rw [c2]; exact (List.getElem?_eq_some_iff.mp hj).1
    have hv : fs[j]? = some fs[j] := List.getElem?_eq_getElem hl
    have hz := c3 j ft _ hj hv
    obtain ⟨tg, lo, hi⟩ := ft
    have h7 : tg = 7 := h7
    subst h7
    obtain ⟨y, hy, y1, y2⟩ := hz
    have hm : y.toInt ∈ zspl lo (hi - lo + 1).toNat := by
      unfold zspl
      exact List.mem_map.mpr ⟨(y.toInt - lo).toNat, List.mem_range.mpr (by omega), by omega⟩
    have hG' : zG Z D cl tys A ad gh wr H0 ws0 nu0 nL (env, cd, L, (1, 0, y.toInt, 0, 0) :: st, (n, k, j, (1, 0, y.toInt, 0, 0)) :: fa, me) nu ls (fs[j] :: stc) ws H locs := by
      refine ⟨hH, hN, hL, ⟨⟨y, hy, hN.cst h0 _⟩, hS⟩, fun f hf => ?_, hM⟩
      rcases List.mem_cons.mp hf with rfl | hf
      · exact ⟨q, fs[j], h1, by unfold zfv; rw [c1]; exact hv, y, hy, hN.cst h0 _⟩
      · exact hF f hf
    obtain ⟨C, T, N, ty0, f1, f2, f3, f4, f5, f6⟩ := hf
    rcases f6 with f6 | ⟨host, f6⟩
    · exact va_get hx hb f3 (fun w hw => hw) hown hK hH.1 q c1 f1 j f2 f6 (fun x h => h) hv hd (kk _ hm nu ls _ ws H locs hG')
    · exact va_getN hx hb f3 (fun w hw => hw) hown hK hH.1 q c1 f1 j f2 f6 (fun x h => h) hv hd (kk _ hm nu ls _ ws H locs hG')
theorem zk_get (hx : p.tables.exec = Jvm.exec) (hb : c.code = cc) (h0 : 0 < Z.2.2 ∧ gh 0 = 0) {own : String} (hown : s.vm.findClass own = some m.cls) (hK : va_K D cl tys s) {P : zPool} (hFl : ∀ f ∈ P.1, zFld cl s args own f.1 f.2.1 f.2.2.1) {idx : Nat} (h : zi_get Z P pc sg idx len = some su) (hd : decode cc pc = .ok (.getfield idx, len)) (k : ∀ x ∈ su, zWP (zG Z D cl tys A ad gh wr H0 ws0 nu0 nL) (fun H locs pc ls st => W p l e R s m args below meth c H locs ce sl Q (F0 m pc ls st)) x.1 x.2) : zWP (zG Z D cl tys A ad gh wr H0 ws0 nu0 nL) (fun H locs pc ls st => W p l e R s m args below meth c H locs ce sl Q (F0 m pc ls st)) pc sg := by
  obtain ⟨env, cd, L, st, fa, me⟩ := sg
  unfold zi_get at h
  split at h
  · rename_i a r f e1 e2
    obtain ⟨t1, n1, k1, m1, l1⟩ := a
    have e1 : st = (t1, n1, k1, m1, l1) :: r := e1
    subst e1
    split at h
    · rename_i hc
      obtain ⟨h1, h2⟩ := hc
      have h2 : t1 = 3 := h2
      subst h1
      subst h2
      split at h
      · rename_i ci x fts ht
        split at h
        · rename_i ft hj
          split at h
          · rename_i hci
            have hf := hFl f (List.mem_of_find?_eq_some e2)
            have hi : f.1 = idx := by have := List.find?_some e2; simpa using this
            rw [hi, ← hci] at hf
            split at h
            · rename_i hs7
              cases h
              exact zs_get7 hx hb h0 hown hK hd hf ht hj hs7.1 (fun v hv => k _ (List.mem_map.mpr ⟨v, hv, rfl⟩))
            · split at h
              · rename_i s' hs
                cases h
                exact zs_get hx hb h0 hown hK hd hf ht hj hs (k _ List.mem_cons_self)
              · cases h
          · cases h
        · cases h
      · cases h
    · cases h
  · cases h
theorem zk_put (hx : p.tables.exec = Jvm.exec) (hb : c.code = cc) (h0 : 0 < Z.2.2 ∧ gh 0 = 0) {own : String} (hown : s.vm.findClass own = some m.cls) (hK : va_K D cl tys s) (hZ : zDj Z) {P : zPool} (hFl : ∀ f ∈ P.1, f.2.2.2 ≤ 2 → zFldP cl s args own f.1 f.2.1 f.2.2.1 f.2.2.2) {idx : Nat} (h : zi_put Z P wr pc sg idx len = some su) (hd : decode cc pc = .ok (.putfield idx, len)) (k : ∀ x ∈ su, zWP (zG Z D cl tys A ad gh wr H0 ws0 nu0 nL) (fun H locs pc ls st => W p l e R s m args below meth c H locs ce sl Q (F0 m pc ls st)) x.1 x.2) : zWP (zG Z D cl tys A ad gh wr H0 ws0 nu0 nL) (fun H locs pc ls st => W p l e R s m args below meth c H locs ce sl Q (F0 m pc ls st)) pc sg := by
  obtain ⟨env, cd, L, st, fa, me⟩ := sg
  unfold zi_put at h
  split at h
  · rename_i v a r f e1 e2
    obtain ⟨t1, n1, k1, m1, l1⟩ := a
    have e1 : st = v :: (t1, n1, k1, m1, l1) :: r := e1
    subst e1
    split at h
    · rename_i hc
      obtain ⟨h1, h2, h3⟩ := hc
      have h2 : t1 = 3 := h2
      subst h1
      subst h2
      split at h
      · rename_i ci x fts ht
        split at h
        · rename_i ft hj
          split at h
          · rename_i hci
            obtain ⟨c1, c2, c3, c4⟩ := hci
            cases h
            have hf := hFl f (List.mem_of_find?_eq_some e2) h3
            have hi : f.1 = idx := by have := List.find?_some e2; simpa using this
            rw [hi, ← c1] at hf
            exact zs_put hx hb h0 hown hK hZ hd hf ht hj c2 c3 c4 (k _ List.mem_cons_self)
          · cases h
        · cases h
      · cases h
    · cases h
  · cases h
theorem zk_iald (hx : p.tables.exec = Jvm.exec) (hb : c.code = cc) (h0 : 0 < Z.2.2 ∧ gh 0 = 0) (hK : va_K D cl tys s) {RS : List (List Int)} (hRS : ∀ (i : Nat) (tb : List Int), RS[i]? = some tb → ∀ (H : Heap) (locs : List Loc) (ls : Array Slot) (rest : List Value) (x : Int32), decode cc pc = .ok (.iaload, 1) → va_S A H0 H locs → vp_in x tb.length → W p l e R s m args below meth c H locs ce sl Q (F0 m (pc + 1) ls (.int (Int32.ofInt (tb.getD x.toNatClampNeg 0)) :: rest)) → W p l e R s m args below meth c H locs ce sl Q (F0 m pc ls (.int x :: .ref (ad (1000 + i)) :: rest)))
    (h : zi_iald Z RS pc sg len = some su) (hd : decode cc pc = .ok (.iaload, len)) (k : ∀ x ∈ su, zWP (zG Z D cl tys A ad gh wr H0 ws0 nu0 nL) (fun H locs pc ls st => W p l e R s m args below meth c H locs ce sl Q (F0 m pc ls st)) x.1 x.2) : zWP (zG Z D cl tys A ad gh wr H0 ws0 nu0 nL) (fun H locs pc ls st => W p l e R s m args below meth c H locs ce sl Q (F0 m pc ls st)) pc sg := by
  obtain ⟨env, cd, L, st, fa, me⟩ := sg
  match st, h with
  | (t2, n2, k2, m2, l2) :: (t1, n1, k1, m1, l1) :: r, hh =>
    simp only [zi_iald] at hh
    split at hh
    · rename_i hc
      obtain ⟨h1, h2, h3⟩ := hc
      subst h1
      subst h2
      subst h3
      split at hh
      · rename_i hs
        obtain ⟨hs1, hs2⟩ := hs
        subst hs1
        split at hh
        · rename_i tb htb
          split at hh
          · rename_i hbd
            cases hh
            intro nu ls stc ws H locs hG
            obtain ⟨hH, hN, hL, hS, hF, hM⟩ := hG
            match stc, hS with
            | v2 :: v1 :: stc, ⟨⟨x, hx', g2⟩, ⟨q, hq, g1⟩, hS⟩ =>
              subst hq
              subst hx'
              obtain ⟨b1, b2, b3⟩ := zbds_ok (i := (n2, k2)) hbd.1 (hN.z0 h0) hN.1 hN.2.1 g2
              have eq : q = 1000 + (k1 - 1000).toNat := by
                have := g1.eq (hN.cst h0 k1)
                omega
              rw [eq]
              have hm : tb.getD x.toNatClampNeg 0 ∈ tb := by
                rw [List.getD_eq_getElem?_getD, List.getElem?_eq_getElem b2]
                exact List.getElem_mem b2
              have hrg := List.all_eq_true.mp hbd.2 _ hm
              rw [Bool.and_eq_true, decide_eq_true_eq, decide_eq_true_eq] at hrg
              have hz : zRok nu (zrsI tb (n2, k2) env) (Int32.ofInt (tb.getD x.toNatClampNeg 0)).toInt := by
                rw [zofI hrg.1 hrg.2]
                unfold zrsI
                by_cases hcs : zcst env (n2, k2) = true
                · rw [if_pos hcs]
                  have e := zcst_ok (a := (n2, k2)) hcs hN.1 g2
                  have e2 : x.toNatClampNeg = (zlo env (n2, k2).1 + (n2, k2).2).toNat := by rw [← e]; rfl
                  rw [e2]
                  exact hN.cst h0 _
                · rw [if_neg hcs]
                  exact ⟨_, List.mem_map.mpr ⟨_, hm, rfl⟩, Int.le_refl _, Int.le_refl _⟩
              obtain ⟨nu', hG'⟩ := zG.pushI (sg := (env, cd, L, r, fa, me)) (stc' := stc) ⟨hH, hN, hL, hS, hF, hM⟩ hS hz
              exact hRS _ tb htb H locs ls stc x hd hH.2.2.1 b1 (k _ List.mem_cons_self nu' ls _ ws H locs hG')
          · cases hh
        · cases hh
      · split at hh
        · rename_i t0 n ft fts ht
          split at hh
          · rename_i hbd
            split at hh
            · rename_i s' hs
              cases hh
              exact zs_iald hx hb h0 hK hd ht rfl hbd hs (k _ List.mem_cons_self)
            · cases hh
          · cases hh
        · cases hh
    · cases hh
theorem zk_bald (hx : p.tables.exec = Jvm.exec) (hb : c.code = cc) (h0 : 0 < Z.2.2 ∧ gh 0 = 0) (hK : va_K D cl tys s) (h : zi_bald Z pc sg len = some su) (hd : decode cc pc = .ok (.baload, len)) (k : ∀ x ∈ su, zWP (zG Z D cl tys A ad gh wr H0 ws0 nu0 nL) (fun H locs pc ls st => W p l e R s m args below meth c H locs ce sl Q (F0 m pc ls st)) x.1 x.2) : zWP (zG Z D cl tys A ad gh wr H0 ws0 nu0 nL) (fun H locs pc ls st => W p l e R s m args below meth c H locs ce sl Q (F0 m pc ls st)) pc sg := by
  obtain ⟨env, cd, L, st, fa, me⟩ := sg
  match st, h with
  | (t2, n2, k2, m2, l2) :: (t1, n1, k1, m1, l1) :: r, hh =>
    simp only [zi_bald] at hh
    split at hh
    · rename_i hc
      obtain ⟨h1, h2, h3⟩ := hc
      subst h1
      subst h2
      subst h3
      split at hh
      · rename_i t0 n ft fts ht
        split at hh
        · rename_i hbd
          split at hh
          · rename_i s' hs
            cases hh
            exact zs_bald hx hb h0 hK hd ht rfl hbd hs (k _ List.mem_cons_self)
          · cases hh
        · cases hh
      · cases hh
    · cases hh
theorem zk_lald (hx : p.tables.exec = Jvm.exec) (hb : c.code = cc) (h0 : 0 < Z.2.2 ∧ gh 0 = 0) (hK : va_K D cl tys s) (h : zi_lald Z pc sg len = some su) (hd : decode cc pc = .ok (.laload, len)) (k : ∀ x ∈ su, zWP (zG Z D cl tys A ad gh wr H0 ws0 nu0 nL) (fun H locs pc ls st => W p l e R s m args below meth c H locs ce sl Q (F0 m pc ls st)) x.1 x.2) : zWP (zG Z D cl tys A ad gh wr H0 ws0 nu0 nL) (fun H locs pc ls st => W p l e R s m args below meth c H locs ce sl Q (F0 m pc ls st)) pc sg := by
  obtain ⟨env, cd, L, st, fa, me⟩ := sg
  match st, h with
  | (t2, n2, k2, m2, l2) :: (t1, n1, k1, m1, l1) :: r, hh =>
    simp only [zi_lald] at hh
    split at hh
    · rename_i hc
      obtain ⟨h1, h2, h3⟩ := hc
      subst h1
      subst h2
      subst h3
      split at hh
      · rename_i t0 n fts ht
        split at hh
        · rename_i hbd
          split at hh
          · rename_i s' hs
            cases hh
            exact zs_lald hx hb h0 hK hd ht hbd hs (k _ List.mem_cons_self)
          · cases hh
        · cases hh
      · cases hh
    · cases hh
theorem zk_aald (hx : p.tables.exec = Jvm.exec) (hb : c.code = cc) (h0 : 0 < Z.2.2 ∧ gh 0 = 0) (hK : va_K D cl tys s) (h : zi_aald Z pc sg len = some su) (hd : decode cc pc = .ok (.aaload, len)) (k : ∀ x ∈ su, zWP (zG Z D cl tys A ad gh wr H0 ws0 nu0 nL) (fun H locs pc ls st => W p l e R s m args below meth c H locs ce sl Q (F0 m pc ls st)) x.1 x.2) : zWP (zG Z D cl tys A ad gh wr H0 ws0 nu0 nL) (fun H locs pc ls st => W p l e R s m args below meth c H locs ce sl Q (F0 m pc ls st)) pc sg := by
  obtain ⟨env, cd, L, st, fa, me⟩ := sg
  match st, h with
  | (t2, n2, k2, m2, l2) :: (t1, n1, k1, m1, l1) :: r, hh =>
    simp only [zi_aald] at hh
    split at hh
    · rename_i hc
      obtain ⟨h1, h2, h3⟩ := hc
      subst h1
      subst h2
      subst h3
      split at hh
      · rename_i tg t0 n ft fts ht
        split at hh
        · rename_i hbd
          cases hh
          exact zs_aald hx hb h0 hK hd hbd.1 ht rfl hbd.2 (k _ List.mem_cons_self)
        · cases hh
      · cases hh
    · cases hh
theorem zk_iast (hx : p.tables.exec = Jvm.exec) (hb : c.code = cc) (h0 : 0 < Z.2.2 ∧ gh 0 = 0) (hK : va_K D cl tys s) (hZ : zDj Z) (h : zi_iast Z wr pc sg len = some su) (hd : decode cc pc = .ok (.iastore, len)) (k : ∀ x ∈ su, zWP (zG Z D cl tys A ad gh wr H0 ws0 nu0 nL) (fun H locs pc ls st => W p l e R s m args below meth c H locs ce sl Q (F0 m pc ls st)) x.1 x.2) : zWP (zG Z D cl tys A ad gh wr H0 ws0 nu0 nL) (fun H locs pc ls st => W p l e R s m args below meth c H locs ce sl Q (F0 m pc ls st)) pc sg := by
  obtain ⟨env, cd, L, st, fa, me⟩ := sg
  match st, h with
  | (t3, n3, k3, m3, l3) :: (t2, n2, k2, m2, l2) :: (t1, n1, k1, m1, l1) :: r, hh =>
    simp only [zi_iast] at hh
    split at hh
    · rename_i hc
      obtain ⟨h1, h2, h3, h4⟩ := hc
      subst h1
      subst h2
      subst h3
      subst h4
      split at hh
      · rename_i t0 n ft ht
        split at hh
        · rename_i hbd
          cases hh
          exact zs_iast hx hb h0 hK hZ hd ht rfl hbd.1 hbd.2.1 hbd.2.2 (k _ List.mem_cons_self)
        · cases hh
      · cases hh
    · cases hh
theorem zk_bast (hx : p.tables.exec = Jvm.exec) (hb : c.code = cc) (h0 : 0 < Z.2.2 ∧ gh 0 = 0) (hK : va_K D cl tys s) (hZ : zDj Z) (h : zi_bast Z wr pc sg len = some su) (hd : decode cc pc = .ok (.bastore, len)) (k : ∀ x ∈ su, zWP (zG Z D cl tys A ad gh wr H0 ws0 nu0 nL) (fun H locs pc ls st => W p l e R s m args below meth c H locs ce sl Q (F0 m pc ls st)) x.1 x.2) : zWP (zG Z D cl tys A ad gh wr H0 ws0 nu0 nL) (fun H locs pc ls st => W p l e R s m args below meth c H locs ce sl Q (F0 m pc ls st)) pc sg := by
  obtain ⟨env, cd, L, st, fa, me⟩ := sg
  match st, h with
  | (t3, n3, k3, m3, l3) :: (t2, n2, k2, m2, l2) :: (t1, n1, k1, m1, l1) :: r, hh =>
    simp only [zi_bast] at hh
    split at hh
    · rename_i hc
      obtain ⟨h1, h2, h3, h4⟩ := hc
      subst h1
      subst h2
      subst h3
      subst h4
      split at hh
      · rename_i t0 n fts ht
        split at hh
        · rename_i hbd
          cases hh
          exact zs_bast hx hb h0 hK hZ hd ht hbd.1 hbd.2.1 hbd.2.2 (k _ List.mem_cons_self)
        · cases hh
      · cases hh
    · cases hh
theorem zk_last (hx : p.tables.exec = Jvm.exec) (hb : c.code = cc) (h0 : 0 < Z.2.2 ∧ gh 0 = 0) (hK : va_K D cl tys s) (hZ : zDj Z) (h : zi_last Z wr pc sg len = some su) (hd : decode cc pc = .ok (.lastore, len)) (k : ∀ x ∈ su, zWP (zG Z D cl tys A ad gh wr H0 ws0 nu0 nL) (fun H locs pc ls st => W p l e R s m args below meth c H locs ce sl Q (F0 m pc ls st)) x.1 x.2) : zWP (zG Z D cl tys A ad gh wr H0 ws0 nu0 nL) (fun H locs pc ls st => W p l e R s m args below meth c H locs ce sl Q (F0 m pc ls st)) pc sg := by
  obtain ⟨env, cd, L, st, fa, me⟩ := sg
  match st, h with
  | (t3, n3, k3, m3, l3) :: (t2, n2, k2, m2, l2) :: (t1, n1, k1, m1, l1) :: r, hh =>
    simp only [zi_last] at hh
    split at hh
    · rename_i hc
      obtain ⟨h1, h2, h3, h4⟩ := hc
      subst h1
      subst h2
      subst h3
      subst h4
      split at hh
      · rename_i t0 n fts ht
        split at hh
        · rename_i hbd
          cases hh
          exact zs_last hx hb h0 hK hZ hd ht hbd.1 hbd.2 (k _ List.mem_cons_self)
        · cases hh
      · cases hh
    · cases hh
end ZK
end
section
/-! READING AHEAD, CALLS, RETURNS: the checker is right -/
section ZP
variable {p : Program} {l : Launch} {e : Env} {R : Room} {s : State} {m : MethodId} {args : Array Value} {below : List Frame} {meth : Method} {c : Code} {Q : State → Prop} {cc : ByteArray} {pc ce sl : Nat}
variable {Z : zZ} {D : va_G} {cl : List vw_C} {tys : List (ClassId × FieldType)} {A : Nat → Prop} {ad : Nat → Nat} {gh : Nat → Int} {wr : zWr} {H0 : Heap} {ws0 : va_W} {nu0 : List Int} {nL : Nat}
variable {env : List zIv} {cd : List zCd} {L st : List zAV} {fa : List zFa} {me : List zMe}
theorem ztouch_ok (h0 : 0 < Z.2.2 ∧ gh 0 = 0) {nu : List Int} {ls : Array Slot} {stc : List Value} {ws : va_W} {H : Heap} {locs : List Loc} {a : Nat × Int} {j : Nat} (h : zG Z D cl tys A ad gh wr H0 ws0 nu0 nL (env, cd, L, st, fa, me) nu ls stc ws H locs) : ∃ t, zG Z D cl tys A ad gh wr H0 ws0 nu0 nL ((ztouch Z env cd fa a j).1, cd, L, st, (ztouch Z env cd fa a j).2, me) (nu ++ t) ls stc ws H locs := by
  have same : ∃ t, zG Z D cl tys A ad gh wr H0 ws0 nu0 nL (env, cd, L, st, fa, me) (nu ++ t) ls stc ws H locs := ⟨[], by rw [List.append_nil]; exact h⟩
  obtain ⟨hH, hN, hL, hS, hF, hM⟩ := h
  unfold ztouch
  split
  · exact same
  · split
    · rename_i ci x fts ht
      split
      · rename_i ft hj
        split
        · exact same
        · rename_i h9
          have hn9 : (zrdT Z env cd a ft).1 ≠ 9 := fun q => h9 (Or.inl q)
          have hl : a.1 < nu.length := by
            have e : nu.length = env.length := hN.1.1
            rw [e]
            exact Nat.not_le.mp fun q => h9 (Or.inr q)
          have hu : nu[a.1]? = some nu[a.1] := List.getElem?_eq_getElem hl
          have hz0 : zV nu a.1 a.2 (nu[a.1] + a.2) := ⟨_, hu, rfl⟩
          have bd := hz0.bd hN.1
          have hpos : 0 ≤ nu[a.1] + a.2 := by
            have h3 := zty_lo ht
            have bd1 := bd.1
            simp only at bd1
            omega
          obtain ⟨q, hq⟩ := Int.eq_ofNat_of_zero_le hpos
          have hz : zV nu a.1 a.2 q := by rw [← hq]; exact hz0
          obtain ⟨e0, he0, g1, g2, g3⟩ := zty_ok ht hN.1 hz
          have hc := hH.2.2.2.1 e0 he0 q g1 g2
          rw [g3] at hc
          obtain ⟨fs, c1, c2, c3⟩ := hc
          have hl2 : j < fs.length := by rw [c2]; exact (List.getElem?_eq_some_iff.mp hj).1
          have hv : fs[j]? = some fs[j] := List.getElem?_eq_getElem hl2
          have hfv : zfv ws q j = some fs[j] := by unfold zfv; rw [c1]; exact hv
          obtain ⟨z, r1, r2⟩ := zrdT_ok h0 hN hz (c3 j ft _ hj hv) hn9
          generalize zrdT Z env cd a ft = tr at r1 r2
          obtain ⟨tag, r⟩ := tr
          cases r with
          | inl b =>
            refine ⟨[], ?_⟩
            rw [List.append_nil]
            refine ⟨hH, hN, hL, hS, fun f hf => ?_, hM⟩
            rcases List.mem_cons.mp hf with rfl | hf
            · exact ⟨q, fs[j], hz, hfv, r2.zm r1⟩
            · exact hF f hf
          | inr iv =>
            have hn := zV.new hN.1 z
            refine ⟨[z], hH, hN.push r1, hL.app, hS.mono fun a v h => h.app, fun f hf => ?_, hM.app⟩
            rcases List.mem_cons.mp hf with rfl | hf
            · exact ⟨q, fs[j], hz.app, hfv, r2.zm hn⟩
            · exact hF.app f hf
      · exact same
    · exact same
theorem zpref_ok (h0 : 0 < Z.2.2 ∧ gh 0 = 0) {L' st' : List zAV} {ls : Array Slot} {stc : List Value} {ws : va_W} {H : Heap} {locs : List Loc} : ∀ (srs : List zSrc) (env : List zIv) (fa : List zFa) (acc : List (Nat × Int)) (nu : List Int), zG Z D cl tys A ad gh wr H0 ws0 nu0 nL (env, cd, L, st, fa, me) nu ls stc ws H locs → ∃ t, zG Z D cl tys A ad gh wr H0 ws0 nu0 nL ((zpref Z cd L' st' me env fa acc srs).1, cd, L, st, (zpref Z cd L' st' me env fa acc srs).2, me) (nu ++ t) ls stc ws H locs
  | [], env, fa, acc, nu, h => ⟨[], by rw [List.append_nil]; unfold zpref; exact h⟩
  | sr :: r, env, fa, acc, nu, h => by
    have same : ∃ t, zG Z D cl tys A ad gh wr H0 ws0 nu0 nL (env, cd, L, st, fa, me) (nu ++ t) ls stc ws H locs := ⟨[], by rw [List.append_nil]; exact h⟩
    unfold zpref
    by_cases h2 : sr.1 = 2
    · rw [if_pos h2]
      cases ha : acc[sr.2.1]? with
      | none => exact same
      | some a =>
        simp only
        cases hb : zsrc ((ztouch Z env cd fa (a.1, a.2 + sr.2.2.1) sr.2.2.2).1, cd, L', st', (ztouch Z env cd fa (a.1, a.2 + sr.2.2.1) sr.2.2.2).2, me) acc sr with
        | none => exact same
        | some b =>
          obtain ⟨t1, h1⟩ := ztouch_ok h0 (a := (a.1, a.2 + sr.2.2.1)) (j := sr.2.2.2) h
          obtain ⟨t2, h3⟩ := zpref_ok (L' := L') (st' := st') h0 r _ _ (acc ++ [b]) _ h1
          exact ⟨t1 ++ t2, by rw [← List.append_assoc]; exact h3⟩
    · rw [if_neg h2]
      cases hb : zsrc (env, cd, L', st', fa, me) acc sr with
      | none => exact same
      | some b => exact zpref_ok (L' := L') (st' := st') h0 r env fa (acc ++ [b]) nu h
theorem zwp_pref (h0 : 0 < Z.2.2 ∧ gh 0 = 0) {L' st' : List zAV} {srs : List zSrc} {acc : List (Nat × Int)} (k : zWP (zG Z D cl tys A ad gh wr H0 ws0 nu0 nL) (fun H locs pc ls st => W p l e R s m args below meth c H locs ce sl Q (F0 m pc ls st)) pc ((zpref Z cd L' st' me env fa acc srs).1, cd, L, st, (zpref Z cd L' st' me env fa acc srs).2, me)) : zWP (zG Z D cl tys A ad gh wr H0 ws0 nu0 nL) (fun H locs pc ls st => W p l e R s m args below meth c H locs ce sl Q (F0 m pc ls st)) pc (env, cd, L, st, fa, me) := by
  intro nu ls stc ws H locs hG
  obtain ⟨t, h⟩ := zpref_ok (L' := L') (st' := st') h0 srs env fa acc nu hG
  exact k _ ls stc ws H locs h
theorem zany_ok {f : zC → Option (List zS)} {x : List zS} : ∀ {CS : List zC}, zany f CS = some x → ∃ C ∈ CS, f C = some x
  | C :: r, h => by
    unfold zany at h
    split at h
    · rename_i y hy
      cases h
      exact ⟨C, List.mem_cons_self, hy⟩
    · obtain ⟨C', h1, h2⟩ := zany_ok h
      exact ⟨C', List.mem_cons_of_mem _ h1, h2⟩
/-- what the tables say of a class's calls -/
def zMLok (Ts : List Cond) (cl : List vw_C) (MT : zMT) (own : String) (s : State) (q : Nat × Nat × Nat × Nat × Nat) : Prop :=
  (q.2.1 = 0 → ∀ C : zC, C.1 = q.2.2.1 → zLkV Ts own q.1 (zKof MT C) q.2.2.2.1 ∧ ∃ (T : u_T) (N : Nat), cl[q.2.2.2.2]? = some ((MT C.1).1.cls, T, N)) ∧
  (q.2.1 = 1 → ∀ C : zC, C.1 = q.2.2.1 → zLkS Ts (zKof MT C) q.2.2.2.1 ∧ Cond.methodLink own q.1 (MT C.1).1 ∈ Ts) ∧
  (q.2.1 = 2 → ∀ C : zC, C.1 = q.2.2.1 → zLkS Ts (zKof MT C) q.2.2.2.1 ∧ ∃ host, va_Nw (Cond.methodLinkNest own q.1 (MT C.1).1 host) s) ∧
  (q.2.1 = 4 → Cond.methodLink own q.1 arraycopyName ∈ Ts ∧ Cond.native arraycopyName ∈ Ts ∧ Cond.static arraycopyName ∈ Ts ∧ Cond.initialized "java/lang/System" ∈ Ts)
theorem zok8_ok {st : List zAV} (h : zok8 st = true) : (st.map zcat).sum ≤ 8 ∧ ∀ a ∈ st, a.1 ≠ 0 := by
  unfold zok8 at h
  rw [Bool.and_eq_true, decide_eq_true_eq] at h
  refine ⟨h.1, fun a ha => ?_⟩
  have := List.all_eq_true.mp h.2 a ha
  simpa using this
/-- copying a stretch -/
theorem zs_copy (hx : p.tables.exec = Jvm.exec) (hb : c.code = cc) (h0 : 0 < Z.2.2 ∧ gh 0 = 0) {Ts : List Cond} {own : String} (hml : c.maxLocals = nL) (hown : s.vm.findClass own = some m.cls) (hts : ∀ w ∈ Ts, w.before args s = true) (hK : va_K D cl tys s) (hZ : zDj Z) {idx nn n2 nd m2 nt d2 ns s2 nr r2 : Nat} {kn l2 kd p2 kt e2 ks t2 kr u2 : Int} (hd : decode cc pc = .ok (.invokestatic idx, 3))
    (hlk : Cond.methodLink own idx arraycopyName ∈ Ts ∧ Cond.native arraycopyName ∈ Ts ∧ Cond.static arraycopyName ∈ Ts ∧ Cond.initialized "java/lang/System" ∈ Ts) (h8 : zok8 st = true) (hrm : 1 ≤ R.frames ∧ 1000 ≤ R.locals) (hB : zcopB Z env (nn, kn) (nd, kd) (nt, kt) (ns, ks) (nr, kr) = true) (hcv : zcovA wr env (nt, kt) = true)
    (kk : zWP (zG Z D cl tys A ad gh wr H0 ws0 nu0 nL) (fun H locs pc ls st => W p l e R s m args below meth c H locs ce sl Q (F0 m pc ls st)) (pc + 3) (env, cd, L, st, zfkA env fa (nt, kt), me)) : zWP (zG Z D cl tys A ad gh wr H0 ws0 nu0 nL) (fun H locs pc ls st => W p l e R s m args below meth c H locs ce sl Q (F0 m pc ls st)) pc (env, cd, L, (1, nn, kn, n2, l2) :: (1, nd, kd, m2, p2) :: (3, nt, kt, d2, e2) :: (1, ns, ks, s2, t2) :: (3, nr, kr, r2, u2) :: st, fa, me) := by
  intro nu ls stc ws H locs hG
  obtain ⟨hH, hN, hL, hS, hF, hM⟩ := hG
  match stc, hS with
  | v5 :: v4 :: v3 :: v2 :: v1 :: stc, ⟨⟨x, hx', hzx⟩, ⟨y, hy', hzy⟩, ⟨q, hq', hzq⟩, ⟨w, hw', hzw⟩, ⟨u, hu', hzu⟩, hS⟩ =>
    subst hx'
    subst hy'
    subst hq'
    subst hw'
    subst hu'
    obtain ⟨e8, e9⟩ := zok8_ok h8
    have bx := hzx.bd hN.1
    have by' := hzy.bd hN.1
    have bw := hzw.bd hN.1
    unfold zcopB at hB
    rw [Bool.and_eq_true, Bool.and_eq_true, Bool.and_eq_true, decide_eq_true_eq, decide_eq_true_eq, decide_eq_true_eq] at hB
    obtain ⟨b1, b2, b3, hB⟩ := hB
    have nx : ¬ x < 0 := by rw [Int32.lt_iff_toInt_lt, Int32.toInt_zero]; simp only at bx b1; omega
    have ny : ¬ y < 0 := by rw [Int32.lt_iff_toInt_lt, Int32.toInt_zero]; simp only at by' b2; omega
    have nw : ¬ w < 0 := by rw [Int32.lt_iff_toInt_lt, Int32.toInt_zero]; simp only at bw b3; omega
    have cx : (x.toNatClampNeg : Int) = x.toInt := by have e : x.toNatClampNeg = x.toInt.toNat := rfl; simp only at bx b1; omega
    have cy : (y.toNatClampNeg : Int) = y.toInt := by have e : y.toNatClampNeg = y.toInt.toNat := rfl; simp only at by' b2; omega
    have cw : (w.toNatClampNeg : Int) = w.toInt := by have e : w.toNatClampNeg = w.toInt.toNat := rfl; simp only at bw b3; omega
    have hloc : (stc.map fun v => v.category).sum + (nativeFrameWords "java/lang/System" "arraycopy" 5 + 11) ≤ R.locals := by
      rw [hS.cats e9]
      have h9 : nativeFrameWords "java/lang/System" "arraycopy" 5 + 11 ≤ 900 := by decide
      omega
    split at hB
    · rename_i t0 n0 f0 t1 n1 f1 ht0 ht1
      rw [Bool.and_eq_true, Bool.and_eq_true, Bool.and_eq_true, decide_eq_true_eq, decide_eq_true_eq, decide_eq_true_eq] at hB
      obtain ⟨g0, g00, g1, g2⟩ := hB
      obtain ⟨e0, he0, a1, a2, a3⟩ := zty_ok ht0 hN.1 hzu
      obtain ⟨e1, he1, c1, c2, c3⟩ := zty_ok ht1 hN.1 hzq
      have hc0 := hH.2.2.2.1 e0 he0 u a1 a2
      have hc1 := hH.2.2.2.1 e1 he1 q c1 c2
      rw [a3] at hc0
      rw [c3] at hc1
      obtain ⟨cA, f, s1, s2', s3⟩ := hc0
      obtain ⟨cB, g, s4, s5, s6⟩ := hc1
      refine va_copyi hx hb (hml.trans hL.1.symm) hown (hts _ hlk.1) (hts _ hlk.2.1) (hts _ hlk.2.2.1) (hts _ hlk.2.2.2) hK hH.1 hH.2.1 hH.2.2.1 u q t0 t1 s1 s4 s2' s5 rfl nw ny nx (by simp only at bx bw g1; omega) (by simp only at bx by' g2; omega) (fun i hi => rfl) hrm.1 hloc hd (fun H1 locs1 p1 p2 p3 => ?_)
      have hcell : zcell ad gh Z.2.1 tys (ws.set q (ad q, .inl (cB, n1, .inl (va_cpy f g w.toNatClampNeg y.toNatClampNeg x.toNatClampNeg)))) q e1.2.2 := by
        rw [c3]
        refine ⟨cB, _, zget_set s4, s5, fun j' ft' hj' hf' => ?_⟩
        show zft ad gh Z.2.1 q ft' (.int (va_cpy f g w.toNatClampNeg y.toNatClampNeg x.toNatClampNeg j'))
        unfold va_cpy
        split
        · rename_i hin
          have h3 := s3 (w.toNatClampNeg + (j' - y.toNatClampNeg)) ft' (by simp only at bx bw g1; omega) (by rw [g0]; exact hf')
          have h00 := List.all_eq_true.mp g00 ft' (by rw [g0]; exact List.mem_of_getElem? hf')
          obtain ⟨tg, lo, hi⟩ := ft'
          have e0 : tg = 0 := by simpa using h00
          subst e0
          exact h3
        · exact s6 j' ft' hj' hf'
      refine kk nu ls stc _ H1 locs1 ⟨⟨p1, p2, p3, zW.upd hZ hH.2.2.2.1 he1 c1 c2 (fun q' hq => List.getElem?_set_ne (Ne.symm hq)) hcell (by rw [c3]; simp), fun q' j' hn => ?_⟩, hN, hL, hS, zF.putA (a := (nt, kt)) hF hN.1 hzq (fun q' hq => List.getElem?_set_ne (Ne.symm hq)), hM⟩
      rw [← hH.2.2.2.2 q' j' hn]
      by_cases hqq : q' = q
      · subst hqq
        obtain ⟨w9, hw9, hc9⟩ := zcovA_ok hcv hN.1 hzq j'
        exact absurd hc9 (hn w9 hw9)
      · exact zfv_ne (List.getElem?_set_ne (Ne.symm hqq)) j'
    · rename_i t0 n0 f0 t1 n1 f1 ht0 ht1
      rw [Bool.and_eq_true, decide_eq_true_eq, decide_eq_true_eq] at hB
      obtain ⟨g1, g2⟩ := hB
      obtain ⟨e0, he0, a1, a2, a3⟩ := zty_ok ht0 hN.1 hzu
      obtain ⟨e1, he1, c1, c2, c3⟩ := zty_ok ht1 hN.1 hzq
      have hc0 := hH.2.2.2.1 e0 he0 u a1 a2
      have hc1 := hH.2.2.2.1 e1 he1 q c1 c2
      rw [a3] at hc0
      rw [c3] at hc1
      obtain ⟨cA, f, s1, s2'⟩ := hc0
      obtain ⟨cB, g, s4, s5⟩ := hc1
      refine va_copyl hx hb (hml.trans hL.1.symm) hown (hts _ hlk.1) (hts _ hlk.2.1) (hts _ hlk.2.2.1) (hts _ hlk.2.2.2) hK hH.1 hH.2.1 hH.2.2.1 u q t0 t1 s1 s4 s2' s5 rfl nw ny nx (by simp only at bx bw g1; omega) (by simp only at bx by' g2; omega) (fun i hi => rfl) hrm.1 hloc hd (fun H1 locs1 p1 p2 p3 => ?_)
      have hcell : zcell ad gh Z.2.1 tys (ws.set q (ad q, .inl (cB, n1, .inr (.inl (va_cpy f g w.toNatClampNeg y.toNatClampNeg x.toNatClampNeg))))) q e1.2.2 := by
        rw [c3]
        exact ⟨cB, _, zget_set s4, s5⟩
      refine kk nu ls stc _ H1 locs1 ⟨⟨p1, p2, p3, zW.upd hZ hH.2.2.2.1 he1 c1 c2 (fun q' hq => List.getElem?_set_ne (Ne.symm hq)) hcell (by rw [c3]; simp), fun q' j' hn => ?_⟩, hN, hL, hS, zF.putA (a := (nt, kt)) hF hN.1 hzq (fun q' hq => List.getElem?_set_ne (Ne.symm hq)), hM⟩
      rw [← hH.2.2.2.2 q' j' hn]
      by_cases hqq : q' = q
      · subst hqq
        obtain ⟨w9, hw9, hc9⟩ := zcovA_ok hcv hN.1 hzq j'
        exact absurd hc9 (hn w9 hw9)
      · exact zfv_ne (List.getElem?_set_ne (Ne.symm hqq)) j'
    · cases hB
theorem zk_call (hx : p.tables.exec = Jvm.exec) (hb : c.code = cc) (h0 : 0 < Z.2.2 ∧ gh 0 = 0) (hcs : ce ≤ R.cells ∧ sl ≤ R.slots) {Ts : List Cond} {RO : zRO} {own : String} (hml : c.maxLocals = nL) (hH0 : H0 = s.heap) (hown : s.vm.findClass own = some m.cls) (hts : ∀ w ∈ Ts, w.before args s = true) (hTg : ∀ w ∈ Ts, goodWord w = true) (hK : va_K D cl tys s) (hR : zROk RO) (hro : RO ad A s s.heap) (hZ : zDj Z)
    {P : zPool} {MT : zMT} {CS : List zC} {rm : Nat × Nat} {virt : Bool} {sg : zS} {su : List (Nat × zS)} {idx len : Nat} (hCS : ∀ C ∈ CS, zMet l Ts cl Z RO (zKof MT C)) (hML : ∀ q ∈ P.2.2.2.1, zMLok Ts cl MT own s q) (hrm : rm.1 ≤ R.frames ∧ rm.2 ≤ R.locals)
    (hSI : virt = true → len = 3 → ∀ q ∈ P.2.2.2.1, q.2.1 = 3 → q.1 = idx → ∀ (H : Heap) (locs : List Loc) (ls : Array Slot) (rest : List Value) (x : Int32), va_S A H0 H locs → ls.size = nL → (rest.map fun v => v.category).sum ≤ 8 → (∀ (r : Int32) (locs1 : List Loc), -1 ≤ r.toInt → r.toInt ≤ 7 → va_S A H0 H locs1 → W p l e R s m args below meth c H locs1 ce sl Q (F0 m (pc + 3) ls (.int r :: rest))) → W p l e R s m args below meth c H locs ce sl Q (F0 m pc ls (.int x :: .ref (ad 2000) :: rest)))
    (h : zi_call Z P MT CS wr rm virt pc sg idx len = some su) (hdv : virt = true → decode cc pc = .ok (.invokevirtual idx, len)) (hds : virt = false → decode cc pc = .ok (.invokestatic idx, len)) (k : ∀ x ∈ su, zWP (zG Z D cl tys A ad gh wr H0 ws0 nu0 nL) (fun H locs pc ls st => W p l e R s m args below meth c H locs ce sl Q (F0 m pc ls st)) x.1 x.2) : zWP (zG Z D cl tys A ad gh wr H0 ws0 nu0 nL) (fun H locs pc ls st => W p l e R s m args below meth c H locs ce sl Q (F0 m pc ls st)) pc sg := by
  obtain ⟨env, cd, L, st, fa, me⟩ := sg
  unfold zi_call at h
  split at h
  · rename_i q hq
    have hqm := List.mem_of_find?_eq_some hq
    have hqi : q.1 = idx := by have := List.find?_some hq; simpa using this
    have hML := hML q hqm
    split at h
    · rename_i hc
      obtain ⟨c1, c2, c3⟩ := hc
      subst c1
      split at h
      · rename_i a r hdr
        obtain ⟨t1, n1, k1, m1, l1⟩ := a
        split at h
        · rename_i hd
          obtain ⟨d1, d2, d3, d4⟩ := hd
          have d1 : t1 = 3 := d1
          subst d1
          obtain ⟨e1, e2⟩ := zok8_ok d4
          · obtain ⟨ps, hps, rfl⟩ := Option.map_eq_some_iff.mp h
            · obtain ⟨C, hC, hf⟩ := zany_ok hps
              split at hf
              · rename_i hmid
                unfold zone at hf
                split at hf
                · rename_i hz
                  obtain ⟨z1, z2, z3, z4, z5⟩ := hz
                  split at hf
                  · rename_i ins hin
                    split at hf
                    · rename_i hmb
                      obtain ⟨hck, hmb⟩ := hmb
                      cases hf
                      have hck : zrcv Z _ _ _ = true := hck
                      unfold zrcv at hck
                      split at hck
                      rotate_left
                      · cases hck
                      rename_i ci x fts ht
                      have hci : ci = q.2.2.2.2 := by simpa using hck
                      obtain ⟨lk, T, N, hcl⟩ := hML.1 c3 C hmid
                      rw [hqi] at lk
                      have hst : st = (st.take q.2.2.2.1).reverse.reverse ++ (3, n1, k1, m1, l1) :: r := by
                        rw [List.reverse_reverse, ← hdr]
                        exact (List.take_append_drop _ _).symm
                      have hln : (st.take q.2.2.2.1).reverse.length = q.2.2.2.1 := by rw [List.length_reverse]; exact d2
                      rw [← hln] at lk
                      have ha : ∀ a ∈ (st.take q.2.2.2.1).reverse, a.1 ≠ 0 := fun a ha => by
                        have := List.all_eq_true.mp d3 a (List.mem_reverse.mp ha)
                        simpa using this
                      refine zwp_pref (L' := zlayP ((3, n1, k1, m1, l1) :: (st.take q.2.2.2.1).reverse) (MT C.1).2.2.1) (st' := []) (srs := C.2.2.1.1) (acc := zpre Z.2.2) h0 ?_
                      have key := zs_callV (K := zKof MT C) (T := T) (N := N) (ci := ci) (x := x) (fts := fts) (st := r) (n := n1) (k := k1) (n2 := m1) (k2 := l1) (avs := (st.take q.2.2.2.1).reverse) (ins := ins) (cd := cd) (L := L) (me := me) (pc := pc) (wr := wr) (ws0 := ws0) (nu0 := nu0) (below := below) (e := e) (meth := meth) (Q := Q) hx hb h0 hcs hml hH0 hown hts hTg hK hR hro (hCS C hC) (hdv c2) lk ht (by rw [hci]; exact hcl) ha z1 hin hmb ⟨Nat.le_trans z2 hrm.1, Nat.le_trans z3 hrm.2⟩ e1 e2 (fun t htm => List.all_eq_true.mp z5 t htm) z4 (fun t htm hal => k _ (List.mem_map.mpr ⟨_, List.mem_map.mpr ⟨t, List.mem_filter.mpr ⟨htm, hal⟩, rfl⟩, rfl⟩))
                      rw [← hst] at key
                      exact key
                    · cases hf
                  · cases hf
                · cases hf
              · cases hf
        · cases h
      · cases h
    · split at h
      · rename_i hc
        obtain ⟨c1, c2, c3⟩ := hc
        subst c1
        split at h
        · rename_i hd
          obtain ⟨d2, d3, d4⟩ := hd
          obtain ⟨e1, e2⟩ := zok8_ok d4
          obtain ⟨ps, hps, rfl⟩ := Option.map_eq_some_iff.mp h
          obtain ⟨C, hC, hf⟩ := zany_ok hps
          split at hf
          · rename_i hmid
            unfold zone at hf
            split at hf
            · rename_i hz
              obtain ⟨z1, z2, z3, z4, z5⟩ := hz
              split at hf
              · rename_i ins hin
                split at hf
                · rename_i hmb
                  obtain ⟨-, hmb⟩ := hmb
                  cases hf
                  have hlk : zLkS Ts (zKof MT C) q.2.2.2.1 ∧ ((Cond.methodLink own idx (MT C.1).1) ∈ Ts ∨ ∃ host, va_Nw (Cond.methodLinkNest own idx (MT C.1).1 host) s) := by
                    rcases c3 with c3 | c3
                    · have := hML.2.1 c3 C hmid
                      rw [hqi] at this
                      exact ⟨this.1, Or.inl this.2⟩
                    · have := hML.2.2.1 c3 C hmid
                      rw [hqi] at this
                      exact ⟨this.1, Or.inr this.2⟩
                  obtain ⟨lk, ln⟩ := hlk
                  have hst : st = (st.take q.2.2.2.1).reverse.reverse ++ st.drop q.2.2.2.1 := by
                    rw [List.reverse_reverse]
                    exact (List.take_append_drop _ _).symm
                  have hln : (st.take q.2.2.2.1).reverse.length = q.2.2.2.1 := by rw [List.length_reverse]; exact d2
                  rw [← hln] at lk
                  have ha : ∀ a ∈ (st.take q.2.2.2.1).reverse, a.1 ≠ 0 := fun a ha => by
                    have := List.all_eq_true.mp d3 a (List.mem_reverse.mp ha)
                    simpa using this
                  refine zwp_pref (L' := zlayP (st.take q.2.2.2.1).reverse (MT C.1).2.2.1) (st' := []) (srs := C.2.2.1.1) (acc := zpre Z.2.2) h0 ?_
                  have key := zs_callS (K := zKof MT C) (st := st.drop q.2.2.2.1) (avs := (st.take q.2.2.2.1).reverse) (ins := ins) (cd := cd) (L := L) (me := me) (pc := pc) (wr := wr) (ws0 := ws0) (nu0 := nu0) (below := below) (e := e) (meth := meth) (Q := Q) hx hb h0 hcs hml hH0 hown hts hTg hK hR hro (hCS C hC) (hds c2) lk ln ha z1 hin hmb ⟨Nat.le_trans z2 hrm.1, Nat.le_trans z3 hrm.2⟩ e1 e2 (fun t htm => List.all_eq_true.mp z5 t htm) z4 (fun t htm hal => k _ (List.mem_map.mpr ⟨_, List.mem_map.mpr ⟨t, List.mem_filter.mpr ⟨htm, hal⟩, rfl⟩, rfl⟩))
                  rw [← hst] at key
                  exact key
                · cases hf
              · cases hf
            · cases hf
          · cases hf
        · cases h
      · split at h
        · rename_i hc
          obtain ⟨c1, c2, c3⟩ := hc
          split at h
          · rename_i i a r hst
            obtain ⟨t2, n2, k2, m2, l2⟩ := i
            have hst : st = (t2, n2, k2, m2, l2) :: a :: r := hst
            subst hst
            split at h
            · rename_i hd
              obtain ⟨d1, d2, d3⟩ := hd
              have d1 : t2 = 1 := d1
              subst d1
              subst d2
              cases h
              obtain ⟨e1, e2⟩ := zok8_ok d3
              intro nu ls stc ws H locs hG
              obtain ⟨hH, hN, hL, hS, hF, hM⟩ := hG
              match stc, hS with
              | v2 :: v1 :: stc, ⟨⟨x, hx', g2⟩, ⟨y, hy, g1⟩, hS⟩ =>
                subst hx'
                subst hy
                have ey : y = 2000 := by
                  have := g1.eq (hN.cst h0 2000)
                  omega
                subst ey
                refine hSI c2 c1 q hqm c3 hqi H locs ls stc x hH.2.2.1 hL.1 (by rw [hS.cats e2]; exact e1) (fun rr locs1 r1 r2 hS1 => ?_)
                obtain ⟨nu', hG'⟩ := zG.pushI (sg := (env, cd, L, r, fa, me)) (stc' := stc) (x := rr) (r := .inr [(-1, 7)]) (locs := locs1) ⟨⟨hH.1, hH.2.1, hS1, hH.2.2.2⟩, hN, hL, hS, hF, hM⟩ hS ⟨_, List.mem_cons_self, r1, r2⟩
                exact k _ List.mem_cons_self nu' ls _ ws H locs1 hG'
            · cases h
          · cases h
        · split at h
          · rename_i hc
            obtain ⟨c1, c2, c3⟩ := hc
            subst c1
            split at h
            · rename_i x y d w u r hst
              obtain ⟨x0, x1, x2, x3, x4⟩ := x
              obtain ⟨y0, y1, y2, y3, y4⟩ := y
              obtain ⟨d0, d1, d2, d3, d4⟩ := d
              obtain ⟨w0, w1, w2, w3, w4⟩ := w
              obtain ⟨u0, u1, u2, u3, u4⟩ := u
              have hst : st = (x0, x1, x2, x3, x4) :: (y0, y1, y2, y3, y4) :: (d0, d1, d2, d3, d4) :: (w0, w1, w2, w3, w4) :: (u0, u1, u2, u3, u4) :: r := hst
              subst hst
              split at h
              · rename_i hd
                obtain ⟨f1, f2, f3, f4, f5, f6, f7, f8, f9, f10⟩ := hd
                have f1 : x0 = 1 := f1
                have f2 : y0 = 1 := f2
                have f3 : d0 = 3 := f3
                have f4 : w0 = 1 := f4
                have f5 : u0 = 3 := f5
                subst f1
                subst f2
                subst f3
                subst f4
                subst f5
                cases h
                have lk := hML.2.2.2 c3
                rw [hqi] at lk
                exact zs_copy hx hb h0 hml hown hts hK hZ (hds c2) lk f6 ⟨Nat.le_trans f7 hrm.1, Nat.le_trans f8 hrm.2⟩ f9 f10 (k _ List.mem_cons_self)
              · cases h
            · cases h
          · cases h
  · cases h
end ZP
end
section
/-! ONE STEP OF THE CHECKER, ALL INSTRUCTIONS -/
/-- what a method's walk rests on -/
def zCtx (p : Program) (l : Launch) (e : Env) (R : Room) (s : State) (m : MethodId) (args : Array Value) (below : List Frame) (meth : Method) (c : Code) (cc : ByteArray) (own : String) (nL : Nat) (Ts : List Cond) (RO : zRO) (cl : List vw_C) (Z : zZ) (RS : List (List Int)) (P : zPool) (MT : zMT) (CS : List zC) (Co : zCo) (D : va_G) (tys : List (ClassId × FieldType)) (A : Nat → Prop) (ad : Nat → Nat) (gh : Nat → Int) (ws0 : va_W) (nuE : List Int) (H0 : Heap) (ce sl : Nat) (Q : State → Prop) : Prop :=
  (p.tables.exec = Jvm.exec ∧ c.code = cc ∧ (0 < Z.2.2 ∧ gh 0 = 0) ∧ c.maxLocals = nL ∧ H0 = s.heap ∧ s.vm.findClass own = some m.cls) ∧
  ((∀ w ∈ Ts, w.before args s = true) ∧ (∀ w ∈ Ts, goodWord w = true) ∧ va_K D cl tys s ∧ zROk RO ∧ RO ad A s s.heap ∧ zDj Z ∧ meth.locks = false) ∧
  (Co.1 = nuE.length ∧ (Co.2.2.2.1.1 ≤ R.frames ∧ Co.2.2.2.1.2 ≤ R.locals)) ∧
  ((∀ f ∈ P.1, zFld cl s args own f.1 f.2.1 f.2.2.1) ∧ (∀ f ∈ P.1, f.2.2.2 ≤ 2 → zFldP cl s args own f.1 f.2.1 f.2.2.1 f.2.2.2) ∧ (∀ q ∈ P.2.1, -2147483648 ≤ q.2 ∧ q.2 ≤ 2147483647 ∧ (Jvm.Cond.constant own q.1 (Int32.ofInt q.2)).before args s = true) ∧ (∀ q ∈ P.2.2.1, -9223372036854775808 ≤ q.2 ∧ q.2 ≤ 9223372036854775807 ∧ (Jvm.Cond.constantLong own q.1 (Int64.ofInt q.2)).before args s = true) ∧ (∀ q ∈ P.2.2.2.1, zMLok Ts cl MT own s q)) ∧
  (∀ q ∈ P.2.2.2.2.1, ∀ (pc : Nat) (H : Heap) (locs : List Loc) (ls : Array Slot) (rest : List Value), decode cc pc = .ok (.getstatic q.1, 3) → va_S A H0 H locs → W p l e R s m args below meth c H locs ce sl Q (F0 m (pc + 3) ls (.ref (ad q.2) :: rest)) → W p l e R s m args below meth c H locs ce sl Q (F0 m pc ls rest)) ∧
  (∀ q ∈ P.2.2.2.2.2, ∀ (pc : Nat) (H : Heap) (locs : List Loc) (ls : Array Slot) (rest : List Value), decode cc pc = .ok (.ldc q.1, 2) → va_S A H0 H locs → W p l e R s m args below meth c H locs ce sl Q (F0 m (pc + 2) ls (.ref (ad q.2) :: rest)) → W p l e R s m args below meth c H locs ce sl Q (F0 m pc ls rest)) ∧
  (∀ q ∈ P.2.2.2.1, q.2.1 = 3 → ∀ (pc : Nat) (H : Heap) (locs : List Loc) (ls : Array Slot) (rest : List Value) (x : Int32), decode cc pc = .ok (.invokevirtual q.1, 3) → va_S A H0 H locs → ls.size = nL → (rest.map fun v => v.category).sum ≤ 8 → (∀ (r : Int32) (locs1 : List Loc), -1 ≤ r.toInt → r.toInt ≤ 7 → va_S A H0 H locs1 → W p l e R s m args below meth c H locs1 ce sl Q (F0 m (pc + 3) ls (.int r :: rest))) → W p l e R s m args below meth c H locs ce sl Q (F0 m pc ls (.int x :: .ref (ad 2000) :: rest))) ∧
  (∀ (i : Nat) (tb : List Int), RS[i]? = some tb → ∀ (pc : Nat) (H : Heap) (locs : List Loc) (ls : Array Slot) (rest : List Value) (x : Int32), decode cc pc = .ok (.iaload, 1) → va_S A H0 H locs → vp_in x tb.length → W p l e R s m args below meth c H locs ce sl Q (F0 m (pc + 1) ls (.int (Int32.ofInt (tb.getD x.toNatClampNeg 0)) :: rest)) → W p l e R s m args below meth c H locs ce sl Q (F0 m pc ls (.int x :: .ref (ad (1000 + i)) :: rest))) ∧
  (∀ C ∈ CS, zMet l Ts cl Z RO (zKof MT C)) ∧ (ce ≤ R.cells ∧ sl ≤ R.slots) ∧
  (∀ (nu0 : List Int) (rc pc len : Nat) (sg : zS) (su : List (Nat × zS)), (∃ u, nu0 = nuE ++ u) → zi_ret Z Co sg rc len = some su → (rc = 0 → decode cc pc = .ok (.return_, len)) → (rc = 1 → decode cc pc = .ok (.ireturn, len)) → (rc = 2 → decode cc pc = .ok (.lreturn, len)) → zWP (zG Z D cl tys A ad gh Co.2.2.1 H0 ws0 nu0 nL) (fun H locs pc ls st => W p l e R s m args below meth c H locs ce sl Q (F0 m pc ls st)) pc sg)
section ZST
variable {p : Program} {l : Launch} {e : Env} {R : Room} {s : State} {m : MethodId} {args : Array Value} {below : List Frame} {meth : Method} {c : Code} {cc : ByteArray} {own : String} {nL : Nat} {Ts : List Cond} {RO : zRO} {cl : List vw_C} {Z : zZ} {RS : List (List Int)} {P : zPool} {MT : zMT} {CS : List zC} {Co : zCo} {D : va_G} {tys : List (ClassId × FieldType)} {A : Nat → Prop} {ad : Nat → Nat} {gh : Nat → Int} {ws0 : va_W} {nuE : List Int} {H0 : Heap} {nu0 : List Int} {pc ce sl : Nat} {Q : State → Prop} {sg : zS} {su : List (Nat × zS)} {len : Nat}
theorem zex1_ok {P0 : Nat} {sv : List zAV} {alts : List zTm} (h : alts.any (zex1 Z P0 sg sv) = true) : ∃ (t : zTm) (ins : List (Nat × Int)), t ∈ alts ∧ zinst ((zpref Z sg.2.1 [] sv sg.2.2.2.2.2 sg.1 sg.2.2.2.2.1 (zpre P0) t.1).1, sg.2.1, [], sv, (zpref Z sg.2.1 [] sv sg.2.2.2.2.2 sg.1 sg.2.2.2.2.1 (zpre P0) t.1).2, sg.2.2.2.2.2) (zpre P0) t.1 = some ins ∧ zmB ((zpref Z sg.2.1 [] sv sg.2.2.2.2.2 sg.1 sg.2.2.2.2.1 (zpre P0) t.1).1, sg.2.1, [], sv, (zpref Z sg.2.1 [] sv sg.2.2.2.2.2 sg.1 sg.2.2.2.2.1 (zpre P0) t.1).2, sg.2.2.2.2.2) ins t.2 = true := by
  obtain ⟨t, ht, h2⟩ := List.any_eq_true.mp h
  unfold zex1 at h2
  rw [Bool.and_eq_true, Bool.and_eq_true] at h2
  have h2 := h2.2.2
  split at h2
  · rename_i ins hin
    exact ⟨t, ins, ht, hin, h2⟩
  · cases h2
theorem zk_ret {rc : Nat} (hx : p.tables.exec = Jvm.exec) (hb : c.code = cc) (h0 : 0 < Z.2.2 ∧ gh 0 = 0) (hH0 : H0 = s.heap) (hlocks : meth.locks = false) (hP0 : Co.1 = nuE.length) (hr0 : Co.2.2.2.2 = 0 → meth.sig.returnType = none) (hr1 : Co.2.2.2.2 = 1 → meth.sig.returnType = some .int) (hr2 : Co.2.2.2.2 = 2 → meth.sig.returnType = some .boolean) (hr3 : Co.2.2.2.2 = 3 → meth.sig.returnType = some .long) (hE : ∃ u, nu0 = nuE ++ u) (h : zi_ret Z Co sg rc len = some su) (hd0 : rc = 0 → decode cc pc = .ok (.return_, len)) (hd1 : rc = 1 → decode cc pc = .ok (.ireturn, len)) (hd2 : rc = 2 → decode cc pc = .ok (.lreturn, len)) : zWP (zG Z D cl tys A ad gh Co.2.2.1 H0 ws0 nu0 nL) (fun H locs pc ls st => W p l e R s m args below meth c H locs 0 0 (MQ below (zQc Z D cl tys A ad gh Co.2.1 Co.2.2.1 ws0 nuE) args s 0 0 A) (F0 m pc ls st)) pc sg := by
  obtain ⟨env, cd, L, st, fa, me⟩ := sg
  unfold zi_ret at h
  split at h
  · rename_i e2
    have e2 : st = [] := e2
    subst e2
    split at h
    · rename_i hc
      obtain ⟨c1, c2, c3⟩ := hc
      subst c1
      obtain ⟨t, ins, ht, hin, hm⟩ := zex1_ok c3
      rw [hP0] at hin hm
      refine zwp_pref (L' := []) (st' := []) (srs := t.1) (acc := zpre nuE.length) h0 ?_
      exact zs_vret hx hb h0 hlocks hH0 hE (hr0 c2) ht hin hm (hd0 rfl)
    · cases h
  · rename_i a e2
    obtain ⟨t1, n1, k1, m1, l1⟩ := a
    have e2 : st = [(t1, n1, k1, m1, l1)] := e2
    subst e2
    split at h
    · rename_i hc
      obtain ⟨c1, c2, c3, c4⟩ := hc
      have c2 : t1 = 1 := c2
      subst c1
      subst c2
      obtain ⟨t, ins, ht, hin, hm⟩ := zex1_ok c4
      rw [hP0] at hin hm
      rcases c3 with c3 | ⟨c3, c5⟩
      · refine zwp_pref (L' := []) (st' := [(1, n1, k1, m1, l1)]) (srs := t.1) (acc := zpre nuE.length) h0 ?_
        exact zs_iret hx hb h0 hlocks hH0 hE (hr1 c3) rfl ht hin hm (hd1 rfl)
      · intro nu ls stc ws H locs hG
        obtain ⟨t0, h2⟩ := zpref_ok (L' := []) (st' := [(1, n1, k1, m1, l1)]) h0 t.1 env fa (zpre nuE.length) nu hG
        obtain ⟨hH, hN, hL, hS, hF, hM⟩ := id h2
        have hv1 := hG.2.2.2.1
        match stc, hS, hv1 with
        | [v], ⟨hv, _⟩, ⟨hv1, _⟩ =>
          have hf := zfit_bool hv1 hG.2.1.1 c5
          obtain ⟨x, hv', hz⟩ := hv
          subst hv'
          exact W.zret hx hb (hr2 c3) hf.1 (fun t' ht' _ => zret_ok (sv := [(1, n1, k1, m1, l1)]) (vo := some (.int x)) h0 hH0 hE h2 ⟨⟨x, rfl, hz⟩, trivial⟩ ht hin hm ht') hH.2.2.1.2.2 (hd1 rfl) hlocks
    · cases h
  · rename_i a e2
    obtain ⟨t1, n1, k1, m1, l1⟩ := a
    have e2 : st = [(t1, n1, k1, m1, l1)] := e2
    subst e2
    split at h
    · rename_i hc
      obtain ⟨c1, c2, c3, c4⟩ := hc
      have c2 : t1 = 2 := c2
      subst c1
      subst c2
      obtain ⟨t, ins, ht, hin, hm⟩ := zex1_ok c4
      rw [hP0] at hin hm
      refine zwp_pref (L' := []) (st' := [(2, n1, k1, m1, l1)]) (srs := t.1) (acc := zpre nuE.length) h0 ?_
      exact zs_lret hx hb h0 hlocks hH0 hE (hr3 c3) ht hin hm (hd2 rfl)
    · cases h
  · cases h
theorem zlt0 {x : Int32} : x < 0 ↔ x.toInt < 0 := by rw [Int32.lt_iff_toInt_lt]; rfl
theorem zle0 {x : Int32} : x ≤ 0 ↔ x.toInt ≤ 0 := by rw [Int32.le_iff_toInt_le]; rfl
theorem zgt0 {x : Int32} : 0 < x ↔ 0 < x.toInt := by rw [Int32.lt_iff_toInt_lt]; rfl
theorem zge0 {x : Int32} : 0 ≤ x ↔ 0 ≤ x.toInt := by rw [Int32.le_iff_toInt_le]; rfl
theorem zeq0 {x : Int32} : x = 0 ↔ x.toInt = 0 := by rw [← Int32.toInt_inj]; rfl
set_option maxHeartbeats 4000000 in
theorem zstep_ok {ins : Instr} (X : zCtx p l e R s m args below meth c cc own nL Ts RO cl Z RS P MT CS Co D tys A ad gh ws0 nuE H0 ce sl Q) (hE : ∃ u, nu0 = nuE ++ u) (h : zstep Z RS P MT CS Co pc sg ins len = some su) (hd : decode cc pc = .ok (ins, len)) (k : ∀ x ∈ su, zWP (zG Z D cl tys A ad gh Co.2.2.1 H0 ws0 nu0 nL) (fun H locs pc ls st => W p l e R s m args below meth c H locs ce sl Q (F0 m pc ls st)) x.1 x.2) : zWP (zG Z D cl tys A ad gh Co.2.2.1 H0 ws0 nu0 nL) (fun H locs pc ls st => W p l e R s m args below meth c H locs ce sl Q (F0 m pc ls st)) pc sg := by
  obtain ⟨⟨hx, hb, h0, hml, hH0, hown⟩, ⟨hts, hTg, hK, hR, hro, hZ, hlocks⟩, ⟨hP0, hrm⟩, ⟨hFl, hFp, hI, hJ, hML⟩, hGS, hSL, hSI, hRS, hCS, hcs, hret⟩ := id X
  cases ins with
  | iconst n => exact zk_cI h0 (lo := -2147483648) (hi := 2147483647) (by decide) (by decide) h (fun a b => zofI a b) (fun e H locs ls rest => by subst e; exact lv_iconst hx hb hd rfl) k
  | bipush n => 
    refine zk_cI h0 (lo := -128) (hi := 127) (v := (Int8.ofInt n).toInt32) (by decide) (by decide) h (fun a b => ?_) (fun e H locs ls rest => by subst e; exact lv_bipush hx hb hd rfl) k
    have a : (-128 : Int) ≤ n := a
    have b : n ≤ 127 := b
    rw [Int8.toInt_toInt32, Int8.toInt_ofInt, show Int8.size = 256 from rfl, Int.bmod_eq_of_le (by omega) (by omega)]
  | sipush n => 
    refine zk_cI h0 (lo := -32768) (hi := 32767) (v := (Int16.ofInt n).toInt32) (by decide) (by decide) h (fun a b => ?_) (fun e H locs ls rest => by subst e; exact lv_sipush hx hb hd rfl) k
    have a : (-32768 : Int) ≤ n := a
    have b : n ≤ 32767 := b
    rw [Int16.toInt_toInt32, Int16.toInt_ofInt, show Int16.size = 65536 from rfl, Int.bmod_eq_of_le (by omega) (by omega)]
  | lconst n => 
    refine zk_cL h0 (v := Int64.ofNat (n : Nat)) h (fun a b => ?_) (fun e H locs ls rest => by subst e; exact lv_lconst hx hb hd rfl) k
    rw [Int64.toInt_ofNat_of_lt (by omega)]
  | ldc i => 
    have h : (match P.2.2.2.2.2.find? (fun f => f.1 == i) with
      | some _ => zi_cell P.2.2.2.2.2 pc sg i len 2
      | none => zi_ldc P.2.1 1 pc sg i len 2) = some su := h
    split at h
    · exact zk_cell h0 h (fun e q hq hi H locs ls rest hS => by subst e; subst hi; exact hSL q hq pc H locs ls rest hd hS) k
    · exact zk_ldcI h0 h (fun e q hq hi => by subst e; subst hi; exact ⟨_, zofI (hI q hq).1 (hI q hq).2.1, fun H locs ls rest => lv_ldc hx hb hown (hI q hq).2.2 hd⟩) k
  | ldc_w i => exact zk_ldcI h0 h (fun e q hq hi => by subst e; subst hi; exact ⟨_, zofI (hI q hq).1 (hI q hq).2.1, fun H locs ls rest => lv_ldcw hx hb hown (hI q hq).2.2 hd⟩) k
  | ldc2_w i => exact zk_ldcL h0 h (fun e q hq hi => by subst e; subst hi; exact ⟨_, zofL (hJ q hq).1 (hJ q hq).2.1, fun H locs ls rest => lv_ldc2 hx hb hown (hJ q hq).2.2 hd⟩) k
  | iload_n q => exact zk_ldI h (fun e H locs ls rest x hl => by subst e; exact lv_iload_n hx hb hd rfl hl) k
  | iload q => exact zk_ldI h (fun e H locs ls rest x hl => by subst e; exact lv_iload hx hb hd hl) k
  | istore_n q => exact zk_stI h (fun e H locs ls rest x hl hn kk => by subst e; exact lv_istore_n hx hb hd rfl hl hn rfl kk) k
  | istore q => exact zk_stI h (fun e H locs ls rest x hl hn kk => by subst e; exact lv_istore hx hb hd hl hn rfl kk) k
  | lload_n q => exact zk_ldL h (fun e H locs ls rest x hl => by subst e; exact lv_lload_n hx hb hd rfl hl) k
  | lload q => exact zk_ldL h (fun e H locs ls rest x hl => by subst e; exact lv_lload hx hb hd hl) k
  | lstore_n q => exact zk_stL h (fun e H locs ls rest x hl hn kk => by subst e; exact lv_lstore_n hx hb hd rfl hl hn rfl kk) k
  | lstore q => exact zk_stL h (fun e H locs ls rest x hl hn kk => by subst e; exact lv_lstore hx hb hd hl hn rfl kk) k
  | aload_n q => exact zk_ldA h (fun e H locs ls rest x hl => by subst e; exact lv_aload_n hx hb hd rfl hl) k
  | aload q => exact zk_ldA h (fun e H locs ls rest x hl => by subst e; exact lv_aload hx hb hd hl) k
  | astore_n q => exact zk_stA h (fun e H locs ls rest x hl hn kk => by subst e; exact lv_astore_n hx hb hd rfl hl hn rfl kk) k
  | astore q => exact zk_stA h (fun e H locs ls rest x hl hn kk => by subst e; exact lv_astore hx hb hd hl hn rfl kk) k
  | iinc i d => exact zk_iinc hx hb h0 h hd k
  | iadd => exact zk_bin (g := fun x y => x + y) h (fun e H locs ls rest x y kk => by subst e; exact lv_iadd hx hb hd kk) (fun env cd a b nu x y hN hx hy => zaddI_ok hN.1 hx hy) k
  | isub => exact zk_bin (g := fun x y => x - y) h (fun e H locs ls rest x y kk => by subst e; exact lv_isub hx hb hd kk) (fun env cd a b nu x y hN hx hy => zsub_ok (hN.z0 h0) hN.1 hx hy) k
  | imul => exact zk_bin (g := fun x y => x * y) h (fun e H locs ls rest x y kk => by subst e; exact lv_imul hx hb hd kk) (fun env cd a b nu x y hN hx hy => zmul_ok (hN.z0 h0) hN.1 hx hy) k
  | iand => exact zk_bin (g := fun x y => x &&& y) h (fun e H locs ls rest x y kk => by subst e; exact lv_iand hx hb hd kk) (fun env cd a b nu x y hN hx hy => zand_ok hN.1 hx hy) k
  | ior => exact zk_bin (f := fun _ _ _ => .inr zFull) (g := fun x y => x ||| y) h (fun e H locs ls rest x y kk => by subst e; exact lv_ior hx hb hd kk) (fun env cd a b nu x y hN hx hy => zFull_in _) k
  | ixor => exact zk_bin (f := fun _ _ _ => .inr zFull) (g := fun x y => x ^^^ y) h (fun e H locs ls rest x y kk => by subst e; exact lv_ixor hx hb hd kk) (fun env cd a b nu x y hN hx hy => zFull_in _) k
  | ishl => exact zk_bin (g := fun x y => x <<< (y &&& 31)) h (fun e H locs ls rest x y kk => by subst e; exact lv_ishl hx hb hd kk) (fun env cd a b nu x y hN hx hy => zshl_ok hN.1 hx hy) k
  | ishr => exact zk_bin (f := fun _ _ _ => .inr zFull) (g := fun x y => x >>> (y &&& 31)) h (fun e H locs ls rest x y kk => by subst e; exact lv_ishr hx hb hd kk) (fun env cd a b nu x y hN hx hy => zFull_in _) k
  | iushr => exact zk_bin (f := fun env _ b => zushr env b) (g := fun x y => (x.toUInt32 >>> (y.toUInt32 &&& Int32.toUInt32 31)).toInt32) h (fun e H locs ls rest x y kk => by subst e; exact lv_iushr hx hb hd rfl kk) (fun env cd a b nu x y hN hx hy => zushr_ok hN.1 hy) k
  | idiv => exact zk_div hx hb h hd k
  | irem => exact zk_rem hx hb h hd k
  | ineg => exact zk_una (g := fun x => -x) h (fun e H locs ls rest x kk => by subst e; exact lv_ineg hx hb hd kk) (fun x => zFull_in _) k
  | i2b => exact zk_una (g := fun x => x.toInt8.toInt32) h (fun e H locs ls rest x kk => by subst e; exact lv_i2b hx hb hd rfl kk) zb_rng k
  | i2s => exact zk_una (g := fun x => x.toInt16.toInt32) h (fun e H locs ls rest x kk => by subst e; exact lv_i2s hx hb hd rfl kk) zs_rng k
  | i2c => exact zk_una (g := fun x => (x.toUInt32 % 65536).toInt32) h (fun e H locs ls rest x kk => by subst e; exact lv_i2c hx hb hd rfl kk) zc_rng k
  | i2l => exact zk_i2l hx hb h hd k
  | l2i => exact zk_l2i hx hb h hd k
  | lcmp => exact zk_lcmp hx hb h hd k
  | ladd => exact zk_binL (g := fun x y => x + y) h (fun e H locs ls rest x y kk => by subst e; exact lv_ladd hx hb hd kk) (fun env cd a b nu x y hN hx hy => zaddL_ok hN.1 hx hy) k
  | land => exact zk_binL (f := fun _ _ _ => .inr zFullL) (g := fun x y => x &&& y) h (fun e H locs ls rest x y kk => by subst e; exact lv_land hx hb hd kk) (fun env cd a b nu x y hN hx hy => zFullL_in _) k
  | lor => exact zk_binL (f := fun _ _ _ => .inr zFullL) (g := fun x y => x ||| y) h (fun e H locs ls rest x y kk => by subst e; exact lv_lor hx hb hd kk) (fun env cd a b nu x y hN hx hy => zFullL_in _) k
  | lshl => exact zk_shL (g := fun x y => x <<< (y.toInt64 &&& 63)) h (fun e H locs ls rest x y kk => by subst e; exact lv_lshl hx hb hd rfl kk) k
  | lshr => exact zk_shL (g := fun x y => x >>> (y.toInt64 &&& 63)) h (fun e H locs ls rest x y kk => by subst e; exact lv_lshr hx hb hd rfl kk) k
  | lushr => exact zk_shL (g := fun x y => (x.toUInt64 >>> (y.toInt64.toUInt64 &&& Int64.toUInt64 63)).toInt64) h (fun e H locs ls rest x y kk => by subst e; exact lv_lushr hx hb hd rfl kk) k
  | dup => exact zk_dup hx hb h hd k
  | pop => exact zk_pop hx hb h hd k
  | pop2 => exact zk_pop2 hx hb h hd k
  | goto off => exact zk_goto hx hb h hd k
  | tableswitch d lo hi offs => exact zk_tsw hx hb h0 h hd k
  | lookupswitch d ps => exact zk_lsw hx hb h0 h hd k
  | getfield i => exact zk_get hx hb h0 hown hK hFl h hd k
  | putfield i => exact zk_put hx hb h0 hown hK hZ hFp h hd k
  | getstatic i => exact zk_cell h0 h (fun e q hq hi H locs ls rest hS => by subst e; subst hi; exact hGS q hq pc H locs ls rest hd hS) k
  | iaload => exact zk_iald hx hb h0 hK (fun i tb hi H locs ls rest x hd1 hS hin => hRS i tb hi pc H locs ls rest x hd1 hS hin) h hd k
  | baload => exact zk_bald hx hb h0 hK h hd k
  | laload => exact zk_lald hx hb h0 hK h hd k
  | aaload => exact zk_aald hx hb h0 hK h hd k
  | iastore => exact zk_iast hx hb h0 hK hZ h hd k
  | bastore => exact zk_bast hx hb h0 hK hZ h hd k
  | lastore => exact zk_last hx hb h0 hK hZ h hd k
  | invokevirtual i => exact zk_call hx hb h0 hcs hml hH0 hown hts hTg hK hR hro hZ hCS hML hrm (fun _ e q hq h3 hi H locs ls rest x hS hsz hc kk => by subst e; subst hi; exact hSI q hq h3 pc H locs ls rest x hd hS hsz hc kk) h (fun _ => hd) (fun e => by cases e) k
  | invokestatic i => exact zk_call hx hb h0 hcs hml hH0 hown hts hTg hK hR hro hZ hCS hML hrm (fun e => by cases e) h (fun e => by cases e) (fun _ => hd) k
  | return_ => exact hret _ _ _ _ _ _ hE h (fun _ => hd) (fun e => by cases e) (fun e => by cases e)
  | ireturn => exact hret _ _ _ _ _ _ hE h (fun e => by cases e) (fun _ => hd) (fun e => by cases e)
  | lreturn => exact hret _ _ _ _ _ _ hE h (fun e => by cases e) (fun e => by cases e) (fun _ => hd)
  | if_icmp cnd off =>
    cases cnd with
    | eq => exact zk_icmp (Pr := fun x y => x = y) h (fun x y => ⟨fun q => Int32.toInt_inj.mpr q, fun q => fun z => q (Int32.toInt_inj.mp z)⟩) (fun e et H locs ls rest x y kt kf => by subst e; exact lv_icmp_eq hx hb hd et kt kf) k
    | ne => exact zk_icmp (Pr := fun x y => ¬ x = y) h (fun x y => ⟨fun q => fun z => q (Int32.toInt_inj.mp z), fun q => Int32.toInt_inj.mpr (Classical.not_not.mp q)⟩) (fun e et H locs ls rest x y kt kf => by subst e; exact lv_icmp_ne hx hb hd et kt (fun z => kf (fun w => w z))) k
    | lt => exact zk_icmp (Pr := fun x y => x < y) h (fun x y => ⟨fun q => Int32.lt_iff_toInt_lt.mp q, fun q => by have := mt Int32.lt_iff_toInt_lt.mpr q; show y.toInt ≤ x.toInt; omega⟩) (fun e et H locs ls rest x y kt kf => by subst e; exact lv_icmp_lt hx hb hd et kt kf) k
    | ge => exact zk_icmp (Pr := fun x y => y ≤ x) h (fun x y => ⟨fun q => Int32.le_iff_toInt_le.mp q, fun q => by have := mt Int32.le_iff_toInt_le.mpr q; show x.toInt < y.toInt; omega⟩) (fun e et H locs ls rest x y kt kf => by subst e; exact lv_icmp_ge hx hb hd et kt kf) k
    | gt => exact zk_icmp (Pr := fun x y => y < x) h (fun x y => ⟨fun q => Int32.lt_iff_toInt_lt.mp q, fun q => by have := mt Int32.lt_iff_toInt_lt.mpr q; show x.toInt ≤ y.toInt; omega⟩) (fun e et H locs ls rest x y kt kf => by subst e; exact lv_icmp_gt hx hb hd et kt kf) k
    | le => exact zk_icmp (Pr := fun x y => x ≤ y) h (fun x y => ⟨fun q => Int32.le_iff_toInt_le.mp q, fun q => by have := mt Int32.le_iff_toInt_le.mpr q; show y.toInt < x.toInt; omega⟩) (fun e et H locs ls rest x y kt kf => by subst e; exact lv_icmp_le hx hb hd et kt kf) k
  | ifCond cnd off =>
    cases cnd with
    | eq => exact zk_if (Pr := fun x => x = 0) h0 h (fun x => ⟨fun q => zeq0.mp q, fun q => fun z => q (zeq0.mpr z)⟩) (fun x y => ⟨fun q => Int64.toInt_inj.mpr ((lg_cmp_eq x y).mp q), fun q => fun z => q ((lg_cmp_eq x y).mpr (Int64.toInt_inj.mp z))⟩) (fun e et H locs ls rest x kt kf => by subst e; exact lv_if_eq hx hb hd et kt kf) k
    | ne => exact zk_if (Pr := fun x => ¬ x = 0) h0 h (fun x => ⟨fun q => fun z => q (zeq0.mpr z), fun q => zeq0.mp (Classical.not_not.mp q)⟩) (fun x y => ⟨fun q => fun z => q ((lg_cmp_eq x y).mpr (Int64.toInt_inj.mp z)), fun q => Int64.toInt_inj.mpr ((lg_cmp_eq x y).mp (Classical.not_not.mp q))⟩) (fun e et H locs ls rest x kt kf => by subst e; exact lv_if_ne hx hb hd et kt (fun z => kf (fun w => w z))) k
    | lt => exact zk_if (Pr := fun x => x < 0) h0 h (fun x => ⟨fun q => zlt0.mp q, fun q => by have := mt zlt0.mpr q; show 0 ≤ x.toInt; omega⟩) (fun x y => ⟨fun q => Int64.lt_iff_toInt_lt.mp ((lg_cmp_lt x y).mp q), fun q => by have := mt Int64.lt_iff_toInt_lt.mpr (mt (lg_cmp_lt x y).mpr q); show y.toInt ≤ x.toInt; omega⟩) (fun e et H locs ls rest x kt kf => by subst e; exact lv_if_lt hx hb hd et kt kf) k
    | ge => exact zk_if (Pr := fun x => 0 ≤ x) h0 h (fun x => ⟨fun q => zge0.mp q, fun q => by have := mt zge0.mpr q; show x.toInt < 0; omega⟩) (fun x y => ⟨fun q => Int64.le_iff_toInt_le.mp ((lg_cmp_ge x y).mp q), fun q => by have := mt Int64.le_iff_toInt_le.mpr (mt (lg_cmp_ge x y).mpr q); show x.toInt < y.toInt; omega⟩) (fun e et H locs ls rest x kt kf => by subst e; exact lv_if_ge hx hb hd et kt kf) k
    | gt => exact zk_if (Pr := fun x => 0 < x) h0 h (fun x => ⟨fun q => zgt0.mp q, fun q => by have := mt zgt0.mpr q; show x.toInt ≤ 0; omega⟩) (fun x y => ⟨fun q => Int64.lt_iff_toInt_lt.mp ((lg_cmp_gt x y).mp q), fun q => by have := mt Int64.lt_iff_toInt_lt.mpr (mt (lg_cmp_gt x y).mpr q); show x.toInt ≤ y.toInt; omega⟩) (fun e et H locs ls rest x kt kf => by subst e; exact lv_if_gt hx hb hd et kt kf) k
    | le => exact zk_if (Pr := fun x => x ≤ 0) h0 h (fun x => ⟨fun q => zle0.mp q, fun q => by have := mt zle0.mpr q; show 0 < x.toInt; omega⟩) (fun x y => ⟨fun q => Int64.le_iff_toInt_le.mp ((lg_cmp_le x y).mp q), fun q => by have := mt Int64.le_iff_toInt_le.mpr (mt (lg_cmp_le x y).mpr q); show y.toInt < x.toInt; omega⟩) (fun e et H locs ls rest x kt kf => by subst e; exact lv_if_le hx hb hd et kt kf) k
  | _ => exact absurd (show (none : Option (List (Nat × zS))) = some su from h) (by simp)
end ZST
end
section
/-! RUNS, LOOPS BY RANKS, A WHOLE METHOD -/
abbrev zRk : Type := List (Nat × Nat × Int)
abbrev zAnn : Type := List (Nat × zTm × zRk)
def zrkE (nu : List Int) (r : Nat × Nat × Int) : Int := match r with
  | (0, n, b) => b - (nu[n]?).getD 0
  | (1, n, b) => (nu[n]?).getD 0 - b
  | (_, _, b) => b
def zrkN (nu : List Int) (rk : zRk) (i : Nat) : Nat := (zrkE nu (rk.getD i (2, 0, 0))).toNat
def zrs (env : List zIv) (cd : List zCd) (ins : List (Nat × Int)) (o n : Nat × Nat × Int) : Bool := match o, n with
  | (0, no, bo), (0, nn, bn) => (match ins[nn]? with
    | some a => zle env cd (no, bn - bo + 1) a && zle env cd a (0, bn)
    | none => false)
  | (1, no, bo), (1, nn, bn) => (match ins[nn]? with
    | some a => zle env cd (a.1, a.2 - bn + bo + 1) (no, 0) && zle env cd (0, bn) a
    | none => false)
  | (2, _, bo), (2, _, bn) => decide (bn < bo) && decide (0 ≤ bn)
  | _, _ => false
def zre (env : List zIv) (cd : List zCd) (ins : List (Nat × Int)) (o n : Nat × Nat × Int) : Bool := match o, n with
  | (0, no, bo), (0, nn, bn) => (match ins[nn]? with
    | some a => zle env cd (no, bn - bo) a
    | none => false)
  | (1, no, bo), (1, nn, bn) => (match ins[nn]? with
    | some a => zle env cd (a.1, a.2 - bn + bo) (no, 0)
    | none => false)
  | (2, _, bo), (2, _, bn) => decide (bn ≤ bo)
  | _, _ => false
def zrkLt (env : List zIv) (cd : List zCd) (ins : List (Nat × Int)) (o n : zRk) : Bool :=
  zrs env cd ins (o.getD 0 (2, 0, 0)) (n.getD 0 (2, 0, 0)) || (zre env cd ins (o.getD 0 (2, 0, 0)) (n.getD 0 (2, 0, 0)) && (zrs env cd ins (o.getD 1 (2, 0, 0)) (n.getD 1 (2, 0, 0)) || (zre env cd ins (o.getD 1 (2, 0, 0)) (n.getD 1 (2, 0, 0)) && (zrs env cd ins (o.getD 2 (2, 0, 0)) (n.getD 2 (2, 0, 0)) || (zre env cd ins (o.getD 2 (2, 0, 0)) (n.getD 2 (2, 0, 0)) && zrs env cd ins (o.getD 3 (2, 0, 0)) (n.getD 3 (2, 0, 0)))))))
theorem zrs_ok {env : List zIv} {cd : List zCd} {ins : List (Nat × Int)} {nu nu' : List Int} {o n : Nat × Nat × Int} (h : zrs env cd ins o n = true) (h0 : nu[0]? = some 0) (he : zEnv env nu) (hc : zCds cd nu) (hi : zIn nu ins nu') (ho : o.2.1 < nu.length) : (zrkE nu' n).toNat < (zrkE nu o).toNat := by
  obtain ⟨t1, no, bo⟩ := o
  obtain ⟨t2, nn, bn⟩ := n
  have hv : nu[no]? = some nu[no] := List.getElem?_eq_getElem ho
  match t1, t2, h with
  | 0, 0, h =>
    simp only [zrs] at h
    split at h
    · rename_i a ha
      rw [Bool.and_eq_true] at h
      obtain ⟨z, g1, g2⟩ := hi.2 _ _ ha
      have l1 := zle_ok h.1 he hc (x := nu[no] + (bn - bo + 1)) ⟨_, hv, rfl⟩ g2
      have l2 := zle_ok h.2 he hc (y := 0 + bn) g2 ⟨0, h0, rfl⟩
      simp only [zrkE, g1, hv, Option.getD_some]
      omega
    · cases h
  | 1, 1, h =>
    simp only [zrs] at h
    split at h
    · rename_i a ha
      rw [Bool.and_eq_true] at h
      obtain ⟨z, g1, u, g2, g3⟩ := hi.2 _ _ ha
      have l1 := zle_ok h.1 he hc (x := u + (a.2 - bn + bo + 1)) (y := nu[no] + 0) ⟨_, g2, rfl⟩ ⟨_, hv, rfl⟩
      have l2 := zle_ok h.2 he hc (x := 0 + bn) (y := z) ⟨0, h0, rfl⟩ ⟨_, g2, g3⟩
      simp only [zrkE, g1, hv, Option.getD_some]
      omega
    · cases h
  | 2, 2, h =>
    simp only [zrs] at h
    rw [Bool.and_eq_true, decide_eq_true_eq, decide_eq_true_eq] at h
    simp only [zrkE]
    omega
theorem zre_ok {env : List zIv} {cd : List zCd} {ins : List (Nat × Int)} {nu nu' : List Int} {o n : Nat × Nat × Int} (h : zre env cd ins o n = true) (h0 : nu[0]? = some 0) (he : zEnv env nu) (hc : zCds cd nu) (hi : zIn nu ins nu') (ho : o.2.1 < nu.length) : (zrkE nu' n).toNat ≤ (zrkE nu o).toNat := by
  obtain ⟨t1, no, bo⟩ := o
  obtain ⟨t2, nn, bn⟩ := n
  have hv : nu[no]? = some nu[no] := List.getElem?_eq_getElem ho
  match t1, t2, h with
  | 0, 0, h =>
    simp only [zre] at h
    split at h
    · rename_i a ha
      obtain ⟨z, g1, g2⟩ := hi.2 _ _ ha
      have l1 := zle_ok h he hc (x := nu[no] + (bn - bo)) ⟨_, hv, rfl⟩ g2
      simp only [zrkE, g1, hv, Option.getD_some]
      omega
    · cases h
  | 1, 1, h =>
    simp only [zre] at h
    split at h
    · rename_i a ha
      obtain ⟨z, g1, u, g2, g3⟩ := hi.2 _ _ ha
      have l1 := zle_ok h he hc (x := u + (a.2 - bn + bo)) (y := nu[no] + 0) ⟨_, g2, rfl⟩ ⟨_, hv, rfl⟩
      simp only [zrkE, g1, hv, Option.getD_some]
      omega
    · cases h
  | 2, 2, h =>
    simp only [zre] at h
    rw [decide_eq_true_eq] at h
    simp only [zrkE]
    omega
/-- the order of ranks -/
def zLex (a b : Nat × Nat × Nat × Nat) : Prop := a.1 < b.1 ∨ (a.1 = b.1 ∧ (a.2.1 < b.2.1 ∨ (a.2.1 = b.2.1 ∧ (a.2.2.1 < b.2.2.1 ∨ (a.2.2.1 = b.2.2.1 ∧ a.2.2.2 < b.2.2.2)))))
theorem zLex_ind {C : Nat × Nat × Nat × Nat → Prop} (h : ∀ a, (∀ b, zLex b a → C b) → C a) : ∀ a, C a := by
  have key : ∀ x y z w : Nat, C (x, y, z, w) := by
    intro x
    induction x using Nat.strongRecOn with
    | ind x ihx =>
      intro y
      induction y using Nat.strongRecOn with
      | ind y ihy =>
        intro z
        induction z using Nat.strongRecOn with
        | ind z ihz =>
          intro w
          induction w using Nat.strongRecOn with
          | ind w ihw =>
            refine h _ (fun b hb => ?_)
            obtain ⟨b1, b2, b3, b4⟩ := b
            rcases hb with hb | ⟨e1, hb⟩
            · exact ihx b1 hb b2 b3 b4
            · have e1 : b1 = x := e1
              subst e1
              rcases hb with hb | ⟨e2, hb⟩
              · exact ihy b2 hb b3 b4
              · have e2 : b2 = y := e2
                subst e2
                rcases hb with hb | ⟨e3, hb⟩
                · exact ihz b3 hb b4
                · have e3 : b3 = z := e3
                  subst e3
                  exact ihw b4 hb
  intro a
  exact key a.1 a.2.1 a.2.2.1 a.2.2.2
def zrk3 (rk : zRk) (nu : List Int) : Nat × Nat × Nat × Nat := (zrkN nu rk 0, zrkN nu rk 1, zrkN nu rk 2, zrkN nu rk 3)
theorem zrkLt_ok {env : List zIv} {cd : List zCd} {ins : List (Nat × Int)} {nu nu' : List Int} {o n : zRk} (h : zrkLt env cd ins o n = true) (h0 : nu[0]? = some 0) (he : zEnv env nu) (hc : zCds cd nu) (hi : zIn nu ins nu') (ho : ∀ i, (o.getD i (2, 0, 0)).2.1 < nu.length) : zLex (zrk3 n nu') (zrk3 o nu) := by
  unfold zrkLt at h
  rcases Bool.or_eq_true_iff.mp h with h | h
  · exact Or.inl (zrs_ok h h0 he hc hi (ho 0))
  · rw [Bool.and_eq_true] at h
    have e0 := zre_ok h.1 h0 he hc hi (ho 0)
    rcases Nat.lt_or_eq_of_le e0 with e0 | e0
    · exact Or.inl e0
    · refine Or.inr ⟨e0, ?_⟩
      rcases Bool.or_eq_true_iff.mp h.2 with h | h
      · exact Or.inl (zrs_ok h h0 he hc hi (ho 1))
      · rw [Bool.and_eq_true] at h
        have e1 := zre_ok h.1 h0 he hc hi (ho 1)
        rcases Nat.lt_or_eq_of_le e1 with e1 | e1
        · exact Or.inl e1
        · refine Or.inr ⟨e1, ?_⟩
          rcases Bool.or_eq_true_iff.mp h.2 with h | h
          · exact Or.inl (zrs_ok h h0 he hc hi (ho 2))
          · rw [Bool.and_eq_true] at h
            have e2 := zre_ok h.1 h0 he hc hi (ho 2)
            rcases Nat.lt_or_eq_of_le e2 with e2 | e2
            · exact Or.inl e2
            · exact Or.inr ⟨e2, zrs_ok h.2 h0 he hc hi (ho 3)⟩
theorem zrk3_pre {rk : zRk} {nu0 t : List Int} (ho : ∀ i, (rk.getD i (2, 0, 0)).2.1 < nu0.length) : zrk3 rk (nu0 ++ t) = zrk3 rk nu0 := by
  have key : ∀ i, zrkE (nu0 ++ t) (rk.getD i (2, 0, 0)) = zrkE nu0 (rk.getD i (2, 0, 0)) := fun i => by
    have h := ho i
    generalize rk.getD i (2, 0, 0) = r at h
    obtain ⟨tg, n, b⟩ := r
    have h : n < nu0.length := h
    match tg with
    | 0 => simp only [zrkE]; rw [List.getElem?_append_left h]
    | 1 => simp only [zrkE]; rw [List.getElem?_append_left h]
    | k + 2 => rfl
  unfold zrk3 zrkN
  rw [key 0, key 1, key 2, key 3]
def zdeadB (env : List zIv) : Bool := env.any (fun iv => iv.isEmpty)
theorem zdeadB_ok {env : List zIv} {nu : List Int} (h : zdeadB env = true) (he : zEnv env nu) : False := by
  obtain ⟨iv, hm, h1⟩ := List.any_eq_true.mp h
  rw [List.isEmpty_iff] at h1
  subst h1
  obtain ⟨i, hi⟩ := List.getElem?_of_mem hm
  obtain ⟨a, -, p, hp, -⟩ := he.2 i _ hi
  cases hp
def zjmp (Z : zZ) (P0 : Nat) (ro : Option zRk) (rn : zRk) (T : zTm) (sg : zS) : Bool :=
  zsqL sg.1 T.2.2.2.1 sg.2.2.1 && (match zinst ((zpref Z sg.2.1 sg.2.2.1 sg.2.2.2.1 sg.2.2.2.2.2 sg.1 sg.2.2.2.2.1 (zpre P0) T.1).1, sg.2.1, sg.2.2.1, sg.2.2.2.1, (zpref Z sg.2.1 sg.2.2.1 sg.2.2.2.1 sg.2.2.2.2.2 sg.1 sg.2.2.2.2.1 (zpre P0) T.1).2, sg.2.2.2.2.2) (zpre P0) T.1 with
  | some ins => zmB ((zpref Z sg.2.1 sg.2.2.1 sg.2.2.2.1 sg.2.2.2.2.2 sg.1 sg.2.2.2.2.1 (zpre P0) T.1).1, sg.2.1, sg.2.2.1, sg.2.2.2.1, (zpref Z sg.2.1 sg.2.2.1 sg.2.2.2.1 sg.2.2.2.2.2 sg.1 sg.2.2.2.2.1 (zpre P0) T.1).2, sg.2.2.2.2.2) ins T.2 && (match ro with
    | none => true
    | some r => zrkLt (zpref Z sg.2.1 sg.2.2.1 sg.2.2.2.1 sg.2.2.2.2.2 sg.1 sg.2.2.2.2.1 (zpre P0) T.1).1 sg.2.1 ins r rn)
  | none => false)
/-- a local's few values, one by one -/
def zcases (env : List zIv) (n : Nat) (lo hi : Int) : List (List zIv) := (zE env n).flatMap (fun p => (if p.1 < lo then [env.set n [(p.1, if p.2 < lo then p.2 else lo - 1)]] else []) ++ ((zspl (if p.1 ≤ lo then lo else p.1) ((if p.2 ≤ hi then p.2 else hi) - (if p.1 ≤ lo then lo else p.1) + 1).toNat).map (fun v => env.set n [(v, v)]) ++ (if hi < p.2 then [env.set n [(if hi < p.1 then p.1 else hi + 1, p.2)]] else [])))
theorem zcases_ok {env : List zIv} {nu : List Int} {n : Nat} {lo hi : Int} (he : zEnv env nu) (hn : n < env.length) : ∃ e ∈ zcases env n lo hi, zEnv e nu := by
  have hl : n < nu.length := by rw [he.1]; exact hn
  have hv : nu[n]? = some nu[n] := List.getElem?_eq_getElem hl
  obtain ⟨p, hp, h1, h2⟩ := he.at hv
  have key : ∀ q : Int × Int, q.1 ≤ nu[n] → nu[n] ≤ q.2 → zEnv (env.set n [q]) nu := fun q q1 q2 => he.set (fun a ha => by
    rw [hv] at ha
    cases ha
    exact ⟨q, List.mem_cons_self, q1, q2⟩)
  by_cases hlo : nu[n] < lo
  · refine ⟨env.set n [(p.1, if p.2 < lo then p.2 else lo - 1)], List.mem_flatMap.mpr ⟨p, hp, List.mem_append.mpr (Or.inl ?_)⟩, key _ h1 ?_⟩
    · rw [if_pos (show p.1 < lo by omega)]
      exact List.mem_cons_self
    · show nu[n] ≤ (if p.2 < lo then p.2 else lo - 1)
      split <;> omega
  · by_cases hhi : hi < nu[n]
    · refine ⟨env.set n [(if hi < p.1 then p.1 else hi + 1, p.2)], List.mem_flatMap.mpr ⟨p, hp, List.mem_append.mpr (Or.inr (List.mem_append.mpr (Or.inr ?_)))⟩, key _ ?_ h2⟩
      · rw [if_pos (show hi < p.2 by omega)]
        exact List.mem_cons_self
      · show (if hi < p.1 then p.1 else hi + 1) ≤ nu[n]
        split <;> omega
    · refine ⟨env.set n [(nu[n], nu[n])], List.mem_flatMap.mpr ⟨p, hp, List.mem_append.mpr (Or.inr (List.mem_append.mpr (Or.inl (List.mem_map.mpr ⟨nu[n], ?_, rfl⟩))))⟩, key _ (Int.le_refl _) (Int.le_refl _)⟩
      unfold zspl
      generalize ha : (if p.1 ≤ lo then lo else p.1) = x
      generalize hb : (if p.2 ≤ hi then p.2 else hi) = y
      have hx : x ≤ nu[n] := by rw [← ha]; split <;> omega
      have hy : nu[n] ≤ y := by rw [← hb]; split <;> omega
      exact List.mem_map.mpr ⟨(nu[n] - x).toNat, List.mem_range.mpr (by omega), by omega⟩
def zrun (Z : zZ) (RS : List (List Int)) (P : zPool) (MT : zMT) (CS : List zC) (Co : zCo) (cc : ByteArray) (ann : zAnn) (sp : List (Nat × Nat × Int × Int)) (ro : Option zRk) : Nat → Nat → zS → Bool
  | 0, _, _ => false
  | f + 1, pc, sg => match (match sp.find? (fun q => q.1 == pc) with
      | some q => (match sg.2.2.1[q.2.1]? with
        | some a => if a.1 = 1 ∧ a.2.1 < sg.1.length ∧ zcst sg.1 (a.2.1, 0) = false ∧ (zE sg.1 a.2.1).any (fun p => decide (p.1 ≤ q.2.2.2) && decide (q.2.2.1 ≤ p.2)) = true then some (a.2.1, q.2.2) else none
        | none => none)
      | none => none) with
  | some n => (zcases sg.1 n.1 n.2.1 n.2.2).all (fun e => zrun Z RS P MT CS Co cc ann sp ro f pc (e, sg.2))
  | none => match decode cc pc with
    | .ok (ins, len) => (match zstep Z RS P MT CS Co pc sg ins len with
      | some su => su.all (fun x => zdeadB x.2.1 || (if ann.any (fun a => a.1 == x.1) = true then ann.any (fun a => a.1 == x.1 && zjmp Z Co.1 ro a.2.2 a.2.1 x.2)
        else zrun Z RS P MT CS Co cc ann sp ro f x.1 x.2))
      | none => false)
    | .error _ => false
section ZRU
variable {p : Program} {l : Launch} {e : Env} {R : Room} {s : State} {m : MethodId} {args : Array Value} {below : List Frame} {meth : Method} {c : Code} {cc : ByteArray} {own : String} {nL : Nat} {Ts : List Cond} {RO : zRO} {cl : List vw_C} {Z : zZ} {RS : List (List Int)} {P : zPool} {MT : zMT} {CS : List zC} {Co : zCo} {D : va_G} {tys : List (ClassId × FieldType)} {A : Nat → Prop} {ad : Nat → Nat} {gh : Nat → Int} {ws0 : va_W} {nuE : List Int} {H0 : Heap} {nu0 : List Int} {pc ce sl : Nat} {Q : State → Prop} {sg : zS} {su : List (Nat × zS)} {len : Nat}
/-- where the walk may stop: a loop's head of a smaller rank -/
def zTgt (p : Program) (l : Launch) (e : Env) (R : Room) (s : State) (m : MethodId) (args : Array Value) (below : List Frame) (meth : Method) (c : Code) (nL : Nat) (cl : List vw_C) (Z : zZ) (Co : zCo) (D : va_G) (tys : List (ClassId × FieldType)) (A : Nat → Prop) (ad : Nat → Nat) (gh : Nat → Int) (ws0 : va_W) (nuE : List Int) (H0 : Heap) (ce sl : Nat) (Q : State → Prop) (ann : zAnn) (ro : Option zRk) (nu0 : List Int) : Prop :=
  ∀ a ∈ ann, ∀ nu' : List Int, (∃ u, nu' = nuE ++ u) → (∀ r, ro = some r → zLex (zrk3 a.2.2 nu') (zrk3 r nu0)) → (∀ (ls : Array Slot) (st : List Value) (ws : va_W) (H : Heap) (locs : List Loc), zG Z D cl tys A ad gh Co.2.2.1 H0 ws0 nu' nL a.2.1.2 nu' ls st ws H locs → W p l e R s m args below meth c H locs ce sl Q (F0 m a.1 ls st))
theorem zjmp_ok {ro : Option zRk} {ann : zAnn} {a : Nat × zTm × zRk} (X : zCtx p l e R s m args below meth c cc own nL Ts RO cl Z RS P MT CS Co D tys A ad gh ws0 nuE H0 ce sl Q) (hGE : ∀ g, g < Z.2.2 → nuE[g]? = some (gh g)) (hE : ∃ u, nu0 = nuE ++ u) (hro2 : ∀ r, ro = some r → ∀ i, (r.getD i (2, 0, 0)).2.1 < nu0.length) (ha : a ∈ ann) (hT : zTgt p l e R s m args below meth c nL cl Z Co D tys A ad gh ws0 nuE H0 ce sl Q ann ro nu0) (h : zjmp Z Co.1 ro a.2.2 a.2.1 sg = true) : zWP (zG Z D cl tys A ad gh Co.2.2.1 H0 ws0 nu0 nL) (fun H locs pc ls st => W p l e R s m args below meth c H locs ce sl Q (F0 m pc ls st)) a.1 sg := by
  obtain ⟨⟨hx, hb, h0, hml, hH0, hown⟩, -, ⟨hP0, -⟩, -⟩ := X
  obtain ⟨env, cd, L, st, fa, me⟩ := sg
  unfold zjmp at h
  rw [hP0, Bool.and_eq_true] at h
  have h := h.2
  split at h
  · rename_i ins hin
    rw [Bool.and_eq_true] at h
    refine zwp_pref (L' := L) (st' := st) (srs := a.2.1.1) (acc := zpre nuE.length) h0 ?_
    intro nu ls stc ws H locs hG
    obtain ⟨hH, hN, hL, hS, hF, hM⟩ := hG
    obtain ⟨u, hu⟩ := hE
    obtain ⟨t0, ht0⟩ := hN.2.2.2
    have hle : nuE.length ≤ nu.length := by rw [ht0, hu, List.length_append, List.length_append]; omega
    obtain ⟨t1, h1⟩ := zinst_ok (sg := ((zpref Z cd L st me env fa (zpre nuE.length) a.2.1.1).1, cd, L, st, (zpref Z cd L st me env fa (zpre nuE.length) a.2.1.1).2, me)) (hN.z0 h0) hL hS hF _ _ _ _ (zpre_ok hle) hin
    obtain ⟨g1, g2, g3, g4, g5, g6⟩ := zmB_ok (sg := ((zpref Z cd L st me env fa (zpre nuE.length) a.2.1.1).1, cd, L, st, (zpref Z cd L st me env fa (zpre nuE.length) a.2.1.1).2, me)) h.1 (hN.z0 h0) hN.1 hN.2.1 hL hS hF h1
    have etk : nu.take nuE.length = nuE := by rw [ht0, hu, List.append_assoc, List.take_left']; rfl
    rw [etk] at h1 g1 g2 g3 g4 g5 g6
    refine hT a ha (nuE ++ t1) ⟨t1, rfl⟩ (fun r hr => ?_) ls stc ws H locs ⟨hH, ⟨g1, g2, fun g hg => ?_, [], by rw [List.append_nil]⟩, g3, g4, g5, g6⟩
    · subst hr
      have hlt := zrkLt_ok h.2 (hN.z0 h0) hN.1 hN.2.1 h1 (fun i => by
        have := hro2 r rfl i
        rw [ht0, List.length_append]
        omega)
      rw [ht0, zrk3_pre (hro2 r rfl)] at hlt
      exact hlt
    · have h3 := hGE g hg
      rw [List.getElem?_append_left (List.getElem?_eq_some_iff.mp h3).1]
      exact h3
  · cases h
theorem zrun_ok {ro : Option zRk} {ann : zAnn} {sp : List (Nat × Nat × Int × Int)} (X : zCtx p l e R s m args below meth c cc own nL Ts RO cl Z RS P MT CS Co D tys A ad gh ws0 nuE H0 ce sl Q) (hGE : ∀ g, g < Z.2.2 → nuE[g]? = some (gh g)) (hE : ∃ u, nu0 = nuE ++ u) (hro2 : ∀ r, ro = some r → ∀ i, (r.getD i (2, 0, 0)).2.1 < nu0.length) (hT : zTgt p l e R s m args below meth c nL cl Z Co D tys A ad gh ws0 nuE H0 ce sl Q ann ro nu0) :
    ∀ (f pc : Nat) (sg : zS), zrun Z RS P MT CS Co cc ann sp ro f pc sg = true → zWP (zG Z D cl tys A ad gh Co.2.2.1 H0 ws0 nu0 nL) (fun H locs pc ls st => W p l e R s m args below meth c H locs ce sl Q (F0 m pc ls st)) pc sg
  | 0, pc, sg, h => by cases h
  | f + 1, pc, sg, h => by
    unfold zrun at h
    split at h
    · rename_i n hn
      have hlt : n.1 < sg.1.length := by
        split at hn
        · split at hn
          · split at hn
            · rename_i hc
              cases hn
              exact hc.2.1
            · cases hn
          · cases hn
        · cases hn
      intro nu ls st ws H locs hG
      obtain ⟨e2, he2, hE2⟩ := zcases_ok hG.2.1.1 hlt
      exact zrun_ok X hGE hE hro2 hT f pc _ (List.all_eq_true.mp h e2 he2) nu ls st ws H locs ⟨hG.1, ⟨hE2, hG.2.1.2⟩, hG.2.2⟩
    rename_i hn
    split at h
    · rename_i ins len hd
      split at h
      · rename_i su hs
        refine zstep_ok X hE hs hd (fun x hx => ?_)
        have h1 := List.all_eq_true.mp h x hx
        rcases Bool.or_eq_true_iff.mp h1 with h1 | h1
        · intro nu ls st ws H locs hG
          exact (zdeadB_ok h1 hG.2.1.1).elim
        · split at h1
          · obtain ⟨a, ha, h2⟩ := List.any_eq_true.mp h1
            rw [Bool.and_eq_true, beq_iff_eq] at h2
            have := zjmp_ok X hGE hE hro2 ha hT h2.2
            rw [h2.1] at this
            exact this
          · exact zrun_ok X hGE hE hro2 hT f x.1 x.2 h1
      · cases h
    · cases h
/-- all loops of a method -/
theorem zloops {ann : zAnn} {sp : List (Nat × Nat × Int × Int)} {fuel : Nat} (X : zCtx p l e R s m args below meth c cc own nL Ts RO cl Z RS P MT CS Co D tys A ad gh ws0 nuE H0 ce sl Q) (hGE : ∀ g, g < Z.2.2 → nuE[g]? = some (gh g)) (hw : ∀ a ∈ ann, ∀ i, (a.2.2.getD i (2, 0, 0)).2.1 < a.2.1.2.1.length) (hr : ∀ a ∈ ann, zrun Z RS P MT CS Co cc ann sp (some a.2.2) fuel a.1 a.2.1.2 = true) :
    ∀ (r : Nat × Nat × Nat × Nat), ∀ a ∈ ann, ∀ nu' : List Int, (∃ u, nu' = nuE ++ u) → zrk3 a.2.2 nu' = r → (∀ (ls : Array Slot) (st : List Value) (ws : va_W) (H : Heap) (locs : List Loc), zG Z D cl tys A ad gh Co.2.2.1 H0 ws0 nu' nL a.2.1.2 nu' ls st ws H locs → W p l e R s m args below meth c H locs ce sl Q (F0 m a.1 ls st)) := by
  refine zLex_ind (fun r ih => ?_)
  intro a ha nu' hE hk ls st ws H locs hG
  have hlen : nu'.length = a.2.1.2.1.length := hG.2.1.1.1
  refine zrun_ok X hGE hE (ro := some a.2.2) (fun r2 hr2 i => by cases hr2; rw [hlen]; exact hw a ha i) (fun b hb nu2 hE2 hlx => ?_) fuel a.1 a.2.1.2 (hr a ha) nu' ls st ws H locs hG
  have := hlx a.2.2 rfl
  rw [hk] at this
  exact ih _ this b hb nu2 hE2 rfl
/-- heads that are walked by hand -/
def zHand (p : Program) (l : Launch) (e : Env) (R : Room) (s : State) (m : MethodId) (args : Array Value) (below : List Frame) (meth : Method) (c : Code) (nL : Nat) (cl : List vw_C) (Z : zZ) (Co : zCo) (D : va_G) (tys : List (ClassId × FieldType)) (A : Nat → Prop) (ad : Nat → Nat) (gh : Nat → Int) (ws0 : va_W) (nuE : List Int) (H0 : Heap) (ce sl : Nat) (Q : State → Prop) (ann : zAnn) (a : Nat × zTm × zRk) : Prop :=
  ∀ nu' : List Int, (∃ u, nu' = nuE ++ u) → zTgt p l e R s m args below meth c nL cl Z Co D tys A ad gh ws0 nuE H0 ce sl Q ann (some a.2.2) nu' → ∀ (ls : Array Slot) (st : List Value) (ws : va_W) (H : Heap) (locs : List Loc), zG Z D cl tys A ad gh Co.2.2.1 H0 ws0 nu' nL a.2.1.2 nu' ls st ws H locs → W p l e R s m args below meth c H locs ce sl Q (F0 m a.1 ls st)
theorem zloops2 {ann : zAnn} {sp : List (Nat × Nat × Int × Int)} {fuel : Nat} (X : zCtx p l e R s m args below meth c cc own nL Ts RO cl Z RS P MT CS Co D tys A ad gh ws0 nuE H0 ce sl Q) (hGE : ∀ g, g < Z.2.2 → nuE[g]? = some (gh g)) (hw : ∀ a ∈ ann, ∀ i, (a.2.2.getD i (2, 0, 0)).2.1 < a.2.1.2.1.length) (hr : ∀ a ∈ ann, zrun Z RS P MT CS Co cc ann sp (some a.2.2) fuel a.1 a.2.1.2 = true ∨ zHand p l e R s m args below meth c nL cl Z Co D tys A ad gh ws0 nuE H0 ce sl Q ann a) :
    ∀ (r : Nat × Nat × Nat × Nat), ∀ a ∈ ann, ∀ nu' : List Int, (∃ u, nu' = nuE ++ u) → zrk3 a.2.2 nu' = r → (∀ (ls : Array Slot) (st : List Value) (ws : va_W) (H : Heap) (locs : List Loc), zG Z D cl tys A ad gh Co.2.2.1 H0 ws0 nu' nL a.2.1.2 nu' ls st ws H locs → W p l e R s m args below meth c H locs ce sl Q (F0 m a.1 ls st)) := by
  refine zLex_ind (fun r ih => ?_)
  intro a ha nu' hE hk ls st ws H locs hG
  have hlen : nu'.length = a.2.1.2.1.length := hG.2.1.1.1
  have hT : zTgt p l e R s m args below meth c nL cl Z Co D tys A ad gh ws0 nuE H0 ce sl Q ann (some a.2.2) nu' := fun b hb nu2 hE2 hlx => by
    have := hlx a.2.2 rfl
    rw [hk] at this
    exact ih _ this b hb nu2 hE2 rfl
  rcases hr a ha with h | h
  · exact zrun_ok X hGE hE (ro := some a.2.2) (fun r2 hr2 i => by cases hr2; rw [hlen]; exact hw a ha i) hT fuel a.1 a.2.1.2 h nu' ls st ws H locs hG
  · exact h nu' hE hT ls st ws H locs hG
end ZRU
end
section
/-! A METHOD MEETS ITS CONTRACT -/
def zRowG (RO : zRO) (own : String) (Ts : List Cond) (op : Nat → Instr) (el : Nat) (q : Nat × Nat) : Prop := ∀ (p : Program) (l : Launch) (e : Env) (R : Room) (s : State) (m : MethodId) (args : Array Value) (below : List Frame) (meth : Method) (c : Code) (Q : State → Prop) (cc : ByteArray) (A : Nat → Prop) (ad : Nat → Nat) (pc : Nat) (H : Heap) (locs : List Loc) (ls : Array Slot) (rest : List Value) (ce sl : Nat), p.tables.exec = Jvm.exec → c.code = cc → s.vm.findClass own = some m.cls → (∀ w ∈ Ts, w.before args s = true) → RO ad A s s.heap → decode cc pc = .ok (op q.1, el) → va_S A s.heap H locs → W p l e R s m args below meth c H locs ce sl Q (F0 m (pc + el) ls (.ref (ad q.2) :: rest)) → W p l e R s m args below meth c H locs ce sl Q (F0 m pc ls rest)
def zRowI (RO : zRO) (own : String) (Ts : List Cond) (idx : Nat) : Prop := ∀ (p : Program) (l : Launch) (e : Env) (R : Room) (s : State) (m : MethodId) (args : Array Value) (below : List Frame) (meth : Method) (c : Code) (Q : State → Prop) (cc : ByteArray) (A : Nat → Prop) (ad : Nat → Nat) (pc : Nat) (H : Heap) (locs : List Loc) (ls : Array Slot) (rest : List Value) (ce sl : Nat) (nL : Nat) (x : Int32), p.tables.exec = Jvm.exec → c.code = cc → c.maxLocals = nL → s.vm.findClass own = some m.cls → (∀ w ∈ Ts, w.before args s = true) → RO ad A s s.heap → 20 ≤ R.frames → 1000 ≤ R.locals → ce ≤ R.cells ∧ sl ≤ R.slots → decode cc pc = .ok (.invokevirtual idx, 3) → va_S A s.heap H locs → ls.size = nL → (rest.map fun v => v.category).sum ≤ 8 →
  (∀ (r : Int32) (locs1 : List Loc), -1 ≤ r.toInt → r.toInt ≤ 7 → va_S A s.heap H locs1 → W p l e R s m args below meth c H locs1 ce sl Q (F0 m (pc + 3) ls (.int r :: rest))) → W p l e R s m args below meth c H locs ce sl Q (F0 m pc ls (.int x :: .ref (ad 2000) :: rest))
def zRowT (RO : zRO) (RS : List (List Int)) : Prop := ∀ (i : Nat) (tb : List Int), RS[i]? = some tb → ∀ (p : Program) (l : Launch) (e : Env) (R : Room) (s : State) (m : MethodId) (args : Array Value) (below : List Frame) (meth : Method) (c : Code) (Q : State → Prop) (cc : ByteArray) (A : Nat → Prop) (ad : Nat → Nat) (pc : Nat) (H : Heap) (locs : List Loc) (ls : Array Slot) (rest : List Value) (ce sl : Nat) (x : Int32), p.tables.exec = Jvm.exec → c.code = cc → RO ad A s s.heap → decode cc pc = .ok (.iaload, 1) → va_S A s.heap H locs → vp_in x tb.length → W p l e R s m args below meth c H locs ce sl Q (F0 m (pc + 1) ls (.int (Int32.ofInt (tb.getD x.toNatClampNeg 0)) :: rest)) → W p l e R s m args below meth c H locs ce sl Q (F0 m pc ls (.int x :: .ref (ad (1000 + i)) :: rest))
/-- a class's pool is the tables' -/
def zPok (Ts : List Cond) (cl : List vw_C) (RO : zRO) (MT : zMT) (own : String) (P : zPool) : Prop :=
  (∀ f ∈ P.1, ∃ (C : String) (T : u_T) (N : Nat) (ty0 : Nat → FieldType), cl[f.2.1]? = some (C, T, N) ∧ f.2.2.1 < N ∧ (∀ w ∈ u_ws C T N, w ∈ Ts) ∧ (∀ k, k < N → parseFieldDescriptor (T k).2.2.1 = some (ty0 k)) ∧ (∀ a, a < N → ∀ b, b < N → a ≠ b → (T a).2.1 ≠ (T b).2.1) ∧ Cond.fieldLink own f.1 (T f.2.2.1).1 (T f.2.2.1).2.1 (T f.2.2.1).2.2.1 ∈ Ts ∧
    (f.2.2.2 ≤ 2 → (T f.2.2.1).2.2.2 = false) ∧ (f.2.2.2 = 0 → ty0 f.2.2.1 = .int) ∧ (f.2.2.2 = 1 → ty0 f.2.2.1 = .boolean) ∧ (f.2.2.2 = 2 → ∃ n, ty0 f.2.2.1 = .object n)) ∧
  (∀ q ∈ P.2.1, -2147483648 ≤ q.2 ∧ q.2 ≤ 2147483647 ∧ Jvm.Cond.constant own q.1 (Int32.ofInt q.2) ∈ Ts) ∧ (∀ q ∈ P.2.2.1, -9223372036854775808 ≤ q.2 ∧ q.2 ≤ 9223372036854775807 ∧ Jvm.Cond.constantLong own q.1 (Int64.ofInt q.2) ∈ Ts) ∧
  (∀ q ∈ P.2.2.2.1, (q.2.1 = 0 → ∀ C : zC, C.1 = q.2.2.1 → zLkV Ts own q.1 (zKof MT C) q.2.2.2.1 ∧ ∃ (T : u_T) (N : Nat), cl[q.2.2.2.2]? = some ((MT C.1).1.cls, T, N)) ∧
    (q.2.1 = 1 → ∀ C : zC, C.1 = q.2.2.1 → zLkS Ts (zKof MT C) q.2.2.2.1 ∧ Cond.methodLink own q.1 (MT C.1).1 ∈ Ts) ∧
    (q.2.1 = 2 → ∀ C : zC, C.1 = q.2.2.1 → zLkS Ts (zKof MT C) q.2.2.2.1 ∧ ∃ host, ∀ (ad : Nat → Nat) (A : Nat → Prop) (s : State) (H : Heap), RO ad A s H → va_Nw (Cond.methodLinkNest own q.1 (MT C.1).1 host) s) ∧ (q.2.1 = 3 → zRowI RO own Ts q.1) ∧ (q.2.1 = 4 → Cond.methodLink own q.1 arraycopyName ∈ Ts ∧ Cond.native arraycopyName ∈ Ts ∧ Cond.static arraycopyName ∈ Ts ∧ Cond.initialized "java/lang/System" ∈ Ts)) ∧
  (∀ q ∈ P.2.2.2.2.1, zRowG RO own Ts Instr.getstatic 3 q) ∧ (∀ q ∈ P.2.2.2.2.2, zRowG RO own Ts Instr.ldc 2 q)
def zcheck (Z : zZ) (RS : List (List Int)) (MT : zMT) (CS : List zC) (C : zC) (P : zPool) (rc : Nat) (ann : zAnn) (sp : List (Nat × Nat × Int × Int)) (fuel : Nat) : Bool :=
  zrun Z RS P MT CS (C.2.2.1.2.1.length, C.2.2.2.1, C.2.2.2.2, C.2.1, rc) (MT C.1).2.1 ann sp none fuel 0 C.2.2.1.2 &&
  (ann.all (fun a => decide (0 < a.2.1.2.1.length) && ((a.2.2.all (fun r => decide (r.2.1 < a.2.1.2.1.length))) && zrun Z RS P MT CS (C.2.2.1.2.1.length, C.2.2.2.1, C.2.2.2.2, C.2.1, rc) (MT C.1).2.1 ann sp (some a.2.2) fuel a.1 a.2.1.2)) &&
    P.2.2.2.1.all (fun q => !(q.2.1 == 3) || (decide (20 ≤ C.2.1.1) && decide (1000 ≤ C.2.1.2))))
/-- a head's own walk -/
def zhead (Z : zZ) (RS : List (List Int)) (MT : zMT) (CS : List zC) (C : zC) (P : zPool) (rc : Nat) (ann : zAnn) (sp : List (Nat × Nat × Int × Int)) (fuel : Nat) (a : Nat × zTm × zRk) : Bool := decide (0 < a.2.1.2.1.length) && ((a.2.2.all (fun r => decide (r.2.1 < a.2.1.2.1.length))) && zrun Z RS P MT CS (C.2.2.1.2.1.length, C.2.2.2.1, C.2.2.2.2, C.2.1, rc) (MT C.1).2.1 ann sp (some a.2.2) fuel a.1 a.2.1.2)
theorem zcheck_of {Z : zZ} {RS : List (List Int)} {MT : zMT} {CS : List zC} {C : zC} {P : zPool} {rc : Nat} {ann : zAnn} {sp : List (Nat × Nat × Int × Int)} {fuel : Nat} (h0 : zrun Z RS P MT CS (C.2.2.1.2.1.length, C.2.2.2.1, C.2.2.2.2, C.2.1, rc) (MT C.1).2.1 ann sp none fuel 0 C.2.2.1.2 = true) (h1 : ann.all (zhead Z RS MT CS C P rc ann sp fuel) = true) (h2 : P.2.2.2.1.all (fun q => !(q.2.1 == 3) || (decide (20 ≤ C.2.1.1) && decide (1000 ≤ C.2.1.2))) = true) : zcheck Z RS MT CS C P rc ann sp fuel = true := by
  unfold zcheck
  rw [Bool.and_eq_true, Bool.and_eq_true]
  exact ⟨h0, h1, h2⟩
theorem zall_cons {α : Type} {f : α → Bool} {a : α} {r : List α} (h : f a = true) (t : r.all f = true) : (a :: r).all f = true := by
  rw [List.all_cons, h, t]
  rfl
theorem zall_nil {α : Type} {f : α → Bool} : ([] : List α).all f = true := rfl
def zrcOk (rc : Nat) (ret : Option FieldType) : Prop := (rc = 0 → ret = none) ∧ (rc = 1 → ret = some .int) ∧ (rc = 2 → ret = some .boolean) ∧ (rc = 3 → ret = some .long)
/-- a contract behind which the ghosts are others -/
def zMetG (l : Launch) (Ts : List Cond) (cl : List vw_C) (Z : zZ) (RO : zRO) (K : zK) (φ : (Nat → Nat) → (Nat → Int) → (Nat → Int) → va_W → List Int → Prop) : Prop := ∀ (D : va_G) (tys : List (ClassId × FieldType)) (A : Nat → Prop) (ad : Nat → Nat) (gh gh' : Nat → Int) (ws : va_W) (nu : List Int) (As : List Value), (0 < Z.2.2 ∧ gh 0 = 0) → zEnt Z ad gh tys K ws nu As → va_D A ws → φ ad gh gh' ws nu →
  Met l K.1 (Cond.code K.1 K.2.1 K.2.2.1 K.2.2.2.1 :: Ts) (zrm K) (zPc D cl tys A ad RO ws As) (zQc Z D cl tys A ad gh' (zKA K) (zKW K) ws nu) 0 0 A
theorem zi_ret_nil {Z : zZ} {n : Nat} {wr : zWr} {rm : Nat × Nat} {rc0 : Nat} {sg : zS} {rc len : Nat} : zi_ret Z (n, [], wr, rm, rc0) sg rc len = none := by
  unfold zi_ret
  split
  · exact if_neg (fun h => by cases h.2.2)
  · exact if_neg (fun h => by cases h.2.2.2)
  · exact if_neg (fun h => by cases h.2.2.2)
  · rfl
/-- other ghosts, another start -/
theorem zCtx.re {p : Program} {l : Launch} {e : Env} {R : Room} {s : State} {m : MethodId} {args : Array Value} {below : List Frame} {meth : Method} {c : Code} {cc : ByteArray} {own : String} {nL : Nat} {Ts : List Cond} {RO : zRO} {cl : List vw_C} {Z : zZ} {RS : List (List Int)} {P : zPool} {MT : zMT} {CS : List zC} {Co : zCo} {D : va_G} {tys : List (ClassId × FieldType)} {A : Nat → Prop} {ad : Nat → Nat} {gh : Nat → Int} {ws0 : va_W} {nuE : List Int} {H0 : Heap} {ce sl : Nat} {Q : State → Prop}
    (X : zCtx p l e R s m args below meth c cc own nL Ts RO cl Z RS P MT CS Co D tys A ad gh ws0 nuE H0 ce sl Q) (gh' : Nat → Int) (ws1 : va_W) (nuF : List Int) (wr' : zWr) (rc : Nat) (h0 : gh' 0 = 0) : zCtx p l e R s m args below meth c cc own nL Ts RO cl Z RS P MT CS (nuF.length, [], wr', Co.2.2.2.1, rc) D tys A ad gh' ws1 nuF H0 ce sl Q := by
  obtain ⟨⟨a1, a2, a3, a4, a5, a6⟩, b, ⟨c1, c2⟩, d, f1, f2, f3, f4, f5, f6, f7⟩ := X
  exact ⟨⟨a1, a2, ⟨a3.1, h0⟩, a4, a5, a6⟩, b, ⟨rfl, c2⟩, d, f1, f2, f3, f4, f5, f6, fun nu0 rc2 pc len sg su hE2 hz d0 d1 d2 => by rw [zi_ret_nil] at hz; cases hz⟩
theorem zmet_ofG {φ : (Nat → Nat) → (Nat → Int) → (Nat → Int) → va_W → List Int → Prop} {l : Launch} {Ts : List Cond} {cl : List vw_C} {Z : zZ} {RO : zRO} {RS : List (List Int)} {MT : zMT} {CS : List zC} {C : zC} {P : zPool} {rc : Nat} (hTg : ∀ w ∈ Ts, goodWord w = true) (hR : zROk RO) (hZ : zDj Z) (hRS : zRowT RO RS) (hPk : zPok Ts cl RO MT (MT C.1).1.cls P) (hCS : ∀ C ∈ CS, zMet l Ts cl Z RO (zKof MT C)) (hrc : zrcOk rc (MT C.1).2.2.2) (hy : plainName (MT C.1).1.cls = true)
    (hroom : P.2.2.2.1.all (fun q => !(q.2.1 == 3) || (decide (20 ≤ C.2.1.1) && decide (1000 ≤ C.2.1.2))) = true)
    (hand : ∀ (p : Program) (e : Env) (R : Room) (s : State) (m : MethodId) (args : Array Value) (below : List Frame) (meth : Method) (c : Code) (D : va_G) (tys : List (ClassId × FieldType)) (A : Nat → Prop) (ad : Nat → Nat) (gh gh' : Nat → Int) (ws : va_W) (nu : List Int) (Q : State → Prop), (∀ g, g < Z.2.2 → nu[g]? = some (gh g)) → φ ad gh gh' ws nu → Q = MQ below (zQc Z D cl tys A ad gh' C.2.2.2.1 C.2.2.2.2 ws nu) args s 0 0 A → meth.sig.returnType = (MT C.1).2.2.2 → zCtx p l e R s m args below meth c (MT C.1).2.1 (MT C.1).1.cls (MT C.1).2.2.1 Ts RO cl Z RS P MT CS (C.2.2.1.2.1.length, [], C.2.2.2.2, C.2.1, rc) D tys A ad gh ws nu s.heap 0 0 Q →
      ∀ ls : Array Slot, zG Z D cl tys A ad gh C.2.2.2.2 s.heap ws nu (MT C.1).2.2.1 C.2.2.1.2 nu ls [] ws s.heap [] → W p l e R s m args below meth c s.heap [] 0 0 Q (F0 m 0 ls [])) : zMetG l Ts cl Z RO (zKof MT C) φ := by
  intro D tys A ad gh gh' ws nu As h0 hEnt hD hφ
  refine Met.ofW (cc := (MT C.1).2.1) (maxL := (MT C.1).2.2.1) (ret := (MT C.1).2.2.2) hy rfl ?_
  intro p e s m args below meth c s₁ B hml hv
  obtain ⟨rfl, hP, hK, hro⟩ := hv
  have hx := B.exec
  have hb := B.bytes
  have hr := B.returns
  have hts0 := atoms_spec (ws := Cond.code (MT C.1).1 (MT C.1).2.1 (MT C.1).2.2.1 (MT C.1).2.2.2 :: Ts) B.pre
  have hts : ∀ w ∈ Ts, w.before As.toArray s = true := fun w hw => hts0 w (List.mem_cons_of_mem _ hw)
  have hown : s.vm.findClass (MT C.1).1.cls = some m.cls := findClass_of_methodNamed B.named
  have hlocks := B.notSynchronized
  obtain ⟨hW, hE1, hC1, hgh, hL, hst, hF, hme⟩ := hEnt
  obtain ⟨q1, q2, q3, q4, q5, q6⟩ := hPk
  have X : zCtx p l e (headSpec (Cond.code (MT C.1).1 (MT C.1).2.1 (MT C.1).2.2.1 (MT C.1).2.2.2 :: Ts) (zrm (zKof MT C))).room s m As.toArray below meth c (MT C.1).2.1 (MT C.1).1.cls (MT C.1).2.2.1 Ts RO cl Z RS P MT CS (C.2.2.1.2.1.length, [], C.2.2.2.2, C.2.1, rc) D tys A ad gh ws nu s.heap 0 0 (MQ below (zQc Z D cl tys A ad gh' C.2.2.2.1 C.2.2.2.2 ws nu) As.toArray s 0 0 A) := by
    refine ⟨⟨hx, hb, h0, hml, rfl, hown⟩, ⟨hts, hTg, hK, hR, hro, hZ, hlocks⟩, ⟨hE1.1.symm, ⟨Nat.le_refl _, Nat.le_refl _⟩⟩, ⟨fun f hf => ?_, fun f hf h2 => ?_, fun q hq => ⟨(q2 q hq).1, (q2 q hq).2.1, hts _ (q2 q hq).2.2⟩, fun q hq => ⟨(q3 q hq).1, (q3 q hq).2.1, hts _ (q3 q hq).2.2⟩, fun q hq => ?_⟩, fun q hq pc H locs ls rest hd hS kk => ?_, fun q hq pc H locs ls rest hd hS kk => ?_, fun q hq h3 pc H locs ls rest x hd hS hsz hc kk => ?_, fun i tb hi pc H locs ls rest x hd hS hin kk => ?_, hCS, ⟨Nat.zero_le _, Nat.zero_le _⟩, fun nu0 rc2 pc len sg su hE2 hz d0 d1 d2 => by rw [zi_ret_nil] at hz; cases hz⟩
    · obtain ⟨Cn, T, N, ty0, f1, f2, f3, f4, f5, f6, -⟩ := q1 f hf
      exact ⟨Cn, T, N, ty0, f1, f2, fun w hw => hts w (f3 w hw), f4, f5, Or.inl (hts _ f6)⟩
    · obtain ⟨Cn, T, N, ty0, f1, f2, f3, f4, f5, f6, f7, f8, f9, f10⟩ := q1 f hf
      exact ⟨Cn, T, N, ty0, f1, f2, fun w hw => hts w (f3 w hw), f4, f5, Or.inl (hts _ f6), f7 h2, f8, f9, f10⟩
    · obtain ⟨g1, g2, g3, -, g4⟩ := q4 q hq
      refine ⟨g1, g2, fun z Cc hCc => ?_, g4⟩
      obtain ⟨k1, host, k2⟩ := g3 z Cc hCc
      exact ⟨k1, host, k2 ad A s s.heap hro⟩
    · exact q5 q hq p l e _ s m _ below meth c _ _ A ad pc H locs ls rest 0 0 hx hb hown hts hro hd hS kk
    · exact q6 q hq p l e _ s m _ below meth c _ _ A ad pc H locs ls rest 0 0 hx hb hown hts hro hd hS kk
    · have hrm := List.all_eq_true.mp hroom q hq
      have h3' : (!(q.2.1 == 3)) = false := by rw [h3]; rfl
      rw [h3', Bool.false_or, Bool.and_eq_true, decide_eq_true_eq, decide_eq_true_eq] at hrm
      exact (q4 q hq).2.2.2.1 h3 p l e _ s m _ below meth c _ _ A ad pc H locs ls rest 0 0 _ x hx hb hml hown hts hro hrm.1 hrm.2 ⟨Nat.zero_le _, Nat.zero_le _⟩ hd hS hsz hc kk
    · exact hRS i tb hi p l e _ s m _ below meth c _ _ A ad pc H locs ls rest 0 0 x hx hb hro hd hS hin kk
  rw [lg_entry_eq]
  refine hand p e _ s m _ below meth c D tys A ad gh gh' ws nu _ hgh hφ rfl hr X _ ?_
  refine ⟨⟨hP, hD, va_S.rf, hW, fun q j _ => rfl⟩, ⟨hE1, hC1, hgh, [], by rw [List.append_nil]⟩, hL, ?_, hF, ?_⟩
  · have hst : C.2.2.1.2.2.2.2.1 = [] := hst
    rw [hst]
    trivial
  · have hme : C.2.2.1.2.2.2.2.2.2 = [] := hme
    rw [hme]
    exact fun q hq => by cases hq
theorem zmet_of {l : Launch} {Ts : List Cond} {cl : List vw_C} {Z : zZ} {RO : zRO} {RS : List (List Int)} {MT : zMT} {CS : List zC} {C : zC} {P : zPool} {rc : Nat} (hTg : ∀ w ∈ Ts, goodWord w = true) (hR : zROk RO) (hZ : zDj Z) (hRS : zRowT RO RS) (hPk : zPok Ts cl RO MT (MT C.1).1.cls P) (hCS : ∀ C ∈ CS, zMet l Ts cl Z RO (zKof MT C)) (hrc : zrcOk rc (MT C.1).2.2.2) (hy : plainName (MT C.1).1.cls = true)
    (hroom : P.2.2.2.1.all (fun q => !(q.2.1 == 3) || (decide (20 ≤ C.2.1.1) && decide (1000 ≤ C.2.1.2))) = true)
    (hand : ∀ (p : Program) (e : Env) (R : Room) (s : State) (m : MethodId) (args : Array Value) (below : List Frame) (meth : Method) (c : Code) (D : va_G) (tys : List (ClassId × FieldType)) (A : Nat → Prop) (ad : Nat → Nat) (gh : Nat → Int) (ws : va_W) (nu : List Int) (Q : State → Prop), (∀ g, g < Z.2.2 → nu[g]? = some (gh g)) → Q = MQ below (zQc Z D cl tys A ad gh C.2.2.2.1 C.2.2.2.2 ws nu) args s 0 0 A → meth.sig.returnType = (MT C.1).2.2.2 → zCtx p l e R s m args below meth c (MT C.1).2.1 (MT C.1).1.cls (MT C.1).2.2.1 Ts RO cl Z RS P MT CS (C.2.2.1.2.1.length, C.2.2.2.1, C.2.2.2.2, C.2.1, rc) D tys A ad gh ws nu s.heap 0 0 Q →
      zWP (zG Z D cl tys A ad gh C.2.2.2.2 s.heap ws nu (MT C.1).2.2.1) (fun H locs pc ls st => W p l e R s m args below meth c H locs 0 0 Q (F0 m pc ls st)) 0 C.2.2.1.2) : zMet l Ts cl Z RO (zKof MT C) := by
  intro D tys A ad gh ws nu As h0 hEnt hD
  refine Met.ofW (cc := (MT C.1).2.1) (maxL := (MT C.1).2.2.1) (ret := (MT C.1).2.2.2) hy rfl ?_
  intro p e s m args below meth c s₁ B hml hv
  obtain ⟨rfl, hP, hK, hro⟩ := hv
  have hx := B.exec
  have hb := B.bytes
  have hr := B.returns
  have hts0 := atoms_spec (ws := Cond.code (MT C.1).1 (MT C.1).2.1 (MT C.1).2.2.1 (MT C.1).2.2.2 :: Ts) B.pre
  have hts : ∀ w ∈ Ts, w.before As.toArray s = true := fun w hw => hts0 w (List.mem_cons_of_mem _ hw)
  have hown : s.vm.findClass (MT C.1).1.cls = some m.cls := findClass_of_methodNamed B.named
  have hlocks := B.notSynchronized
  obtain ⟨hW, hE1, hC1, hgh, hL, hst, hF, hme⟩ := hEnt
  obtain ⟨q1, q2, q3, q4, q5, q6⟩ := hPk
  have X : zCtx p l e (headSpec (Cond.code (MT C.1).1 (MT C.1).2.1 (MT C.1).2.2.1 (MT C.1).2.2.2 :: Ts) (zrm (zKof MT C))).room s m As.toArray below meth c (MT C.1).2.1 (MT C.1).1.cls (MT C.1).2.2.1 Ts RO cl Z RS P MT CS (C.2.2.1.2.1.length, C.2.2.2.1, C.2.2.2.2, C.2.1, rc) D tys A ad gh ws nu s.heap 0 0 (MQ below (zQc Z D cl tys A ad gh C.2.2.2.1 C.2.2.2.2 ws nu) As.toArray s 0 0 A) := by
    refine ⟨⟨hx, hb, h0, hml, rfl, hown⟩, ⟨hts, hTg, hK, hR, hro, hZ, hlocks⟩, ⟨hE1.1.symm, ⟨Nat.le_refl _, Nat.le_refl _⟩⟩, ⟨fun f hf => ?_, fun f hf h2 => ?_, fun q hq => ⟨(q2 q hq).1, (q2 q hq).2.1, hts _ (q2 q hq).2.2⟩, fun q hq => ⟨(q3 q hq).1, (q3 q hq).2.1, hts _ (q3 q hq).2.2⟩, fun q hq => ?_⟩, fun q hq pc H locs ls rest hd hS kk => ?_, fun q hq pc H locs ls rest hd hS kk => ?_, fun q hq h3 pc H locs ls rest x hd hS hsz hc kk => ?_, fun i tb hi pc H locs ls rest x hd hS hin kk => ?_, hCS, ⟨Nat.zero_le _, Nat.zero_le _⟩, fun nu0 rc2 pc len sg su hE2 hz d0 d1 d2 => zk_ret (Co := (C.2.2.1.2.1.length, C.2.2.2.1, C.2.2.2.2, C.2.1, rc)) hx hb h0 rfl hlocks hE1.1.symm (fun q => hr.trans (hrc.1 q)) (fun q => hr.trans (hrc.2.1 q)) (fun q => hr.trans (hrc.2.2.1 q)) (fun q => hr.trans (hrc.2.2.2 q)) hE2 hz d0 d1 d2⟩
    · obtain ⟨Cn, T, N, ty0, f1, f2, f3, f4, f5, f6, -⟩ := q1 f hf
      exact ⟨Cn, T, N, ty0, f1, f2, fun w hw => hts w (f3 w hw), f4, f5, Or.inl (hts _ f6)⟩
    · obtain ⟨Cn, T, N, ty0, f1, f2, f3, f4, f5, f6, f7, f8, f9, f10⟩ := q1 f hf
      exact ⟨Cn, T, N, ty0, f1, f2, fun w hw => hts w (f3 w hw), f4, f5, Or.inl (hts _ f6), f7 h2, f8, f9, f10⟩
    · obtain ⟨g1, g2, g3, -, g4⟩ := q4 q hq
      refine ⟨g1, g2, fun z Cc hCc => ?_, g4⟩
      obtain ⟨k1, host, k2⟩ := g3 z Cc hCc
      exact ⟨k1, host, k2 ad A s s.heap hro⟩
    · exact q5 q hq p l e _ s m _ below meth c _ _ A ad pc H locs ls rest 0 0 hx hb hown hts hro hd hS kk
    · exact q6 q hq p l e _ s m _ below meth c _ _ A ad pc H locs ls rest 0 0 hx hb hown hts hro hd hS kk
    · have hrm := List.all_eq_true.mp hroom q hq
      have h3' : (!(q.2.1 == 3)) = false := by rw [h3]; rfl
      rw [h3', Bool.false_or, Bool.and_eq_true, decide_eq_true_eq, decide_eq_true_eq] at hrm
      exact (q4 q hq).2.2.2.1 h3 p l e _ s m _ below meth c _ _ A ad pc H locs ls rest 0 0 _ x hx hb hml hown hts hro hrm.1 hrm.2 ⟨Nat.zero_le _, Nat.zero_le _⟩ hd hS hsz hc kk
    · exact hRS i tb hi p l e _ s m _ below meth c _ _ A ad pc H locs ls rest 0 0 x hx hb hro hd hS hin kk
  rw [lg_entry_eq]
  refine hand p e _ s m _ below meth c D tys A ad gh ws nu _ hgh rfl hr X nu _ [] ws s.heap [] ?_
  refine ⟨⟨hP, hD, va_S.rf, hW, fun q j _ => rfl⟩, ⟨hE1, hC1, hgh, [], by rw [List.append_nil]⟩, hL, ?_, hF, ?_⟩
  · have hst : C.2.2.1.2.2.2.2.1 = [] := hst
    rw [hst]
    trivial
  · have hme : C.2.2.1.2.2.2.2.2.2 = [] := hme
    rw [hme]
    exact fun q hq => by cases hq
theorem zofWF {l : Launch} {y : MethodName} {ws ws' : List Cond} {rm : Room} {Pc : Array Value → State → Prop} {Qc : Array Value → State → Outcome → State → Prop} {mc ms : Nat} {free : Addr → Prop} {cc : ByteArray} {maxL : Nat} {ret : Option FieldType}
    (hy : plainFor y = true) (hw : ws = Cond.code y cc maxL ret :: ws')
    (body : ∀ p e s m args below meth c s₁, BodyLoose p l y (headSpec ws rm) cc maxL ret e s m args below meth c s₁ → c.maxLocals = maxL → Pc args s →
      W p l e (headSpec ws rm).room s m args below meth c s.heap [] 0 0 (MQ below Qc args s mc ms free) (entryFrame m args maxL)) : Met l y ws rm Pc Qc mc ms free := by
  refine MetFree.of_bodySF (code := cc) (maxLocals := maxL) (ret := ret) hy ?_ ?_
  · intro args s m h hn
    obtain ⟨meth, c, h1, h2, h3, h4, h5, h6, -, -⟩ := Cond.code_spec hn (atoms_spec (ws := ws) h _ (by rw [hw]; exact List.mem_cons_self))
    exact ⟨meth, c, h1, h2, h3, h4, h5, h6⟩
  · intro p e s m args below meth c s₁ B hml hP _
    have hh0 : s₁.heap = s.heap := by rw [B.state]; rfl
    obtain ⟨t, a1, o, b1, b2, b3⟩ := body p e s m args below meth c s₁ B hml hP s₁ hh0 (Stand.of_body B)
    exact ⟨t, o, a1, b1, b2, ⟨b3.1, b3.2⟩⟩
theorem zmet_ok {l : Launch} {Ts : List Cond} {cl : List vw_C} {Z : zZ} {RO : zRO} {RS : List (List Int)} {MT : zMT} {CS : List zC} {C : zC} {P : zPool} {rc : Nat} {ann : zAnn} {sp : List (Nat × Nat × Int × Int)} {fuel : Nat} (hTg : ∀ w ∈ Ts, goodWord w = true) (hR : zROk RO) (hZ : zDj Z) (hRS : zRowT RO RS) (hPk : zPok Ts cl RO MT (MT C.1).1.cls P) (hCS : ∀ C ∈ CS, zMet l Ts cl Z RO (zKof MT C)) (hrc : zrcOk rc (MT C.1).2.2.2) (hy : plainFor (MT C.1).1 = true)
    (h : zcheck Z RS MT CS C P rc ann sp fuel = true) : zMet l Ts cl Z RO (zKof MT C) := by
  intro D tys A ad gh ws nu As h0 hEnt hD
  unfold zcheck at h
  rw [Bool.and_eq_true, Bool.and_eq_true] at h
  obtain ⟨hrun, hann, hroom⟩ := h
  refine zofWF (cc := (MT C.1).2.1) (maxL := (MT C.1).2.2.1) (ret := (MT C.1).2.2.2) hy rfl ?_
  intro p e s m args below meth c s₁ B hml hv
  obtain ⟨rfl, hP, hK, hro⟩ := hv
  have hx := B.exec
  have hb := B.bytes
  have hr := B.returns
  have hts0 := atoms_spec (ws := Cond.code (MT C.1).1 (MT C.1).2.1 (MT C.1).2.2.1 (MT C.1).2.2.2 :: Ts) B.pre
  have hts : ∀ w ∈ Ts, w.before As.toArray s = true := fun w hw => hts0 w (List.mem_cons_of_mem _ hw)
  have hown : s.vm.findClass (MT C.1).1.cls = some m.cls := findClass_of_methodNamed B.named
  have hlocks := B.notSynchronized
  obtain ⟨hW, hE1, hC1, hgh, hL, hst, hF, hme⟩ := hEnt
  obtain ⟨q1, q2, q3, q4, q5, q6⟩ := hPk
  have X : zCtx p l e (headSpec (Cond.code (MT C.1).1 (MT C.1).2.1 (MT C.1).2.2.1 (MT C.1).2.2.2 :: Ts) (zrm (zKof MT C))).room s m As.toArray below meth c (MT C.1).2.1 (MT C.1).1.cls (MT C.1).2.2.1 Ts RO cl Z RS P MT CS (C.2.2.1.2.1.length, C.2.2.2.1, C.2.2.2.2, C.2.1, rc) D tys A ad gh ws nu s.heap 0 0 (MQ below (zQc Z D cl tys A ad gh C.2.2.2.1 C.2.2.2.2 ws nu) As.toArray s 0 0 A) := by
    refine ⟨⟨hx, hb, h0, hml, rfl, hown⟩, ⟨hts, hTg, hK, hR, hro, hZ, hlocks⟩, ⟨hE1.1.symm, ⟨Nat.le_refl _, Nat.le_refl _⟩⟩, ⟨fun f hf => ?_, fun f hf h2 => ?_, fun q hq => ⟨(q2 q hq).1, (q2 q hq).2.1, hts _ (q2 q hq).2.2⟩, fun q hq => ⟨(q3 q hq).1, (q3 q hq).2.1, hts _ (q3 q hq).2.2⟩, fun q hq => ?_⟩, fun q hq pc H locs ls rest hd hS kk => ?_, fun q hq pc H locs ls rest hd hS kk => ?_, fun q hq h3 pc H locs ls rest x hd hS hsz hc kk => ?_, fun i tb hi pc H locs ls rest x hd hS hin kk => ?_, hCS, ⟨Nat.zero_le _, Nat.zero_le _⟩, fun nu0 rc2 pc len sg su hE2 hz d0 d1 d2 => zk_ret (Co := (C.2.2.1.2.1.length, C.2.2.2.1, C.2.2.2.2, C.2.1, rc)) hx hb h0 rfl hlocks hE1.1.symm (fun q => hr.trans (hrc.1 q)) (fun q => hr.trans (hrc.2.1 q)) (fun q => hr.trans (hrc.2.2.1 q)) (fun q => hr.trans (hrc.2.2.2 q)) hE2 hz d0 d1 d2⟩
    · obtain ⟨Cn, T, N, ty0, f1, f2, f3, f4, f5, f6, -⟩ := q1 f hf
      exact ⟨Cn, T, N, ty0, f1, f2, fun w hw => hts w (f3 w hw), f4, f5, Or.inl (hts _ f6)⟩
    · obtain ⟨Cn, T, N, ty0, f1, f2, f3, f4, f5, f6, f7, f8, f9, f10⟩ := q1 f hf
      exact ⟨Cn, T, N, ty0, f1, f2, fun w hw => hts w (f3 w hw), f4, f5, Or.inl (hts _ f6), f7 h2, f8, f9, f10⟩
    · obtain ⟨g1, g2, g3, -, g4⟩ := q4 q hq
      refine ⟨g1, g2, fun z Cc hCc => ?_, g4⟩
      obtain ⟨k1, host, k2⟩ := g3 z Cc hCc
      exact ⟨k1, host, k2 ad A s s.heap hro⟩
    · exact q5 q hq p l e _ s m _ below meth c _ _ A ad pc H locs ls rest 0 0 hx hb hown hts hro hd hS kk
    · exact q6 q hq p l e _ s m _ below meth c _ _ A ad pc H locs ls rest 0 0 hx hb hown hts hro hd hS kk
    · have hrm := List.all_eq_true.mp hroom q hq
      have h3' : (!(q.2.1 == 3)) = false := by rw [h3]; rfl
      rw [h3', Bool.false_or, Bool.and_eq_true, decide_eq_true_eq, decide_eq_true_eq] at hrm
      exact (q4 q hq).2.2.2.1 h3 p l e _ s m _ below meth c _ _ A ad pc H locs ls rest 0 0 _ x hx hb hml hown hts hro hrm.1 hrm.2 ⟨Nat.zero_le _, Nat.zero_le _⟩ hd hS hsz hc kk
    · exact hRS i tb hi p l e _ s m _ below meth c _ _ A ad pc H locs ls rest 0 0 x hx hb hro hd hS hin kk
  have hall : ∀ a ∈ ann, (0 < a.2.1.2.1.length ∧ ∀ r ∈ a.2.2, r.2.1 < a.2.1.2.1.length) ∧ zrun Z RS P MT CS (C.2.2.1.2.1.length, C.2.2.2.1, C.2.2.2.2, C.2.1, rc) (MT C.1).2.1 ann sp (some a.2.2) fuel a.1 a.2.1.2 = true := fun a ha => by
    have h1 := List.all_eq_true.mp hann a ha
    rw [Bool.and_eq_true, Bool.and_eq_true, decide_eq_true_eq] at h1
    exact ⟨⟨h1.1, fun r hr => by have := List.all_eq_true.mp h1.2.1 r hr; rwa [decide_eq_true_eq] at this⟩, h1.2.2⟩
  have hwk : ∀ a ∈ ann, ∀ i, (a.2.2.getD i (2, 0, 0)).2.1 < a.2.1.2.1.length := fun a ha i => by
    obtain ⟨⟨w1, w2⟩, -⟩ := hall a ha
    rw [List.getD_eq_getElem?_getD]
    cases hg : a.2.2[i]? with
    | none => exact w1
    | some r => exact w2 r (List.mem_of_getElem? hg)
  have lp := zloops X hgh hwk (fun a ha => (hall a ha).2)
  rw [lg_entry_eq]
  refine zrun_ok X hgh ⟨[], by rw [List.append_nil]⟩ (ro := none) (fun r hr => by cases hr) (fun a ha nu' hE2 _ => lp _ a ha nu' hE2 rfl) fuel 0 C.2.2.1.2 hrun nu _ [] ws s.heap [] ?_
  refine ⟨⟨hP, hD, va_S.rf, hW, fun q j _ => rfl⟩, ⟨hE1, hC1, hgh, [], by rw [List.append_nil]⟩, hL, ?_, hF, ?_⟩
  · have hst : C.2.2.1.2.2.2.2.1 = [] := hst
    rw [hst]
    trivial
  · have hme : C.2.2.1.2.2.2.2.2.2 = [] := hme
    rw [hme]
    exact fun q hq => by cases hq
end
section
/-! THE WALK OVER INSTRUCTIONS THAT ARE DECODED ONCE -/
def zspP (sp : List (Nat × Nat × Int × Int)) (pc : Nat) (sg : zS) : Option (Nat × Int × Int) := match sp.find? (fun q => q.1 == pc) with
  | some q => (match sg.2.2.1[q.2.1]? with
    | some a => if a.1 = 1 ∧ a.2.1 < sg.1.length ∧ zcst sg.1 (a.2.1, 0) = false ∧ (zE sg.1 a.2.1).any (fun p => decide (p.1 ≤ q.2.2.2) && decide (q.2.2.1 ≤ p.2)) = true then some (a.2.1, q.2.2) else none
    | none => none)
  | none => none
def zrunT (t : Nat → Option (Instr × Nat)) (Z : zZ) (RS : List (List Int)) (P : zPool) (MT : zMT) (CS : List zC) (Co : zCo) (ann : zAnn) (sp : List (Nat × Nat × Int × Int)) (ro : Option zRk) : Nat → Nat → zS → Bool
  | 0, _, _ => false
  | f + 1, pc, sg => match zspP sp pc sg with
  | some n => (zcases sg.1 n.1 n.2.1 n.2.2).all (fun e => zrunT t Z RS P MT CS Co ann sp ro f pc (e, sg.2))
  | none => match t pc with
    | some q => (match zstep Z RS P MT CS Co pc sg q.1 q.2 with
      | some su => su.all (fun x => zdeadB x.2.1 || (if ann.any (fun a => a.1 == x.1) = true then ann.any (fun a => a.1 == x.1 && zjmp Z Co.1 ro a.2.2 a.2.1 x.2)
        else zrunT t Z RS P MT CS Co ann sp ro f x.1 x.2))
      | none => false)
    | none => false
section ZRT
variable {t : Nat → Option (Instr × Nat)} {cc : ByteArray} {Z : zZ} {RS : List (List Int)} {P : zPool} {MT : zMT} {CS : List zC} {Co : zCo} {ann : zAnn} {sp : List (Nat × Nat × Int × Int)} {ro : Option zRk} {C : zC} {rc fuel : Nat}
theorem zrunT_ok (ht : ∀ (pc : Nat) (q : Instr × Nat), t pc = some q → decode cc pc = .ok q) : ∀ (f pc : Nat) (sg : zS), zrunT t Z RS P MT CS Co ann sp ro f pc sg = true → zrun Z RS P MT CS Co cc ann sp ro f pc sg = true
  | 0, _, _, h => by cases h
  | f + 1, pc, sg, h => by
    unfold zrunT at h
    unfold zrun
    show (match zspP sp pc sg with
      | some n => (zcases sg.1 n.1 n.2.1 n.2.2).all (fun e => zrun Z RS P MT CS Co cc ann sp ro f pc (e, sg.2))
      | none => match decode cc pc with
        | .ok (ins, len) => (match zstep Z RS P MT CS Co pc sg ins len with
          | some su => su.all (fun x => zdeadB x.2.1 || (if ann.any (fun a => a.1 == x.1) = true then ann.any (fun a => a.1 == x.1 && zjmp Z Co.1 ro a.2.2 a.2.1 x.2)
            else zrun Z RS P MT CS Co cc ann sp ro f x.1 x.2))
          | none => false)
        | .error _ => false) = true
    split at h
    · rename_i n hn
      exact List.all_eq_true.mpr (fun e he => zrunT_ok ht f pc _ (List.all_eq_true.mp h e he))
    · rename_i hn
      split at h
      · rename_i q hq
        have hd := ht pc q hq
        obtain ⟨ins, len⟩ := q
        rw [hd]
        split at h
        · rename_i su hs
          have hs : zstep Z RS P MT CS Co pc sg ins len = some su := hs
          show (match zstep Z RS P MT CS Co pc sg ins len with
            | some su => su.all (fun x => zdeadB x.2.1 || (if ann.any (fun a => a.1 == x.1) = true then ann.any (fun a => a.1 == x.1 && zjmp Z Co.1 ro a.2.2 a.2.1 x.2) else zrun Z RS P MT CS Co cc ann sp ro f x.1 x.2))
            | none => false) = true
          rw [hs]
          refine List.all_eq_true.mpr (fun x hx => ?_)
          have h1 := List.all_eq_true.mp h x hx
          rcases Bool.or_eq_true_iff.mp h1 with h1 | h1
          · exact Bool.or_eq_true_iff.mpr (Or.inl h1)
          · refine Bool.or_eq_true_iff.mpr (Or.inr ?_)
            split at h1
            · rename_i hc
              rw [if_pos hc]
              exact h1
            · rename_i hc
              rw [if_neg hc]
              exact zrunT_ok ht f x.1 x.2 h1
        · cases h
      · cases h
def zcheckT (t : Nat → Option (Instr × Nat)) (Z : zZ) (RS : List (List Int)) (MT : zMT) (CS : List zC) (C : zC) (P : zPool) (rc : Nat) (ann : zAnn) (sp : List (Nat × Nat × Int × Int)) (fuel : Nat) : Bool :=
  zrunT t Z RS P MT CS (C.2.2.1.2.1.length, C.2.2.2.1, C.2.2.2.2, C.2.1, rc) ann sp none fuel 0 C.2.2.1.2 &&
  (ann.all (fun a => decide (0 < a.2.1.2.1.length) && ((a.2.2.all (fun r => decide (r.2.1 < a.2.1.2.1.length))) && zrunT t Z RS P MT CS (C.2.2.1.2.1.length, C.2.2.2.1, C.2.2.2.2, C.2.1, rc) ann sp (some a.2.2) fuel a.1 a.2.1.2)) &&
    P.2.2.2.1.all (fun q => !(q.2.1 == 3) || (decide (20 ≤ C.2.1.1) && decide (1000 ≤ C.2.1.2))))
theorem zcheckT_ok (ht : ∀ (pc : Nat) (q : Instr × Nat), t pc = some q → decode (MT C.1).2.1 pc = .ok q) (h : zcheckT t Z RS MT CS C P rc ann sp fuel = true) : zcheck Z RS MT CS C P rc ann sp fuel = true := by
  unfold zcheckT at h
  unfold zcheck
  rw [Bool.and_eq_true, Bool.and_eq_true] at h ⊢
  refine ⟨zrunT_ok ht _ _ _ h.1, List.all_eq_true.mpr (fun a ha => ?_), h.2.2⟩
  have h1 := List.all_eq_true.mp h.2.1 a ha
  rw [Bool.and_eq_true, Bool.and_eq_true] at h1 ⊢
  exact ⟨h1.1, h1.2.1, zrunT_ok ht _ _ _ h1.2.2⟩
def zheadT (t : Nat → Option (Instr × Nat)) (Z : zZ) (RS : List (List Int)) (MT : zMT) (CS : List zC) (C : zC) (P : zPool) (rc : Nat) (ann : zAnn) (sp : List (Nat × Nat × Int × Int)) (fuel : Nat) (a : Nat × zTm × zRk) : Bool := decide (0 < a.2.1.2.1.length) && ((a.2.2.all (fun r => decide (r.2.1 < a.2.1.2.1.length))) && zrunT t Z RS P MT CS (C.2.2.1.2.1.length, C.2.2.2.1, C.2.2.2.2, C.2.1, rc) ann sp (some a.2.2) fuel a.1 a.2.1.2)
theorem zheadT_ok {a : Nat × zTm × zRk} (ht : ∀ (pc : Nat) (q : Instr × Nat), t pc = some q → decode (MT C.1).2.1 pc = .ok q) (h : zheadT t Z RS MT CS C P rc ann sp fuel a = true) : zhead Z RS MT CS C P rc ann sp fuel a = true := by
  unfold zheadT at h
  unfold zhead
  rw [Bool.and_eq_true, Bool.and_eq_true] at h ⊢
  exact ⟨h.1, h.2.1, zrunT_ok ht _ _ _ h.2.2⟩
end ZRT
/-- a table of decoded instructions is right -/
def zDok (cc : ByteArray) (n : Nat) (t : Nat → Option (Instr × Nat)) : Bool := (List.range n).all (fun pc => match t pc with
  | none => true
  | some q => decide (decode cc pc = .ok q))
theorem zDok_ok {cc : ByteArray} {n : Nat} {t : Nat → Option (Instr × Nat)} (hn : ∀ pc : Nat, n ≤ pc → t pc = none) (h : zDok cc n t = true) : ∀ (pc : Nat) (q : Instr × Nat), t pc = some q → decode cc pc = .ok q := by
  intro pc q hq
  by_cases hl : pc < n
  · have h1 : (match t pc with
      | none => true
      | some q => decide (decode cc pc = .ok q)) = true := List.all_eq_true.mp h pc (List.mem_range.mpr hl)
    rw [hq] at h1
    exact of_decide_eq_true h1
  · rw [hn pc (by omega)] at hq
    cases hq
end
section
/-! THE PURE MACHINE: values are numbers with a tag (1 int, 2 long, 3 a cell by its place, 100 + e the z-th cell of the e-th range), memory is a table of numbers; a walk of a method as a sentence on them -/
abbrev yV : Type := Nat × Int
abbrev yM : Type := Nat → Nat → Int
abbrev yPT : Type := List yV → yM → (List yV → yM → Prop) → Prop
abbrev yNx : Type := Nat → List yV → List yV → yM → Prop
def yset (g : yM) (q j : Nat) (v : Int) : yM := fun a b => if a = q ∧ b = j then v else g a b
/-- a stretch copied -/
def ycpy (g : yM) (q u : Nat) (sp dp n : Nat) : yM := fun a b => if a = q ∧ (dp ≤ b ∧ b < dp + n) then g u (sp + (b - dp)) else g a b
def yw (z : Int) : Int := z.bmod 4294967296
def ywl (z : Int) : Int := z.bmod 18446744073709551616
def yb (f : Int32 → Int32 → Int32) (x y : Int) : Int := (f (Int32.ofInt x) (Int32.ofInt y)).toInt
def ybl (f : Int64 → Int64 → Int64) (x y : Int) : Int := (f (Int64.ofInt x) (Int64.ofInt y)).toInt
def ysh (f : Int64 → Int32 → Int64) (x y : Int) : Int := (f (Int64.ofInt x) (Int32.ofInt y)).toInt
def yu (f : Int32 → Int32) (x : Int) : Int := (f (Int32.ofInt x)).toInt
def ycmp (x y : Int) : Int := if x < y then -1 else if x = y then 0 else 1
def yget : List yV → Nat → yV
  | [], _ => (0, 0)
  | a :: _, 0 => a
  | _ :: r, n + 1 => yget r n
/-- a place written: the rest goes on with the new list -/
def ysetK : List yV → Nat → yV → (List yV → Prop) → Prop
  | [], _, _, _ => False
  | _ :: r, 0, v, k => k (v :: r)
  | a :: r, n + 1, v, k => ysetK r n v (fun r' => k (a :: r'))
/-- what lies ahead of it, if it is a long, is lost -/
def ykillK (L : List yV) (i : Nat) (k : List yV → Prop) : Prop := match i with
  | 0 => k L
  | j + 1 => bif Nat.beq (yget L j).1 2 then ysetK L j (0, 0) k else k L
def yst1K (L : List yV) (i : Nat) (a : yV) (k : List yV → Prop) : Prop := ykillK L i (fun L1 => ysetK L1 i a k)
def yst2K (L : List yV) (i : Nat) (a : yV) (k : List yV → Prop) : Prop := ykillK L i (fun L1 => ysetK L1 (i + 1) (0, 0) (fun L2 => ysetK L2 i a k))
/-- where a reference points -/
def ypl (Z : zZ) (t : Nat) (z : Int) : Nat := bif Nat.beq t 3 then z.toNat else (Z.1.getD (t - 100) (0, 0, 0, 0, 0, [])).1 + z.toNat
def yty (Z : zZ) (t : Nat) (z : Int) : Option zCT := bif Nat.beq t 3 then (Z.1.find? (fun e => Nat.ble e.1 z.toNat && Nat.ble z.toNat e.2.1)).map (fun e => e.2.2) else bif Nat.ble 100 t then (Z.1[t - 100]?).map (fun e => e.2.2) else none
/-- the number of the range that begins at a place and has room for so many -/
def yrng : List (Nat × Nat × zCT) → Nat → Nat → Nat → Option Nat
  | [], _, _, _ => none
  | e :: r, b, n, i => bif Nat.beq e.1 b && Nat.ble (b + n) (e.2.1 + 1) then some i else yrng r b n (i + 1)
/-- a field's value by its type -/
def yfld (g : yM) (q j : Nat) (ft : zFT) : yV := match ft with
  | (1, _, _) => (2, g q j)
  | (2, lo, hi) => bif zleI hi lo then (3, lo) else (3, g q j)
  | (4, d, _) => (3, ((q + d.toNat : Nat) : Int))
  | _ => (1, g q j)
def yisI (k : Nat) : Bool := Nat.beq k 1 || (Nat.beq k 6 || Nat.beq k 7)
def yi_c (tag pc : Nat) (nx : yNx) (L st : List yV) (g : yM) (n lo hi : Int) (len el : Nat) : Prop := bif Nat.beq len el && (zleI lo n && zleI n hi) then nx (pc + el) L ((tag, n) :: st) g else False
def yi_ldc (tb : List (Nat × Int)) (tag pc : Nat) (nx : yNx) (L st : List yV) (g : yM) (idx len el : Nat) : Prop := match tb.find? (fun f => f.1 == idx) with
  | some f => bif Nat.beq len el then nx (pc + el) L ((tag, f.2) :: st) g else False
  | none => False
def yi_cell (tb : List (Nat × Nat)) (pc : Nat) (nx : yNx) (L st : List yV) (g : yM) (idx len el : Nat) : Prop := match tb.find? (fun f => f.1 == idx) with
  | some f => bif Nat.beq len el then nx (pc + el) L ((3, (f.2 : Int)) :: st) g else False
  | none => False
def yi_ld (tag pc : Nat) (nx : yNx) (L st : List yV) (g : yM) (i len el : Nat) : Prop := match yget L i with
  | (t, z) => bif Nat.beq len el && Nat.beq t tag then nx (pc + el) L ((tag, z) :: st) g else False
def yi_ldA (pc : Nat) (nx : yNx) (L st : List yV) (g : yM) (i len el : Nat) : Prop := match yget L i with
  | (t, z) => bif Nat.beq len el && (Nat.beq t 3 || Nat.ble 100 t) then nx (pc + el) L ((t, z) :: st) g else False
def yi_st (tag pc : Nat) (nx : yNx) (L st : List yV) (g : yM) (i len el : Nat) : Prop := match st with
  | (t, z) :: r => bif Nat.beq len el && Nat.beq t tag then yst1K L i (tag, z) (fun L' => nx (pc + el) L' r g) else False
  | [] => False
def yi_stA (pc : Nat) (nx : yNx) (L st : List yV) (g : yM) (i len el : Nat) : Prop := match st with
  | (t, z) :: r => bif Nat.beq len el && (Nat.beq t 3 || Nat.ble 100 t) then yst1K L i (t, z) (fun L' => nx (pc + el) L' r g) else False
  | [] => False
def yi_stL (pc : Nat) (nx : yNx) (L st : List yV) (g : yM) (i len el : Nat) : Prop := match st with
  | (t, z) :: r => bif Nat.beq len el && Nat.beq t 2 then yst2K L i (2, z) (fun L' => nx (pc + el) L' r g) else False
  | [] => False
def yi_iinc (pc : Nat) (nx : yNx) (L st : List yV) (g : yM) (i : Nat) (d : Int) (len : Nat) : Prop := match yget L i with
  | (t, z) => bif Nat.beq len 3 && (Nat.beq t 1 && (zleI (-2147483648) d && zleI d 2147483647)) then yst1K L i (1, yw (z + d)) (fun L' => nx (pc + 3) L' st g) else False
def yi_bin (tag : Nat) (f : Int → Int → Int) (pc : Nat) (nx : yNx) (L st : List yV) (g : yM) (len : Nat) : Prop := match st with
  | (t2, y) :: (t1, x) :: r => bif Nat.beq len 1 && (Nat.beq t2 tag && Nat.beq t1 tag) then nx (pc + 1) L ((tag, f x y) :: r) g else False
  | _ => False
def yi_shL (f : Int → Int → Int) (pc : Nat) (nx : yNx) (L st : List yV) (g : yM) (len : Nat) : Prop := match st with
  | (t2, y) :: (t1, x) :: r => bif Nat.beq len 1 && (Nat.beq t2 1 && Nat.beq t1 2) then nx (pc + 1) L ((2, f x y) :: r) g else False
  | _ => False
def yi_dr (f : Int → Int → Int) (pc : Nat) (nx : yNx) (L st : List yV) (g : yM) (len : Nat) : Prop := match st with
  | (t2, y) :: (t1, x) :: r => bif Nat.beq len 1 && (Nat.beq t2 1 && Nat.beq t1 1) then y ≠ 0 ∧ nx (pc + 1) L ((1, f x y) :: r) g else False
  | _ => False
def yi_una (t0 tag : Nat) (f : Int → Int) (pc : Nat) (nx : yNx) (L st : List yV) (g : yM) (len : Nat) : Prop := match st with
  | (t, x) :: r => bif Nat.beq len 1 && Nat.beq t t0 then nx (pc + 1) L ((tag, f x) :: r) g else False
  | _ => False
def yi_lcmp (pc : Nat) (nx : yNx) (L st : List yV) (g : yM) (len : Nat) : Prop := match st with
  | (t2, y) :: (t1, x) :: r => bif Nat.beq len 1 && (Nat.beq t2 2 && Nat.beq t1 2) then nx (pc + 1) L ((1, ycmp x y) :: r) g else False
  | _ => False
def yi_dup (pc : Nat) (nx : yNx) (L st : List yV) (g : yM) (len : Nat) : Prop := match st with
  | (t, x) :: r => bif Nat.beq len 1 && (Nat.beq t 1 || (Nat.beq t 3 || Nat.ble 100 t)) then nx (pc + 1) L ((t, x) :: (t, x) :: r) g else False
  | _ => False
def yi_pop (pc : Nat) (nx : yNx) (L st : List yV) (g : yM) (len : Nat) : Prop := match st with
  | (t, x) :: r => bif Nat.beq len 1 && (Nat.beq t 1 || (Nat.beq t 3 || Nat.ble 100 t)) then nx (pc + 1) L r g else False
  | _ => False
def yi_pop2 (pc : Nat) (nx : yNx) (L st : List yV) (g : yM) (len : Nat) : Prop := match st with
  | (t, x) :: r => bif Nat.beq len 1 && Nat.beq t 2 then nx (pc + 1) L r g else False
  | _ => False
/-- where a jump goes -/
def yjmp (pc : Nat) (off : Int) (k : Nat → Prop) : Prop := bif zleI 0 ((pc : Int) + off) then k ((pc : Int) + off).toNat else False
def yi_goto (pc : Nat) (nx : yNx) (L st : List yV) (g : yM) (off : Int) (len : Nat) : Prop := bif Nat.beq len 3 then yjmp pc off (fun t => nx t L st g) else False
def yi_icmp (c : Int → Int → Prop) (pc : Nat) (nx : yNx) (L st : List yV) (g : yM) (off : Int) (len : Nat) : Prop := match st with
  | (t2, y) :: (t1, x) :: r => bif Nat.beq len 3 && (Nat.beq t2 1 && Nat.beq t1 1) then yjmp pc off (fun t => (c x y → nx t L r g) ∧ (¬ c x y → nx (pc + 3) L r g)) else False
  | _ => False
def yi_if (c : Int → Int → Prop) (pc : Nat) (nx : yNx) (L st : List yV) (g : yM) (off : Int) (len : Nat) : Prop := match st with
  | (t1, x) :: r => bif Nat.beq len 3 && Nat.beq t1 1 then yjmp pc off (fun t => (c x 0 → nx t L r g) ∧ (¬ c x 0 → nx (pc + 3) L r g)) else False
  | _ => False
def yi_sw (pc : Nat) (nx : yNx) (L r : List yV) (g : yM) (x lo : Int) : List Int → Prop
  | [] => True
  | o :: os => yjmp pc o (fun t => x = lo → nx t L r g) ∧ yi_sw pc nx L r g x (lo + 1) os
def yi_tsw (pc : Nat) (nx : yNx) (L st : List yV) (g : yM) (d lo hi : Int) (offs : List Int) : Prop := match st with
  | (t1, x) :: r => bif Nat.beq t1 1 then (offs.length : Int) = hi - lo + 1 ∧ (yjmp pc d (fun t => x < lo ∨ hi < x → nx t L r g) ∧ yi_sw pc nx L r g x lo offs) else False
  | _ => False
def yi_ls (pc : Nat) (nx : yNx) (L r : List yV) (g : yM) (x : Int) : List (Int × Int) → Prop
  | [] => True
  | o :: os => yjmp pc o.2 (fun t => x = o.1 → nx t L r g) ∧ yi_ls pc nx L r g x os
def yi_lsw (pc : Nat) (nx : yNx) (L st : List yV) (g : yM) (d : Int) (ps : List (Int × Int)) : Prop := match st with
  | (t1, x) :: r => bif Nat.beq t1 1 && (ps.zip (ps.drop 1)).all (fun (a, next) => a.1 < next.1) then yjmp pc d (fun t => (∀ q ∈ ps, q.1 ≠ x) → nx t L r g) ∧ yi_ls pc nx L r g x ps else False
  | _ => False
def yi_get (Z : zZ) (P : zPool) (pc : Nat) (nx : yNx) (L st : List yV) (g : yM) (idx len : Nat) : Prop := match st with
  | (t, z) :: r => (match P.1.find? (fun f => f.1 == idx), yty Z t z with
    | some f, some (0, ci, _, fts) => (match fts[f.2.2.1]? with
      | some ft => bif Nat.beq len 3 && Nat.beq ci f.2.1 then nx (pc + 3) L (yfld g (ypl Z t z) f.2.2.1 ft :: r) g else False
      | none => False)
    | _, _ => False)
  | _ => False
/-- may it be written: kind 0 an int, 1 a boolean, 2 a reference -/
def yint (ft : zFT) : Bool := !(Nat.beq ft.1 1 || (Nat.beq ft.1 2 || Nat.beq ft.1 4))
def yputc (kd : Nat) (ft : zFT) (t : Nat) (v : Int) (k : Prop) : Prop := match kd with
  | 0 => bif yint ft && Nat.beq t 1 then k else False
  | 1 => bif yint ft && Nat.beq t 1 then (0 ≤ v ∧ v ≤ 1) ∧ k else False
  | 2 => bif Nat.beq ft.1 2 && Nat.beq t 3 then (ft.2.1 ≤ v ∧ v ≤ ft.2.2) ∧ k else False
  | _ => False
def yi_put (Z : zZ) (P : zPool) (pc : Nat) (nx : yNx) (L st : List yV) (g : yM) (idx len : Nat) : Prop := match st with
  | (tv, v) :: (t, z) :: r => (match P.1.find? (fun f => f.1 == idx), yty Z t z with
    | some f, some (0, ci, _, fts) => (match fts[f.2.2.1]? with
      | some ft => bif Nat.beq len 3 && Nat.beq ci f.2.1 then yputc f.2.2.2 ft tv v (nx (pc + 3) L r (yset g (ypl Z t z) f.2.2.1 v)) else False
      | none => False)
    | _, _ => False)
  | _ => False
def yi_iald (Z : zZ) (RS : List (List Int)) (pc : Nat) (nx : yNx) (L st : List yV) (g : yM) (len : Nat) : Prop := match st with
  | (ti, i) :: (t, z) :: r => (match yty Z t z with
    | some (k, _, n, _) => bif Nat.beq len 1 && (Nat.beq ti 1 && yisI k) then (0 ≤ i ∧ i < (n : Int)) ∧ nx (pc + 1) L ((1, g (ypl Z t z) i.toNat) :: r) g else False
    | none => bif Nat.beq len 1 && (Nat.beq ti 1 && (Nat.beq t 3 && zleI 1000 z)) then (match RS[(z - 1000).toNat]? with
      | some tb => (0 ≤ i ∧ i < (tb.length : Int)) ∧ nx (pc + 1) L ((1, tb.getD i.toNat 0) :: r) g
      | none => False) else False)
  | _ => False
def yi_bald (Z : zZ) (pc : Nat) (nx : yNx) (L st : List yV) (g : yM) (len : Nat) : Prop := match st with
  | (ti, i) :: (t, z) :: r => (match yty Z t z with
    | some (k, _, n, _) => bif Nat.beq len 1 && (Nat.beq ti 1 && Nat.beq k 2) then (0 ≤ i ∧ i < (n : Int)) ∧ nx (pc + 1) L ((1, g (ypl Z t z) i.toNat) :: r) g else False
    | none => False)
  | _ => False
def yi_lald (Z : zZ) (pc : Nat) (nx : yNx) (L st : List yV) (g : yM) (len : Nat) : Prop := match st with
  | (ti, i) :: (t, z) :: r => (match yty Z t z with
    | some (k, _, n, _) => bif Nat.beq len 1 && (Nat.beq ti 1 && Nat.beq k 3) then (0 ≤ i ∧ i < (n : Int)) ∧ nx (pc + 1) L ((2, g (ypl Z t z) i.toNat) :: r) g else False
    | none => False)
  | _ => False
def yi_aald (Z : zZ) (pc : Nat) (nx : yNx) (L st : List yV) (g : yM) (len : Nat) : Prop := match st with
  | (ti, i) :: (t, z) :: r => (match yty Z t z with
    | some (k, _, n, ft :: _) => (match yrng Z.1 ft.2.1.toNat n 0 with
      | some e => bif Nat.beq len 1 && (Nat.beq ti 1 && (Nat.beq k 4 || Nat.beq k 5)) then (0 ≤ i ∧ i < (n : Int)) ∧ nx (pc + 1) L ((100 + e, i) :: r) g else False
      | none => False)
    | _ => False)
  | _ => False
def yi_iast (Z : zZ) (pc : Nat) (nx : yNx) (L st : List yV) (g : yM) (len : Nat) : Prop := match st with
  | (tv, v) :: (ti, i) :: (t, z) :: r => (match yty Z t z with
    | some (k, _, n, _) => bif Nat.beq len 1 && (Nat.beq tv 1 && (Nat.beq ti 1 && yisI k)) then (0 ≤ i ∧ i < (n : Int)) ∧ nx (pc + 1) L r (yset g (ypl Z t z) i.toNat v) else False
    | none => False)
  | _ => False
def yi_bast (Z : zZ) (pc : Nat) (nx : yNx) (L st : List yV) (g : yM) (len : Nat) : Prop := match st with
  | (tv, v) :: (ti, i) :: (t, z) :: r => (match yty Z t z with
    | some (k, _, n, _) => bif Nat.beq len 1 && (Nat.beq tv 1 && (Nat.beq ti 1 && Nat.beq k 2)) then (0 ≤ i ∧ i < (n : Int)) ∧ nx (pc + 1) L r (yset g (ypl Z t z) i.toNat (v.bmod 256)) else False
    | none => False)
  | _ => False
def yi_last (Z : zZ) (pc : Nat) (nx : yNx) (L st : List yV) (g : yM) (len : Nat) : Prop := match st with
  | (tv, v) :: (ti, i) :: (t, z) :: r => (match yty Z t z with
    | some (k, _, n, _) => bif Nat.beq len 1 && (Nat.beq tv 2 && (Nat.beq ti 1 && Nat.beq k 3)) then (0 ≤ i ∧ i < (n : Int)) ∧ nx (pc + 1) L r (yset g (ypl Z t z) i.toNat v) else False
    | none => False)
  | _ => False
/-- a contract: the method, its room, the sentence that it makes of what follows -/
abbrev yC : Type := Nat × (Nat × Nat) × yPT
def ycat (a : yV) : Nat := if a.1 = 2 then 2 else 1
def yok8 (st : List yV) : Bool := Nat.ble (st.map ycat).sum 8 && st.all (fun a => !(Nat.beq a.1 0))
def ylay : List yV → List yV
  | [] => []
  | a :: r => if a.1 = 2 then a :: (0, 0) :: ylay r else a :: ylay r
def ylayP (avs : List yV) (n : Nat) : List yV := ylay avs ++ List.replicate (n - (ylay avs).length) (0, 0)
def ytake (n : Nat) (st acc : List yV) (k : List yV → List yV → Prop) : Prop := match n, st with
  | 0, r => k acc r
  | m + 1, a :: r => ytake m r (a :: acc) k
  | _ + 1, [] => False
def ycall (MT : zMT) (CS : List yC) (rm : Nat × Nat) (mid : Nat) (as r : List yV) (g : yM) (k : List yV → yM → Prop) : Prop := match CS.find? (fun c => Nat.beq c.1 mid) with
  | some c => bif Nat.ble (c.2.1.1 + 1) rm.1 && (Nat.ble (8 + ((MT mid).2.2.1 + 11) + c.2.1.2) rm.2 && (Nat.ble (ylay as).length (MT mid).2.2.1 && (yok8 r && as.all (fun a => !(Nat.beq a.1 0))))) then c.2.2 as g k else False
  | none => False
def yi_call (Z : zZ) (P : zPool) (MT : zMT) (CS : List yC) (rm : Nat × Nat) (virt : Bool) (pc : Nat) (nx : yNx) (L st : List yV) (g : yM) (idx len : Nat) : Prop := match P.2.2.2.1.find? (fun f => f.1 == idx) with
  | some q =>
    bif Nat.beq len 3 && (virt && Nat.beq q.2.1 0) then
      ytake q.2.2.2.1 st [] (fun as r0 => match r0 with
        | (t, z) :: r => (match yty Z t z with
          | some (0, ci, _, _) => bif Nat.beq ci q.2.2.2.2 then ycall MT CS rm q.2.2.1 ((t, z) :: as) r g (fun v g' => nx (pc + 3) L (v ++ r) g') else False
          | _ => False)
        | [] => False)
    else bif Nat.beq len 3 && (!virt && (Nat.beq q.2.1 1 || Nat.beq q.2.1 2)) then
      ytake q.2.2.2.1 st [] (fun as r => ycall MT CS rm q.2.2.1 as r g (fun v g' => nx (pc + 3) L (v ++ r) g'))
    else bif Nat.beq len 3 && (!virt && (Nat.beq q.2.1 4 && (Nat.ble 1 rm.1 && Nat.ble 1000 rm.2))) then
      (match st with
        | (tn, n) :: (td, dp) :: (t, z) :: (ts, sp) :: (u, y) :: r => (match yty Z t z, yty Z u y with
          | some (k, _, n1, _), some (k0, _, n0, _) => bif (Nat.beq tn 1 && (Nat.beq td 1 && Nat.beq ts 1)) && (yok8 r && ((Nat.beq k 1 && Nat.beq k0 1) || (Nat.beq k 3 && Nat.beq k0 3))) then
            (0 ≤ n ∧ 0 ≤ dp ∧ 0 ≤ sp ∧ sp + n ≤ (n0 : Int) ∧ dp + n ≤ (n1 : Int)) ∧ nx (pc + 3) L r (ycpy g (ypl Z t z) (ypl Z u y) sp.toNat dp.toNat n.toNat) else False
          | _, _ => False)
        | _ => False)
    else False
  | none => False
/-- a return: 0 nothing, 1 an int, 2 a boolean, 3 a long -/
def yi_ret (rc : Nat) (K : List yV → yM → Prop) (st : List yV) (g : yM) (s len : Nat) : Prop := match s, st with
  | 0, [] => bif Nat.beq len 1 && Nat.beq rc 0 then K [] g else False
  | 1, [(t, x)] => bif Nat.beq len 1 && (Nat.beq t 1 && Nat.beq rc 1) then K [(1, x)] g else bif Nat.beq len 1 && (Nat.beq t 1 && Nat.beq rc 2) then (0 ≤ x ∧ x ≤ 1) ∧ K [(1, x)] g else False
  | 2, [(t, x)] => bif Nat.beq len 1 && (Nat.beq t 2 && Nat.beq rc 3) then K [(2, x)] g else False
  | _, _ => False
/-- what a walk rests on: the ranges, tables that nobody writes, the pool, methods, contracts, room, what it answers -/
abbrev yX : Type := zZ × List (List Int) × zPool × zMT × List yC × (Nat × Nat) × Nat
def ystep (X : yX) (K : List yV → yM → Prop) (nx : yNx) (pc : Nat) (L st : List yV) (g : yM) (ins : Instr) (len : Nat) : Prop := match ins with
  | .iconst n => yi_c 1 pc nx L st g n (-2147483648) 2147483647 len 1
  | .bipush n => yi_c 1 pc nx L st g n (-128) 127 len 2
  | .sipush n => yi_c 1 pc nx L st g n (-32768) 32767 len 3
  | .lconst n => yi_c 2 pc nx L st g (((n : Fin 2) : Nat) : Int) 0 1 len 1
  | .ldc i => yi_ldc X.2.2.1.2.1 1 pc nx L st g i len 2
  | .ldc_w i => yi_ldc X.2.2.1.2.1 1 pc nx L st g i len 3
  | .ldc2_w i => yi_ldc X.2.2.1.2.2.1 2 pc nx L st g i len 3
  | .iload_n k => yi_ld 1 pc nx L st g k.val len 1
  | .iload i => yi_ld 1 pc nx L st g i len 2
  | .lload_n k => yi_ld 2 pc nx L st g k.val len 1
  | .lload i => yi_ld 2 pc nx L st g i len 2
  | .aload_n k => yi_ldA pc nx L st g k.val len 1
  | .aload i => yi_ldA pc nx L st g i len 2
  | .istore_n k => yi_st 1 pc nx L st g k.val len 1
  | .istore i => yi_st 1 pc nx L st g i len 2
  | .astore_n k => yi_stA pc nx L st g k.val len 1
  | .astore i => yi_stA pc nx L st g i len 2
  | .lstore_n k => yi_stL pc nx L st g k.val len 1
  | .lstore i => yi_stL pc nx L st g i len 2
  | .iinc i d => yi_iinc pc nx L st g i d len
  | .iadd => yi_bin 1 (fun x y => yw (x + y)) pc nx L st g len
  | .isub => yi_bin 1 (fun x y => yw (x - y)) pc nx L st g len
  | .imul => yi_bin 1 (fun x y => yw (x * y)) pc nx L st g len
  | .iand => yi_bin 1 (yb (fun x y => x &&& y)) pc nx L st g len
  | .ior => yi_bin 1 (yb (fun x y => x ||| y)) pc nx L st g len
  | .ixor => yi_bin 1 (yb (fun x y => x ^^^ y)) pc nx L st g len
  | .ishl => yi_bin 1 (yb (fun x y => x <<< (y &&& 31))) pc nx L st g len
  | .ishr => yi_bin 1 (yb (fun x y => x >>> (y &&& 31))) pc nx L st g len
  | .iushr => yi_bin 1 (yb (fun x y => (x.toUInt32 >>> (y.toUInt32 &&& Int32.toUInt32 31)).toInt32)) pc nx L st g len
  | .idiv => yi_dr (yb (fun x y => x / y)) pc nx L st g len
  | .irem => yi_dr (yb (fun x y => x - x / y * y)) pc nx L st g len
  | .ineg => yi_una 1 1 (fun x => yw (-x)) pc nx L st g len
  | .i2b => yi_una 1 1 (fun x => x.bmod 256) pc nx L st g len
  | .i2s => yi_una 1 1 (fun x => x.bmod 65536) pc nx L st g len
  | .i2c => yi_una 1 1 (yu (fun x => (x.toUInt32 % 65536).toInt32)) pc nx L st g len
  | .i2l => yi_una 1 2 (fun x => x) pc nx L st g len
  | .l2i => yi_una 2 1 yw pc nx L st g len
  | .lcmp => yi_lcmp pc nx L st g len
  | .ladd => yi_bin 2 (fun x y => ywl (x + y)) pc nx L st g len
  | .land => yi_bin 2 (ybl (fun x y => x &&& y)) pc nx L st g len
  | .lor => yi_bin 2 (ybl (fun x y => x ||| y)) pc nx L st g len
  | .lshl => yi_shL (ysh (fun x y => x <<< (y.toInt64 &&& 63))) pc nx L st g len
  | .lshr => yi_shL (ysh (fun x y => x >>> (y.toInt64 &&& 63))) pc nx L st g len
  | .lushr => yi_shL (ysh (fun x y => (x.toUInt64 >>> (y.toInt64.toUInt64 &&& Int64.toUInt64 63)).toInt64)) pc nx L st g len
  | .dup => yi_dup pc nx L st g len
  | .pop => yi_pop pc nx L st g len
  | .pop2 => yi_pop2 pc nx L st g len
  | .goto off => yi_goto pc nx L st g off len
  | .tableswitch d lo hi offs => yi_tsw pc nx L st g d lo hi offs.toList
  | .lookupswitch d ps => yi_lsw pc nx L st g d ps.toList
  | .getfield i => yi_get X.1 X.2.2.1 pc nx L st g i len
  | .putfield i => yi_put X.1 X.2.2.1 pc nx L st g i len
  | .getstatic i => yi_cell X.2.2.1.2.2.2.2.1 pc nx L st g i len 3
  | .iaload => yi_iald X.1 X.2.1 pc nx L st g len
  | .baload => yi_bald X.1 pc nx L st g len
  | .laload => yi_lald X.1 pc nx L st g len
  | .aaload => yi_aald X.1 pc nx L st g len
  | .iastore => yi_iast X.1 pc nx L st g len
  | .bastore => yi_bast X.1 pc nx L st g len
  | .lastore => yi_last X.1 pc nx L st g len
  | .invokevirtual i => yi_call X.1 X.2.2.1 X.2.2.2.1 X.2.2.2.2.1 X.2.2.2.2.2.1 true pc nx L st g i len
  | .invokestatic i => yi_call X.1 X.2.2.1 X.2.2.2.1 X.2.2.2.2.1 X.2.2.2.2.2.1 false pc nx L st g i len
  | .return_ => yi_ret X.2.2.2.2.2.2 K st g 0 len
  | .ireturn => yi_ret X.2.2.2.2.2.2 K st g 1 len
  | .lreturn => yi_ret X.2.2.2.2.2.2 K st g 2 len
  | .if_icmp .eq off => yi_icmp (fun x y => x = y) pc nx L st g off len
  | .if_icmp .ne off => yi_icmp (fun x y => x ≠ y) pc nx L st g off len
  | .if_icmp .lt off => yi_icmp (fun x y => x < y) pc nx L st g off len
  | .if_icmp .ge off => yi_icmp (fun x y => y ≤ x) pc nx L st g off len
  | .if_icmp .gt off => yi_icmp (fun x y => y < x) pc nx L st g off len
  | .if_icmp .le off => yi_icmp (fun x y => x ≤ y) pc nx L st g off len
  | .ifCond .eq off => yi_if (fun x y => x = y) pc nx L st g off len
  | .ifCond .ne off => yi_if (fun x y => x ≠ y) pc nx L st g off len
  | .ifCond .lt off => yi_if (fun x y => x < y) pc nx L st g off len
  | .ifCond .ge off => yi_if (fun x y => y ≤ x) pc nx L st g off len
  | .ifCond .gt off => yi_if (fun x y => y < x) pc nx L st g off len
  | .ifCond .le off => yi_if (fun x y => x ≤ y) pc nx L st g off len
  | _ => False
/-- a walk up to stops, in so many steps; at a stop Y -/
def yrun (t : Nat → Option (Instr × Nat)) (X : yX) (K : List yV → yM → Prop) (Y : yNx) (sp : Nat → Bool) : Nat → Nat → List yV → List yV → yM → Prop
  | 0, pc, L, st, g => Y pc L st g
  | n + 1, pc, L, st, g => match t pc with
    | none => False
    | some q => ystep X K (fun pc' L' st' g' => bif sp pc' then Y pc' L' st' g' else yrun t X K Y sp n pc' L' st' g') pc L st g q.1 q.2
/-- what a walk goes on with: steps of the table -/
def yCl (t : Nat → Option (Instr × Nat)) (X : yX) (K : List yV → yM → Prop) (Y : yNx) : Prop := ∀ (nx : yNx) (pc : Nat) (L st : List yV) (g : yM) (q : Instr × Nat), t pc = some q → ystep X K nx pc L st g q.1 q.2 → (∀ (pc' : Nat) (L' st' : List yV) (g' : yM), nx pc' L' st' g' → Y pc' L' st' g') → Y pc L st g
theorem yrun_ok {t : Nat → Option (Instr × Nat)} {X : yX} {K : List yV → yM → Prop} {Y : yNx} {sp : Nat → Bool} (hY : yCl t X K Y) : ∀ (n pc : Nat) (L st : List yV) (g : yM), yrun t X K Y sp n pc L st g → Y pc L st g
  | 0, _, _, _, _, h => h
  | n + 1, pc, L, st, g, h => by
    unfold yrun at h
    split at h
    · exact h.elim
    · rename_i q hq
      refine hY _ pc L st g q hq h (fun pc' L' st' g' h2 => ?_)
      cases hs : sp pc' with
      | true =>
        rw [hs] at h2
        exact h2
      | false =>
        rw [hs] at h2
        exact yrun_ok hY n pc' L' st' g' h2
end
section
/-! THE PURE MACHINE'S STEPS ARE THE MACHINE'S: the world and its table of numbers; loads, stores, sums, branches -/
theorem ybif {b : Bool} {X : Prop} (h : bif b then X else False) : b = true ∧ X := by
  cases b with
  | true => exact ⟨rfl, h⟩
  | false => exact h.elim
theorem ybeq {a b : Nat} (h : Nat.beq a b = true) : a = b := Nat.eq_of_beq_eq_true h
theorem yble {a b : Nat} (h : Nat.ble a b = true) : a ≤ b := Nat.le_of_ble_eq_true h
def yval (Z : zZ) (ad : Nat → Nat) (t : Nat) (z : Int) (v : Value) : Prop := if 100 ≤ t then ∃ e, Z.1[t - 100]? = some e ∧ 0 ≤ z ∧ e.1 + z.toNat ≤ e.2.1 ∧ v = .ref (ad (e.1 + z.toNat)) else zval ad t z v
theorem yvI {Z : zZ} {ad : Nat → Nat} {z : Int} {x : Int32} (h : x.toInt = z) : yval Z ad 1 z (.int x) := by
  unfold yval
  rw [if_neg (by omega)]
  exact ⟨x, rfl, h⟩
theorem yvL {Z : zZ} {ad : Nat → Nat} {z : Int} {x : Int64} (h : x.toInt = z) : yval Z ad 2 z (.long x) := by
  unfold yval
  rw [if_neg (by omega)]
  exact ⟨x, rfl, h⟩
theorem yvR {Z : zZ} {ad : Nat → Nat} {z : Int} {q : Nat} (h : (q : Int) = z) : yval Z ad 3 z (.ref (ad q)) := by
  unfold yval
  rw [if_neg (by omega)]
  exact ⟨q, rfl, h⟩
theorem yvI' {Z : zZ} {ad : Nat → Nat} {z : Int} {v : Value} (h : yval Z ad 1 z v) : ∃ x : Int32, v = .int x ∧ x.toInt = z := by
  unfold yval at h
  rw [if_neg (by omega)] at h
  exact h
theorem yvL' {Z : zZ} {ad : Nat → Nat} {z : Int} {v : Value} (h : yval Z ad 2 z v) : ∃ x : Int64, v = .long x ∧ x.toInt = z := by
  unfold yval at h
  rw [if_neg (by omega)] at h
  exact h
theorem yvR' {Z : zZ} {ad : Nat → Nat} {t : Nat} {z : Int} {v : Value} (h : yval Z ad t z v) (ht : t = 3 ∨ 100 ≤ t) : v = .ref (ad (ypl Z t z)) := by
  unfold yval at h
  unfold ypl
  rcases ht with rfl | ht
  · rw [if_neg (by omega)] at h
    obtain ⟨q, h1, h2⟩ := h
    have e : z.toNat = q := by omega
    show v = .ref (ad z.toNat)
    rw [e]
    exact h1
  · rw [if_pos ht] at h
    obtain ⟨e, h1, h2, h3, h4⟩ := h
    have n3 : Nat.beq t 3 = false := by
      cases hb : Nat.beq t 3 with
      | false => rfl
      | true => have := ybeq hb; omega
    rw [n3, List.getD_eq_getElem?_getD, h1]
    exact h4
theorem yv0 {Z : zZ} {ad : Nat → Nat} {t : Nat} {z : Int} {v : Value} (h : yval Z ad t z v) : (t = 1 ∨ t = 2) ∨ (t = 3 ∨ 100 ≤ t) := by
  by_cases ht : 100 ≤ t
  · exact Or.inr (Or.inr ht)
  · unfold yval at h
    rw [if_neg ht] at h
    match t, h with
    | 1, _ => exact Or.inl (Or.inl rfl)
    | 2, _ => exact Or.inl (Or.inr rfl)
    | 3, _ => exact Or.inr (Or.inl rfl)
theorem ycat_ok {Z : zZ} {ad : Nat → Nat} {a : yV} {v : Value} (h : yval Z ad a.1 a.2 v) : v.category = ycat a := by
  obtain ⟨t, z⟩ := a
  rcases yv0 h with (rfl | rfl) | ht
  · obtain ⟨x, rfl, -⟩ := yvI' h
    rfl
  · obtain ⟨x, rfl, -⟩ := yvL' h
    rfl
  · have h2 := yvR' h ht
    have h2 : v = .ref (ad (ypl Z t z)) := h2
    subst h2
    have : t ≠ 2 := by omega
    show 1 = ycat (t, z)
    simp [ycat, this]
theorem yty_ref {Z : zZ} {t : Nat} {z : Int} {ct : zCT} (h : yty Z t z = some ct) : t = 3 ∨ 100 ≤ t := by
  unfold yty at h
  cases h3 : Nat.beq t 3 with
  | true => exact Or.inl (ybeq h3)
  | false =>
    rw [h3] at h
    cases h4 : Nat.ble 100 t with
    | true => exact Or.inr (yble h4)
    | false =>
      rw [h4] at h
      cases h
theorem yty_ok {Z : zZ} {ad : Nat → Nat} {t : Nat} {z : Int} {ct : zCT} {v : Value} (h : yty Z t z = some ct) (hv : yval Z ad t z v) : v = .ref (ad (ypl Z t z)) ∧ ∃ e ∈ Z.1, e.1 ≤ ypl Z t z ∧ ypl Z t z ≤ e.2.1 ∧ e.2.2 = ct := by
  have hr := yty_ref h
  refine ⟨yvR' hv hr, ?_⟩
  unfold yty at h
  rcases hr with rfl | ht
  · have h : (Z.1.find? (fun e => Nat.ble e.1 z.toNat && Nat.ble z.toNat e.2.1)).map (fun e => e.2.2) = some ct := h
    obtain ⟨e, h1, h2⟩ := Option.map_eq_some_iff.mp h
    have h3 := List.find?_some h1
    rw [Bool.and_eq_true] at h3
    exact ⟨e, List.mem_of_find?_eq_some h1, yble h3.1, yble h3.2, h2⟩
  · have n3 : Nat.beq t 3 = false := by
      cases hb : Nat.beq t 3 with
      | false => rfl
      | true => have := ybeq hb; omega
    rw [n3, Nat.ble_eq_true_of_le ht] at h
    have h : (Z.1[t - 100]?).map (fun e => e.2.2) = some ct := h
    obtain ⟨e, h1, h2⟩ := Option.map_eq_some_iff.mp h
    unfold yval at hv
    rw [if_pos ht] at hv
    obtain ⟨e', g1, g2, g3, g4⟩ := hv
    rw [h1] at g1
    cases g1
    refine ⟨e, List.mem_of_getElem? h1, ?_, ?_, h2⟩
    · unfold ypl
      rw [n3, List.getD_eq_getElem?_getD, h1]
      exact Nat.le_add_right _ _
    · unfold ypl
      rw [n3, List.getD_eq_getElem?_getD, h1]
      exact g3
/-- a field's value -/
def yfv (ad : Nat → Nat) (q : Nat) (ft : zFT) (z : Int) (v : Value) : Prop := match ft with
  | (1, _, _) => ∃ x : Int64, v = .long x ∧ x.toInt = z
  | (2, lo, hi) => ∃ r : Nat, v = .ref (ad r) ∧ lo ≤ (r : Int) ∧ (r : Int) ≤ hi ∧ (r : Int) = z
  | (4, d, _) => v = .ref (ad (q + d.toNat))
  | _ => ∃ x : Int32, v = .int x ∧ x.toInt = z
def ycell (ad : Nat → Nat) (tys : List (ClassId × FieldType)) (ws : va_W) (g : yM) (q : Nat) (ct : zCT) : Prop := match ct with
  | (0, ci, _, fts) => ∃ fs : List Value, ws[q]? = some (ad q, .inr (ci, fs)) ∧ fs.length = fts.length ∧ ∀ (j : Nat) (ft : zFT) (v : Value), fts[j]? = some ft → fs[j]? = some v → yfv ad q ft (g q j) v
  | (1, t0, len, _) => ∃ (cA : ClassId) (f : Nat → Int32), ws[q]? = some (ad q, .inl (cA, len, .inl f)) ∧ tys[t0]? = some (cA, .int) ∧ ∀ j : Nat, j < len → (f j).toInt = g q j
  | (2, t0, len, _) => ∃ (cA : ClassId) (f : Nat → Int32), ws[q]? = some (ad q, .inl (cA, len, .inl f)) ∧ tys[t0]? = some (cA, .byte) ∧ ∀ j : Nat, j < len → (f j).toInt = g q j
  | (3, t0, len, _) => ∃ (cA : ClassId) (f : Nat → Int64), ws[q]? = some (ad q, .inl (cA, len, .inr (.inl f))) ∧ tys[t0]? = some (cA, .long) ∧ ∀ j : Nat, j < len → (f j).toInt = g q j
  | (4, t0, len, fts) => ∃ (cA : ClassId) (C : String) (f : Nat → Option Nat), ws[q]? = some (ad q, .inl (cA, len, .inr (.inr (.inr (.inr f))))) ∧ tys[t0]? = some (cA, .object C) ∧ ∀ (j : Nat) (ft : zFT), j < len → fts[0]? = some ft → f j = some (ad (ft.2.1.toNat + j))
  | (5, t0, len, fts) => ∃ (cA : ClassId) (f : Nat → Option Nat), ws[q]? = some (ad q, .inl (cA, len, .inr (.inr (.inr (.inr f))))) ∧ tys[t0]? = some (cA, .array .long) ∧ ∀ (j : Nat) (ft : zFT), j < len → fts[0]? = some ft → f j = some (ad (ft.2.1.toNat + j))
  | (6, t0, len, _) => ∃ (cA : ClassId) (f : Nat → Int32), ws[q]? = some (ad q, .inl (cA, len, .inl f)) ∧ tys[t0]? = some (cA, .int) ∧ ∀ j : Nat, j < len → (f j).toInt = g q j
  | (7, t0, len, _) => ∃ (cA : ClassId) (f : Nat → Int32), ws[q]? = some (ad q, .inl (cA, len, .inl f)) ∧ tys[t0]? = some (cA, .int) ∧ ∀ j : Nat, j < len → (f j).toInt = g q j
  | _ => False
def yMem (Z : zZ) (ad : Nat → Nat) (tys : List (ClassId × FieldType)) (ws : va_W) (g : yM) : Prop := ∀ e ∈ Z.1, ∀ q : Nat, e.1 ≤ q → q ≤ e.2.1 → ycell ad tys ws g q e.2.2
def yS (Z : zZ) (ad : Nat → Nat) : List yV → List Value → Prop
  | [], [] => True
  | a :: as, v :: vs => yval Z ad a.1 a.2 v ∧ yS Z ad as vs
  | _, _ => False
def yL (Z : zZ) (ad : Nat → Nat) (nL : Nat) (ls : Array Slot) (L : List yV) : Prop := ls.size = nL ∧ L.length = nL ∧ lv_wf ls ∧ ∀ (i : Nat) (a : yV), L[i]? = some a → a.1 ≠ 0 → ∃ v, ls[i]? = some (.val v) ∧ yval Z ad a.1 a.2 v
def yG (Z : zZ) (D : va_G) (cl : List vw_C) (tys : List (ClassId × FieldType)) (A : Nat → Prop) (ad : Nat → Nat) (H0 : Heap) (nL : Nat) (L st : List yV) (g : yM) (ls : Array Slot) (stc : List Value) (ws : va_W) (H : Heap) (locs : List Loc) : Prop :=
  va_P D cl ws H ∧ va_D A ws ∧ va_S A H0 H locs ∧ yMem Z ad tys ws g ∧ yL Z ad nL ls L ∧ yS Z ad st stc
def yWP (F : List yV → List yV → yM → Array Slot → List Value → va_W → Heap → List Loc → Prop) (Wm : Heap → List Loc → Nat → Array Slot → List Value → Prop) (pc : Nat) (L st : List yV) (g : yM) : Prop :=
  ∀ (ls : Array Slot) (stc : List Value) (ws : va_W) (H : Heap) (locs : List Loc), F L st g ls stc ws H locs → Wm H locs pc ls stc
theorem yget_ok : ∀ {L : List yV} {i : Nat}, (yget L i).1 ≠ 0 → L[i]? = some (yget L i)
  | [], _, h => absurd rfl h
  | _ :: _, 0, _ => rfl
  | _ :: r, n + 1, h => yget_ok (L := r) (i := n) h
theorem ysetK_ok : ∀ {L : List yV} {i : Nat} {v : yV} {k : List yV → Prop}, ysetK L i v k → i < L.length ∧ k (L.set i v)
  | [], _, _, _, h => h.elim
  | _ :: r, 0, v, k, h => ⟨Nat.succ_pos _, h⟩
  | a :: r, n + 1, v, k, h => by
    obtain ⟨h1, h2⟩ := ysetK_ok (L := r) (i := n) h
    exact ⟨Nat.succ_lt_succ h1, h2⟩
def ykill (L : List yV) (i : Nat) : List yV := match i with
  | 0 => L
  | j + 1 => if (yget L j).1 = 2 then L.set j (0, 0) else L
theorem ykillK_ok {L : List yV} {i : Nat} {k : List yV → Prop} (h : ykillK L i k) : k (ykill L i) := by
  unfold ykillK at h
  unfold ykill
  cases i with
  | zero => exact h
  | succ j =>
    simp only at h ⊢
    cases hb : Nat.beq (yget L j).1 2 with
    | true =>
      rw [hb] at h
      rw [if_pos (ybeq hb)]
      exact (ysetK_ok h).2
    | false =>
      rw [hb] at h
      rw [if_neg (fun q => by rw [q] at hb; cases hb)]
      exact h
theorem ykill_len (L : List yV) (i : Nat) : (ykill L i).length = L.length := by
  unfold ykill
  cases i with
  | zero => rfl
  | succ j =>
    simp only
    split
    · rw [List.length_set]
    · rfl
theorem ykill_get {L : List yV} {i j : Nat} {a : yV} (h : (ykill L i)[j]? = some a) (h0 : a.1 ≠ 0) : L[j]? = some a ∧ (j + 1 = i → a.1 ≠ 2) := by
  cases i with
  | zero => exact ⟨h, fun q => by omega⟩
  | succ i =>
    unfold ykill at h
    simp only at h
    split at h
    · rename_i h2
      by_cases hj : j = i
      · subst hj
        have hl : j < L.length := by
          have := (List.getElem?_eq_some_iff.mp h).1
          rw [List.length_set] at this
          exact this
        rw [List.getElem?_set_self hl] at h
        cases h
        exact absurd rfl h0
      · rw [List.getElem?_set_ne (Ne.symm hj)] at h
        exact ⟨h, fun q => by omega⟩
    · rename_i h2
      refine ⟨h, fun q hq => h2 ?_⟩
      have e : j = i := by omega
      subst e
      have h3 : ∀ {L : List yV} {i : Nat} {a : yV}, L[i]? = some a → yget L i = a := by
        intro L
        induction L with
        | nil => intro i a h; simp at h
        | cons b r ih =>
          intro i a h
          cases i with
          | zero => rw [List.getElem?_cons_zero] at h; cases h; rfl
          | succ i => rw [List.getElem?_cons_succ] at h; exact ih h
      rw [h3 h]
      exact hq
theorem yL.st1 {Z : zZ} {ad : Nat → Nat} {nL : Nat} {ls ls' : Array Slot} {L : List yV} {i : Nat} {a : yV} {v : Value} (h : yL Z ad nL ls L) (hi : i < nL) (ha : yval Z ad a.1 a.2 v)
    (hl : lv_has ls' nL ((i, v) :: (zlv ls).filter (fun q => !(q.1 == i) && !(q.1 + 1 == i && q.2.category == 2)))) : yL Z ad nL ls' ((ykill L i).set i a) := by
  refine ⟨hl.1, by rw [List.length_set, ykill_len]; exact h.2.1, hl.2.1, fun j b hj hb => ?_⟩
  by_cases hji : j = i
  · subst hji
    rw [List.getElem?_set_self (by rw [ykill_len, h.2.1]; exact hi)] at hj
    cases hj
    exact ⟨v, hl.2.2 (j, v) List.mem_cons_self, ha⟩
  · rw [List.getElem?_set_ne (Ne.symm hji)] at hj
    obtain ⟨h1, h2⟩ := ykill_get hj hb
    obtain ⟨w, h3, h4⟩ := h.2.2.2 j b h1 hb
    refine ⟨w, hl.2.2 (j, w) (List.mem_cons_of_mem _ (List.mem_filter.mpr ⟨zlv_mem h3, ?_⟩)), h4⟩
    have n1 : (j == i) = false := by simpa using hji
    have n2 : (j + 1 == i && w.category == 2) = false := by
      by_cases q : j + 1 = i ∧ w.category = 2
      · have hc := ycat_ok h4
        rw [q.2] at hc
        unfold ycat at hc
        split at hc
        · rename_i h5; exact absurd h5 (h2 q.1)
        · omega
      · rcases Classical.not_and_iff_not_or_not.mp q with q | q <;> simp [q]
    show (!(j == i) && !(j + 1 == i && w.category == 2)) = true
    rw [n1, n2]
    rfl
theorem yL.st2 {Z : zZ} {ad : Nat → Nat} {nL : Nat} {ls ls' : Array Slot} {L : List yV} {i : Nat} {a : yV} {v : Value} (h : yL Z ad nL ls L) (hi : i + 1 < nL) (ha : yval Z ad a.1 a.2 v)
    (hl : lv_has ls' nL ((i, v) :: (zlv ls).filter (fun q => !(q.1 == i) && (!(q.1 == i + 1) && !(q.1 + 1 == i && q.2.category == 2))))) : yL Z ad nL ls' (((ykill L i).set (i + 1) (0, 0)).set i a) := by
  refine ⟨hl.1, by rw [List.length_set, List.length_set, ykill_len]; exact h.2.1, hl.2.1, fun j b hj hb => ?_⟩
  by_cases hji : j = i
  · subst hji
    rw [List.getElem?_set_self (by rw [List.length_set, ykill_len, h.2.1]; omega)] at hj
    cases hj
    exact ⟨v, hl.2.2 (j, v) List.mem_cons_self, ha⟩
  · rw [List.getElem?_set_ne (Ne.symm hji)] at hj
    by_cases hj1 : j = i + 1
    · subst hj1
      rw [List.getElem?_set_self (by rw [ykill_len, h.2.1]; exact hi)] at hj
      cases hj
      exact absurd rfl hb
    · rw [List.getElem?_set_ne (Ne.symm hj1)] at hj
      obtain ⟨h1, h2⟩ := ykill_get hj hb
      obtain ⟨w, h3, h4⟩ := h.2.2.2 j b h1 hb
      refine ⟨w, hl.2.2 (j, w) (List.mem_cons_of_mem _ (List.mem_filter.mpr ⟨zlv_mem h3, ?_⟩)), h4⟩
      have n1 : (j == i) = false := by simpa using hji
      have n3 : (j == i + 1) = false := by simpa using hj1
      have n2 : (j + 1 == i && w.category == 2) = false := by
        by_cases q : j + 1 = i ∧ w.category = 2
        · have hc := ycat_ok h4
          rw [q.2] at hc
          unfold ycat at hc
          split at hc
          · rename_i h5; exact absurd h5 (h2 q.1)
          · omega
        · rcases Classical.not_and_iff_not_or_not.mp q with q | q <;> simp [q]
      show (!(j == i) && (!(j == i + 1) && !(j + 1 == i && w.category == 2))) = true
      rw [n1, n2, n3]
      rfl
theorem yofI (x : Int32) : Int32.ofInt x.toInt = x := by
  apply Int32.toInt_inj.mp
  rw [zofI (Int32.le_toInt x) (by have := Int32.toInt_lt x; omega)]
theorem yofL (x : Int64) : Int64.ofInt x.toInt = x := by
  apply Int64.toInt_inj.mp
  rw [zofL (Int64.le_toInt x) (by have := Int64.toInt_lt x; omega)]
section YS
variable {p : Program} {l : Launch} {e : Env} {R : Room} {s : State} {m : MethodId} {args : Array Value} {below : List Frame} {meth : Method} {c : Code} {Q : State → Prop} {cc : ByteArray} {pc ce sl : Nat}
variable {Z : zZ} {D : va_G} {cl : List vw_C} {tys : List (ClassId × FieldType)} {A : Nat → Prop} {ad : Nat → Nat} {H0 : Heap} {nL : Nat}
variable {nx : yNx} {L st : List yV} {g : yM} {len : Nat}
theorem yk_cI {n lo hi : Int} {el : Nat} {v : Int32} (h : yi_c 1 pc nx L st g n lo hi len el) (hv : lo ≤ n → n ≤ hi → v.toInt = n) (row : len = el → ∀ (H : Heap) (locs : List Loc) (ls : Array Slot) (rest : List Value), W p l e R s m args below meth c H locs ce sl Q (F0 m (pc + el) ls (.int v :: rest)) → W p l e R s m args below meth c H locs ce sl Q (F0 m pc ls rest)) (k : ∀ (pc' : Nat) (L' st' : List yV) (g' : yM), nx pc' L' st' g' → yWP (yG Z D cl tys A ad H0 nL) (fun H locs pc ls st => W p l e R s m args below meth c H locs ce sl Q (F0 m pc ls st)) pc' L' st' g') : yWP (yG Z D cl tys A ad H0 nL) (fun H locs pc ls st => W p l e R s m args below meth c H locs ce sl Q (F0 m pc ls st)) pc L st g := by
  obtain ⟨h1, h2⟩ := ybif h
  rw [Bool.and_eq_true, Bool.and_eq_true] at h1
  intro ls stc ws H locs hG
  obtain ⟨hP, hD, hS, hM, hL, hT⟩ := hG
  exact row (ybeq h1.1) H locs ls stc (k _ _ _ _ h2 ls _ ws H locs ⟨hP, hD, hS, hM, hL, yvI (hv (zleI_ok h1.2.1) (zleI_ok h1.2.2)), hT⟩)
theorem yk_cL {n lo hi : Int} {el : Nat} {v : Int64} (h : yi_c 2 pc nx L st g n lo hi len el) (hv : lo ≤ n → n ≤ hi → v.toInt = n) (row : len = el → ∀ (H : Heap) (locs : List Loc) (ls : Array Slot) (rest : List Value), W p l e R s m args below meth c H locs ce sl Q (F0 m (pc + el) ls (.long v :: rest)) → W p l e R s m args below meth c H locs ce sl Q (F0 m pc ls rest)) (k : ∀ (pc' : Nat) (L' st' : List yV) (g' : yM), nx pc' L' st' g' → yWP (yG Z D cl tys A ad H0 nL) (fun H locs pc ls st => W p l e R s m args below meth c H locs ce sl Q (F0 m pc ls st)) pc' L' st' g') : yWP (yG Z D cl tys A ad H0 nL) (fun H locs pc ls st => W p l e R s m args below meth c H locs ce sl Q (F0 m pc ls st)) pc L st g := by
  obtain ⟨h1, h2⟩ := ybif h
  rw [Bool.and_eq_true, Bool.and_eq_true] at h1
  intro ls stc ws H locs hG
  obtain ⟨hP, hD, hS, hM, hL, hT⟩ := hG
  exact row (ybeq h1.1) H locs ls stc (k _ _ _ _ h2 ls _ ws H locs ⟨hP, hD, hS, hM, hL, yvL (hv (zleI_ok h1.2.1) (zleI_ok h1.2.2)), hT⟩)
theorem yk_ldcI {tb : List (Nat × Int)} {idx el : Nat} (h : yi_ldc tb 1 pc nx L st g idx len el) (row : len = el → ∀ q ∈ tb, q.1 = idx → ∃ v : Int32, v.toInt = q.2 ∧ ∀ (H : Heap) (locs : List Loc) (ls : Array Slot) (rest : List Value), W p l e R s m args below meth c H locs ce sl Q (F0 m (pc + el) ls (.int v :: rest)) → W p l e R s m args below meth c H locs ce sl Q (F0 m pc ls rest)) (k : ∀ (pc' : Nat) (L' st' : List yV) (g' : yM), nx pc' L' st' g' → yWP (yG Z D cl tys A ad H0 nL) (fun H locs pc ls st => W p l e R s m args below meth c H locs ce sl Q (F0 m pc ls st)) pc' L' st' g') : yWP (yG Z D cl tys A ad H0 nL) (fun H locs pc ls st => W p l e R s m args below meth c H locs ce sl Q (F0 m pc ls st)) pc L st g := by
  unfold yi_ldc at h
  split at h
  · rename_i f hf
    obtain ⟨h1, h2⟩ := ybif h
    obtain ⟨v, hv, hr⟩ := row (ybeq h1) f (List.mem_of_find?_eq_some hf) (by have := List.find?_some hf; simpa using this)
    intro ls stc ws H locs hG
    obtain ⟨hP, hD, hS, hM, hL, hT⟩ := hG
    exact hr H locs ls stc (k _ _ _ _ h2 ls _ ws H locs ⟨hP, hD, hS, hM, hL, yvI hv, hT⟩)
  · exact h.elim
theorem yk_ldcL {tb : List (Nat × Int)} {idx el : Nat} (h : yi_ldc tb 2 pc nx L st g idx len el) (row : len = el → ∀ q ∈ tb, q.1 = idx → ∃ v : Int64, v.toInt = q.2 ∧ ∀ (H : Heap) (locs : List Loc) (ls : Array Slot) (rest : List Value), W p l e R s m args below meth c H locs ce sl Q (F0 m (pc + el) ls (.long v :: rest)) → W p l e R s m args below meth c H locs ce sl Q (F0 m pc ls rest)) (k : ∀ (pc' : Nat) (L' st' : List yV) (g' : yM), nx pc' L' st' g' → yWP (yG Z D cl tys A ad H0 nL) (fun H locs pc ls st => W p l e R s m args below meth c H locs ce sl Q (F0 m pc ls st)) pc' L' st' g') : yWP (yG Z D cl tys A ad H0 nL) (fun H locs pc ls st => W p l e R s m args below meth c H locs ce sl Q (F0 m pc ls st)) pc L st g := by
  unfold yi_ldc at h
  split at h
  · rename_i f hf
    obtain ⟨h1, h2⟩ := ybif h
    obtain ⟨v, hv, hr⟩ := row (ybeq h1) f (List.mem_of_find?_eq_some hf) (by have := List.find?_some hf; simpa using this)
    intro ls stc ws H locs hG
    obtain ⟨hP, hD, hS, hM, hL, hT⟩ := hG
    exact hr H locs ls stc (k _ _ _ _ h2 ls _ ws H locs ⟨hP, hD, hS, hM, hL, yvL hv, hT⟩)
  · exact h.elim
theorem yk_cell {tb : List (Nat × Nat)} {idx el : Nat} (h : yi_cell tb pc nx L st g idx len el) (row : len = el → ∀ q ∈ tb, q.1 = idx → ∀ (H : Heap) (locs : List Loc) (ls : Array Slot) (rest : List Value), va_S A H0 H locs → W p l e R s m args below meth c H locs ce sl Q (F0 m (pc + el) ls (.ref (ad q.2) :: rest)) → W p l e R s m args below meth c H locs ce sl Q (F0 m pc ls rest)) (k : ∀ (pc' : Nat) (L' st' : List yV) (g' : yM), nx pc' L' st' g' → yWP (yG Z D cl tys A ad H0 nL) (fun H locs pc ls st => W p l e R s m args below meth c H locs ce sl Q (F0 m pc ls st)) pc' L' st' g') : yWP (yG Z D cl tys A ad H0 nL) (fun H locs pc ls st => W p l e R s m args below meth c H locs ce sl Q (F0 m pc ls st)) pc L st g := by
  unfold yi_cell at h
  split at h
  · rename_i f hf
    obtain ⟨h1, h2⟩ := ybif h
    have hr := row (ybeq h1) f (List.mem_of_find?_eq_some hf) (by have := List.find?_some hf; simpa using this)
    intro ls stc ws H locs hG
    obtain ⟨hP, hD, hS, hM, hL, hT⟩ := hG
    exact hr H locs ls stc hS (k _ _ _ _ h2 ls _ ws H locs ⟨hP, hD, hS, hM, hL, yvR rfl, hT⟩)
  · exact h.elim
theorem yk_ldI {i el : Nat} (h : yi_ld 1 pc nx L st g i len el) (row : len = el → ∀ (H : Heap) (locs : List Loc) (ls : Array Slot) (rest : List Value) (x : Int32), ls[i]? = some (.val (.int x)) → W p l e R s m args below meth c H locs ce sl Q (F0 m (pc + el) ls (.int x :: rest)) → W p l e R s m args below meth c H locs ce sl Q (F0 m pc ls rest)) (k : ∀ (pc' : Nat) (L' st' : List yV) (g' : yM), nx pc' L' st' g' → yWP (yG Z D cl tys A ad H0 nL) (fun H locs pc ls st => W p l e R s m args below meth c H locs ce sl Q (F0 m pc ls st)) pc' L' st' g') : yWP (yG Z D cl tys A ad H0 nL) (fun H locs pc ls st => W p l e R s m args below meth c H locs ce sl Q (F0 m pc ls st)) pc L st g := by
  unfold yi_ld at h
  rcases hg : yget L i with ⟨t, z⟩
  rw [hg] at h
  obtain ⟨h1, h2⟩ := ybif h
  rw [Bool.and_eq_true] at h1
  have ht := ybeq h1.2
  subst ht
  intro ls stc ws H locs hG
  obtain ⟨hP, hD, hS, hM, hL, hT⟩ := hG
  obtain ⟨v, g1, g2⟩ := hL.2.2.2 i (1, z) (by rw [← hg]; exact yget_ok (by rw [hg]; simp)) (by simp)
  obtain ⟨x, rfl, g3⟩ := yvI' g2
  exact row (ybeq h1.1) H locs ls stc x g1 (k _ _ _ _ h2 ls _ ws H locs ⟨hP, hD, hS, hM, hL, yvI g3, hT⟩)
theorem yk_ldL {i el : Nat} (h : yi_ld 2 pc nx L st g i len el) (row : len = el → ∀ (H : Heap) (locs : List Loc) (ls : Array Slot) (rest : List Value) (x : Int64), ls[i]? = some (.val (.long x)) → W p l e R s m args below meth c H locs ce sl Q (F0 m (pc + el) ls (.long x :: rest)) → W p l e R s m args below meth c H locs ce sl Q (F0 m pc ls rest)) (k : ∀ (pc' : Nat) (L' st' : List yV) (g' : yM), nx pc' L' st' g' → yWP (yG Z D cl tys A ad H0 nL) (fun H locs pc ls st => W p l e R s m args below meth c H locs ce sl Q (F0 m pc ls st)) pc' L' st' g') : yWP (yG Z D cl tys A ad H0 nL) (fun H locs pc ls st => W p l e R s m args below meth c H locs ce sl Q (F0 m pc ls st)) pc L st g := by
  unfold yi_ld at h
  rcases hg : yget L i with ⟨t, z⟩
  rw [hg] at h
  obtain ⟨h1, h2⟩ := ybif h
  rw [Bool.and_eq_true] at h1
  have ht := ybeq h1.2
  subst ht
  intro ls stc ws H locs hG
  obtain ⟨hP, hD, hS, hM, hL, hT⟩ := hG
  obtain ⟨v, g1, g2⟩ := hL.2.2.2 i (2, z) (by rw [← hg]; exact yget_ok (by rw [hg]; simp)) (by simp)
  obtain ⟨x, rfl, g3⟩ := yvL' g2
  exact row (ybeq h1.1) H locs ls stc x g1 (k _ _ _ _ h2 ls _ ws H locs ⟨hP, hD, hS, hM, hL, yvL g3, hT⟩)
theorem yref {t : Nat} (h : (Nat.beq t 3 || Nat.ble 100 t) = true) : t = 3 ∨ 100 ≤ t := by
  rcases Bool.or_eq_true_iff.mp h with h | h
  · exact Or.inl (ybeq h)
  · exact Or.inr (yble h)
theorem yk_ldA {i el : Nat} (h : yi_ldA pc nx L st g i len el) (row : len = el → ∀ (H : Heap) (locs : List Loc) (ls : Array Slot) (rest : List Value) (x : Nat), ls[i]? = some (.val (.ref x)) → W p l e R s m args below meth c H locs ce sl Q (F0 m (pc + el) ls (.ref x :: rest)) → W p l e R s m args below meth c H locs ce sl Q (F0 m pc ls rest)) (k : ∀ (pc' : Nat) (L' st' : List yV) (g' : yM), nx pc' L' st' g' → yWP (yG Z D cl tys A ad H0 nL) (fun H locs pc ls st => W p l e R s m args below meth c H locs ce sl Q (F0 m pc ls st)) pc' L' st' g') : yWP (yG Z D cl tys A ad H0 nL) (fun H locs pc ls st => W p l e R s m args below meth c H locs ce sl Q (F0 m pc ls st)) pc L st g := by
  unfold yi_ldA at h
  rcases hg : yget L i with ⟨t, z⟩
  rw [hg] at h
  obtain ⟨h1, h2⟩ := ybif h
  rw [Bool.and_eq_true] at h1
  have ht := yref h1.2
  intro ls stc ws H locs hG
  obtain ⟨hP, hD, hS, hM, hL, hT⟩ := hG
  obtain ⟨v, g1, g2⟩ := hL.2.2.2 i (t, z) (by rw [← hg]; exact yget_ok (by rw [hg]; show t ≠ 0; omega)) (by show t ≠ 0; omega)
  have g3 := yvR' g2 ht
  subst g3
  exact row (ybeq h1.1) H locs ls stc _ g1 (k _ _ _ _ h2 ls _ ws H locs ⟨hP, hD, hS, hM, hL, g2, hT⟩)
theorem yk_stI {i el : Nat} (h : yi_st 1 pc nx L st g i len el) (row : len = el → ∀ (H : Heap) (locs : List Loc) (ls : Array Slot) (rest : List Value) (x : Int32), lv_has ls nL (zlv ls) → i < nL → (∀ ls' : Array Slot, lv_has ls' nL ((i, Value.int x) :: (zlv ls).filter (fun q => !(q.1 == i) && !(q.1 + 1 == i && q.2.category == 2))) → W p l e R s m args below meth c H locs ce sl Q (F0 m (pc + el) ls' rest)) → W p l e R s m args below meth c H locs ce sl Q (F0 m pc ls (.int x :: rest))) (k : ∀ (pc' : Nat) (L' st' : List yV) (g' : yM), nx pc' L' st' g' → yWP (yG Z D cl tys A ad H0 nL) (fun H locs pc ls st => W p l e R s m args below meth c H locs ce sl Q (F0 m pc ls st)) pc' L' st' g') : yWP (yG Z D cl tys A ad H0 nL) (fun H locs pc ls st => W p l e R s m args below meth c H locs ce sl Q (F0 m pc ls st)) pc L st g := by
  match st, h with
  | (t, z) :: r, h =>
    obtain ⟨h1, h2⟩ := ybif h
    rw [Bool.and_eq_true] at h1
    have ht := ybeq h1.2
    subst ht
    obtain ⟨h3, h4⟩ := ysetK_ok (ykillK_ok h2)
    intro ls stc ws H locs hG
    obtain ⟨hP, hD, hS, hM, hL, hT⟩ := hG
    match stc, hT with
    | v :: stc, ⟨hv, hT⟩ =>
      obtain ⟨x, rfl, g3⟩ := yvI' hv
      rw [ykill_len, hL.2.1] at h3
      exact row (ybeq h1.1) H locs ls stc x (zlv_has hL.1 hL.2.2.1) h3 (fun ls' hl => k _ _ _ _ h4 ls' _ ws H locs ⟨hP, hD, hS, hM, hL.st1 (a := (1, z)) h3 hv hl, hT⟩)
theorem yk_stA {i el : Nat} (h : yi_stA pc nx L st g i len el) (row : len = el → ∀ (H : Heap) (locs : List Loc) (ls : Array Slot) (rest : List Value) (x : Nat), lv_has ls nL (zlv ls) → i < nL → (∀ ls' : Array Slot, lv_has ls' nL ((i, Value.ref x) :: (zlv ls).filter (fun q => !(q.1 == i) && !(q.1 + 1 == i && q.2.category == 2))) → W p l e R s m args below meth c H locs ce sl Q (F0 m (pc + el) ls' rest)) → W p l e R s m args below meth c H locs ce sl Q (F0 m pc ls (.ref x :: rest))) (k : ∀ (pc' : Nat) (L' st' : List yV) (g' : yM), nx pc' L' st' g' → yWP (yG Z D cl tys A ad H0 nL) (fun H locs pc ls st => W p l e R s m args below meth c H locs ce sl Q (F0 m pc ls st)) pc' L' st' g') : yWP (yG Z D cl tys A ad H0 nL) (fun H locs pc ls st => W p l e R s m args below meth c H locs ce sl Q (F0 m pc ls st)) pc L st g := by
  match st, h with
  | (t, z) :: r, h =>
    obtain ⟨h1, h2⟩ := ybif h
    rw [Bool.and_eq_true] at h1
    have ht := yref h1.2
    obtain ⟨h3, h4⟩ := ysetK_ok (ykillK_ok h2)
    intro ls stc ws H locs hG
    obtain ⟨hP, hD, hS, hM, hL, hT⟩ := hG
    match stc, hT with
    | v :: stc, ⟨hv, hT⟩ =>
      have g3 := yvR' hv ht
      subst g3
      rw [ykill_len, hL.2.1] at h3
      exact row (ybeq h1.1) H locs ls stc _ (zlv_has hL.1 hL.2.2.1) h3 (fun ls' hl => k _ _ _ _ h4 ls' _ ws H locs ⟨hP, hD, hS, hM, hL.st1 (a := (t, z)) h3 hv hl, hT⟩)
theorem yk_stL {i el : Nat} (h : yi_stL pc nx L st g i len el) (row : len = el → ∀ (H : Heap) (locs : List Loc) (ls : Array Slot) (rest : List Value) (x : Int64), lv_has ls nL (zlv ls) → i + 1 < nL → (∀ ls' : Array Slot, lv_has ls' nL ((i, Value.long x) :: (zlv ls).filter (fun q => !(q.1 == i) && (!(q.1 == i + 1) && !(q.1 + 1 == i && q.2.category == 2)))) → W p l e R s m args below meth c H locs ce sl Q (F0 m (pc + el) ls' rest)) → W p l e R s m args below meth c H locs ce sl Q (F0 m pc ls (.long x :: rest))) (k : ∀ (pc' : Nat) (L' st' : List yV) (g' : yM), nx pc' L' st' g' → yWP (yG Z D cl tys A ad H0 nL) (fun H locs pc ls st => W p l e R s m args below meth c H locs ce sl Q (F0 m pc ls st)) pc' L' st' g') : yWP (yG Z D cl tys A ad H0 nL) (fun H locs pc ls st => W p l e R s m args below meth c H locs ce sl Q (F0 m pc ls st)) pc L st g := by
  match st, h with
  | (t, z) :: r, h =>
    obtain ⟨h1, h2⟩ := ybif h
    rw [Bool.and_eq_true] at h1
    have ht := ybeq h1.2
    subst ht
    obtain ⟨h3, h4⟩ := ysetK_ok (ykillK_ok h2)
    obtain ⟨h5, h6⟩ := ysetK_ok h4
    intro ls stc ws H locs hG
    obtain ⟨hP, hD, hS, hM, hL, hT⟩ := hG
    match stc, hT with
    | v :: stc, ⟨hv, hT⟩ =>
      obtain ⟨x, rfl, g3⟩ := yvL' hv
      rw [ykill_len, hL.2.1] at h3
      exact row (ybeq h1.1) H locs ls stc x (zlv_has hL.1 hL.2.2.1) h3 (fun ls' hl => k _ _ _ _ h6 ls' _ ws H locs ⟨hP, hD, hS, hM, hL.st2 (a := (2, z)) h3 hv hl, hT⟩)
theorem yk_iinc (hx : p.tables.exec = Jvm.exec) (hb : c.code = cc) {i : Nat} {d : Int} (h : yi_iinc pc nx L st g i d len) (hd : decode cc pc = .ok (.iinc i d, len)) (k : ∀ (pc' : Nat) (L' st' : List yV) (g' : yM), nx pc' L' st' g' → yWP (yG Z D cl tys A ad H0 nL) (fun H locs pc ls st => W p l e R s m args below meth c H locs ce sl Q (F0 m pc ls st)) pc' L' st' g') : yWP (yG Z D cl tys A ad H0 nL) (fun H locs pc ls st => W p l e R s m args below meth c H locs ce sl Q (F0 m pc ls st)) pc L st g := by
  unfold yi_iinc at h
  rcases hg : yget L i with ⟨t, z⟩
  rw [hg] at h
  obtain ⟨h1, h2⟩ := ybif h
  rw [Bool.and_eq_true, Bool.and_eq_true, Bool.and_eq_true] at h1
  have e3 := ybeq h1.1
  subst e3
  have ht := ybeq h1.2.1
  subst ht
  obtain ⟨h3, h4⟩ := ysetK_ok (ykillK_ok h2)
  intro ls stc ws H locs hG
  obtain ⟨hP, hD, hS, hM, hL, hT⟩ := hG
  obtain ⟨v, g1, g2⟩ := hL.2.2.2 i (1, z) (by rw [← hg]; exact yget_ok (by rw [hg]; simp)) (by simp)
  obtain ⟨x, rfl, g3⟩ := yvI' g2
  obtain ⟨j, hj⟩ := List.getElem?_of_mem (zlv_mem g1)
  rw [ykill_len, hL.2.1] at h3
  refine lv_iinc hx hb hd (zlv_has hL.1 hL.2.2.1) hj rfl h3 rfl (fun ls' hl => ?_)
  have g4 : z = x.toInt := g3.symm
  exact k _ _ _ _ h4 ls' _ ws H locs ⟨hP, hD, hS, hM, hL.st1 (a := (1, yw (z + d))) h3 (yvI (by rw [Int32.toInt_add, zofI (zleI_ok h1.2.2.1) (zleI_ok h1.2.2.2), g4]; rfl)) hl, hT⟩
theorem yk_bin {f : Int → Int → Int} {w : Int32 → Int32 → Int32} (h : yi_bin 1 f pc nx L st g len) (hf : ∀ x y : Int32, (w x y).toInt = f x.toInt y.toInt) (row : len = 1 → ∀ (H : Heap) (locs : List Loc) (ls : Array Slot) (rest : List Value) (x y : Int32), W p l e R s m args below meth c H locs ce sl Q (F0 m (pc + 1) ls (.int (w x y) :: rest)) → W p l e R s m args below meth c H locs ce sl Q (F0 m pc ls (.int y :: .int x :: rest))) (k : ∀ (pc' : Nat) (L' st' : List yV) (g' : yM), nx pc' L' st' g' → yWP (yG Z D cl tys A ad H0 nL) (fun H locs pc ls st => W p l e R s m args below meth c H locs ce sl Q (F0 m pc ls st)) pc' L' st' g') : yWP (yG Z D cl tys A ad H0 nL) (fun H locs pc ls st => W p l e R s m args below meth c H locs ce sl Q (F0 m pc ls st)) pc L st g := by
  match st, h with
  | (t2, y) :: (t1, x) :: r, h =>
    obtain ⟨h1, h2⟩ := ybif h
    rw [Bool.and_eq_true, Bool.and_eq_true] at h1
    have e2 := ybeq h1.2.1
    have e1 := ybeq h1.2.2
    subst e2
    subst e1
    intro ls stc ws H locs hG
    obtain ⟨hP, hD, hS, hM, hL, hT⟩ := hG
    match stc, hT with
    | v2 :: v1 :: stc, ⟨hv2, hv1, hT⟩ =>
      obtain ⟨b, rfl, g2⟩ := yvI' hv2
      obtain ⟨a, rfl, g1⟩ := yvI' hv1
      have g2 : b.toInt = y := g2
      have g1 : a.toInt = x := g1
      exact row (ybeq h1.1) H locs ls stc a b (k _ _ _ _ h2 ls _ ws H locs ⟨hP, hD, hS, hM, hL, yvI (by rw [hf, g1, g2]), hT⟩)
theorem yk_binL {f : Int → Int → Int} {w : Int64 → Int64 → Int64} (h : yi_bin 2 f pc nx L st g len) (hf : ∀ x y : Int64, (w x y).toInt = f x.toInt y.toInt) (row : len = 1 → ∀ (H : Heap) (locs : List Loc) (ls : Array Slot) (rest : List Value) (x y : Int64), W p l e R s m args below meth c H locs ce sl Q (F0 m (pc + 1) ls (.long (w x y) :: rest)) → W p l e R s m args below meth c H locs ce sl Q (F0 m pc ls (.long y :: .long x :: rest))) (k : ∀ (pc' : Nat) (L' st' : List yV) (g' : yM), nx pc' L' st' g' → yWP (yG Z D cl tys A ad H0 nL) (fun H locs pc ls st => W p l e R s m args below meth c H locs ce sl Q (F0 m pc ls st)) pc' L' st' g') : yWP (yG Z D cl tys A ad H0 nL) (fun H locs pc ls st => W p l e R s m args below meth c H locs ce sl Q (F0 m pc ls st)) pc L st g := by
  match st, h with
  | (t2, y) :: (t1, x) :: r, h =>
    obtain ⟨h1, h2⟩ := ybif h
    rw [Bool.and_eq_true, Bool.and_eq_true] at h1
    have e2 := ybeq h1.2.1
    have e1 := ybeq h1.2.2
    subst e2
    subst e1
    intro ls stc ws H locs hG
    obtain ⟨hP, hD, hS, hM, hL, hT⟩ := hG
    match stc, hT with
    | v2 :: v1 :: stc, ⟨hv2, hv1, hT⟩ =>
      obtain ⟨b, rfl, g2⟩ := yvL' hv2
      obtain ⟨a, rfl, g1⟩ := yvL' hv1
      have g2 : b.toInt = y := g2
      have g1 : a.toInt = x := g1
      exact row (ybeq h1.1) H locs ls stc a b (k _ _ _ _ h2 ls _ ws H locs ⟨hP, hD, hS, hM, hL, yvL (by rw [hf, g1, g2]), hT⟩)
theorem yk_shL {f : Int → Int → Int} {w : Int64 → Int32 → Int64} (h : yi_shL f pc nx L st g len) (hf : ∀ (x : Int64) (y : Int32), (w x y).toInt = f x.toInt y.toInt) (row : len = 1 → ∀ (H : Heap) (locs : List Loc) (ls : Array Slot) (rest : List Value) (x : Int64) (y : Int32), W p l e R s m args below meth c H locs ce sl Q (F0 m (pc + 1) ls (.long (w x y) :: rest)) → W p l e R s m args below meth c H locs ce sl Q (F0 m pc ls (.int y :: .long x :: rest))) (k : ∀ (pc' : Nat) (L' st' : List yV) (g' : yM), nx pc' L' st' g' → yWP (yG Z D cl tys A ad H0 nL) (fun H locs pc ls st => W p l e R s m args below meth c H locs ce sl Q (F0 m pc ls st)) pc' L' st' g') : yWP (yG Z D cl tys A ad H0 nL) (fun H locs pc ls st => W p l e R s m args below meth c H locs ce sl Q (F0 m pc ls st)) pc L st g := by
  match st, h with
  | (t2, y) :: (t1, x) :: r, h =>
    obtain ⟨h1, h2⟩ := ybif h
    rw [Bool.and_eq_true, Bool.and_eq_true] at h1
    have e2 := ybeq h1.2.1
    have e1 := ybeq h1.2.2
    subst e2
    subst e1
    intro ls stc ws H locs hG
    obtain ⟨hP, hD, hS, hM, hL, hT⟩ := hG
    match stc, hT with
    | v2 :: v1 :: stc, ⟨hv2, hv1, hT⟩ =>
      obtain ⟨b, rfl, g2⟩ := yvI' hv2
      obtain ⟨a, rfl, g1⟩ := yvL' hv1
      have g2 : b.toInt = y := g2
      have g1 : a.toInt = x := g1
      exact row (ybeq h1.1) H locs ls stc a b (k _ _ _ _ h2 ls _ ws H locs ⟨hP, hD, hS, hM, hL, yvL (by rw [hf, g1, g2]), hT⟩)
theorem yk_dr {f : Int → Int → Int} {w : Int32 → Int32 → Int32} (h : yi_dr f pc nx L st g len) (hf : ∀ x y : Int32, (w x y).toInt = f x.toInt y.toInt) (row : len = 1 → ∀ (H : Heap) (locs : List Loc) (ls : Array Slot) (rest : List Value) (x y : Int32), ¬ y = 0 → W p l e R s m args below meth c H locs ce sl Q (F0 m (pc + 1) ls (.int (w x y) :: rest)) → W p l e R s m args below meth c H locs ce sl Q (F0 m pc ls (.int y :: .int x :: rest))) (k : ∀ (pc' : Nat) (L' st' : List yV) (g' : yM), nx pc' L' st' g' → yWP (yG Z D cl tys A ad H0 nL) (fun H locs pc ls st => W p l e R s m args below meth c H locs ce sl Q (F0 m pc ls st)) pc' L' st' g') : yWP (yG Z D cl tys A ad H0 nL) (fun H locs pc ls st => W p l e R s m args below meth c H locs ce sl Q (F0 m pc ls st)) pc L st g := by
  match st, h with
  | (t2, y) :: (t1, x) :: r, h =>
    obtain ⟨h1, h0, h2⟩ := ybif h
    rw [Bool.and_eq_true, Bool.and_eq_true] at h1
    have e2 := ybeq h1.2.1
    have e1 := ybeq h1.2.2
    subst e2
    subst e1
    intro ls stc ws H locs hG
    obtain ⟨hP, hD, hS, hM, hL, hT⟩ := hG
    match stc, hT with
    | v2 :: v1 :: stc, ⟨hv2, hv1, hT⟩ =>
      obtain ⟨b, rfl, g2⟩ := yvI' hv2
      obtain ⟨a, rfl, g1⟩ := yvI' hv1
      have g2 : b.toInt = y := g2
      have g1 : a.toInt = x := g1
      exact row (ybeq h1.1) H locs ls stc a b (fun q => h0 (by rw [← g2, q]; rfl)) (k _ _ _ _ h2 ls _ ws H locs ⟨hP, hD, hS, hM, hL, yvI (by rw [hf, g1, g2]), hT⟩)
theorem yk_una {f : Int → Int} {w : Int32 → Int32} (h : yi_una 1 1 f pc nx L st g len) (hf : ∀ x : Int32, (w x).toInt = f x.toInt) (row : len = 1 → ∀ (H : Heap) (locs : List Loc) (ls : Array Slot) (rest : List Value) (x : Int32), W p l e R s m args below meth c H locs ce sl Q (F0 m (pc + 1) ls (.int (w x) :: rest)) → W p l e R s m args below meth c H locs ce sl Q (F0 m pc ls (.int x :: rest))) (k : ∀ (pc' : Nat) (L' st' : List yV) (g' : yM), nx pc' L' st' g' → yWP (yG Z D cl tys A ad H0 nL) (fun H locs pc ls st => W p l e R s m args below meth c H locs ce sl Q (F0 m pc ls st)) pc' L' st' g') : yWP (yG Z D cl tys A ad H0 nL) (fun H locs pc ls st => W p l e R s m args below meth c H locs ce sl Q (F0 m pc ls st)) pc L st g := by
  match st, h with
  | (t1, x) :: r, h =>
    obtain ⟨h1, h2⟩ := ybif h
    rw [Bool.and_eq_true] at h1
    have e1 := ybeq h1.2
    subst e1
    intro ls stc ws H locs hG
    obtain ⟨hP, hD, hS, hM, hL, hT⟩ := hG
    match stc, hT with
    | v1 :: stc, ⟨hv1, hT⟩ =>
      obtain ⟨a, rfl, g1⟩ := yvI' hv1
      have g1 : a.toInt = x := g1
      exact row (ybeq h1.1) H locs ls stc a (k _ _ _ _ h2 ls _ ws H locs ⟨hP, hD, hS, hM, hL, yvI (by rw [hf, g1]), hT⟩)
theorem yk_i2l (hx : p.tables.exec = Jvm.exec) (hb : c.code = cc) (h : yi_una 1 2 (fun x => x) pc nx L st g len) (hd : decode cc pc = .ok (.i2l, len)) (k : ∀ (pc' : Nat) (L' st' : List yV) (g' : yM), nx pc' L' st' g' → yWP (yG Z D cl tys A ad H0 nL) (fun H locs pc ls st => W p l e R s m args below meth c H locs ce sl Q (F0 m pc ls st)) pc' L' st' g') : yWP (yG Z D cl tys A ad H0 nL) (fun H locs pc ls st => W p l e R s m args below meth c H locs ce sl Q (F0 m pc ls st)) pc L st g := by
  match st, h with
  | (t1, x) :: r, h =>
    obtain ⟨h1, h2⟩ := ybif h
    rw [Bool.and_eq_true] at h1
    have e1 := ybeq h1.2
    subst e1
    have e3 := ybeq h1.1
    subst e3
    intro ls stc ws H locs hG
    obtain ⟨hP, hD, hS, hM, hL, hT⟩ := hG
    match stc, hT with
    | v1 :: stc, ⟨hv1, hT⟩ =>
      obtain ⟨a, rfl, g1⟩ := yvI' hv1
      exact lv_i2l hx hb hd rfl (k _ _ _ _ h2 ls _ ws H locs ⟨hP, hD, hS, hM, hL, yvL (by rw [Int32.toInt_toInt64]; exact g1), hT⟩)
theorem yk_l2i (hx : p.tables.exec = Jvm.exec) (hb : c.code = cc) (h : yi_una 2 1 yw pc nx L st g len) (hd : decode cc pc = .ok (.l2i, len)) (k : ∀ (pc' : Nat) (L' st' : List yV) (g' : yM), nx pc' L' st' g' → yWP (yG Z D cl tys A ad H0 nL) (fun H locs pc ls st => W p l e R s m args below meth c H locs ce sl Q (F0 m pc ls st)) pc' L' st' g') : yWP (yG Z D cl tys A ad H0 nL) (fun H locs pc ls st => W p l e R s m args below meth c H locs ce sl Q (F0 m pc ls st)) pc L st g := by
  match st, h with
  | (t1, x) :: r, h =>
    obtain ⟨h1, h2⟩ := ybif h
    rw [Bool.and_eq_true] at h1
    have e1 := ybeq h1.2
    subst e1
    have e3 := ybeq h1.1
    subst e3
    intro ls stc ws H locs hG
    obtain ⟨hP, hD, hS, hM, hL, hT⟩ := hG
    match stc, hT with
    | v1 :: stc, ⟨hv1, hT⟩ =>
      obtain ⟨a, rfl, g1⟩ := yvL' hv1
      have g1 : a.toInt = x := g1
      exact lv_l2i hx hb hd rfl (k _ _ _ _ h2 ls _ ws H locs ⟨hP, hD, hS, hM, hL, yvI (by rw [Int64.toInt_toInt32, g1]; rfl), hT⟩)
theorem ycmp_ok (x y : Int64) : (lg_cmp x y).toInt = ycmp x.toInt y.toInt := by
  unfold lg_cmp ycmp
  by_cases h : y < x
  · have h1 := Int64.lt_iff_toInt_lt.mp h
    rw [if_pos h, if_neg (by omega), if_neg (by omega)]
    rfl
  · have h1 : ¬ y.toInt < x.toInt := fun q => h (Int64.lt_iff_toInt_lt.mpr q)
    rw [if_neg h]
    by_cases e : x = y
    · subst e
      rw [if_pos rfl, if_neg (by omega), if_pos rfl]
      rfl
    · have e1 : ¬ x.toInt = y.toInt := fun q => e (Int64.toInt_inj.mp q)
      rw [if_neg e, if_pos (by omega)]
      rfl
theorem yk_lcmp (hx : p.tables.exec = Jvm.exec) (hb : c.code = cc) (h : yi_lcmp pc nx L st g len) (hd : decode cc pc = .ok (.lcmp, len)) (k : ∀ (pc' : Nat) (L' st' : List yV) (g' : yM), nx pc' L' st' g' → yWP (yG Z D cl tys A ad H0 nL) (fun H locs pc ls st => W p l e R s m args below meth c H locs ce sl Q (F0 m pc ls st)) pc' L' st' g') : yWP (yG Z D cl tys A ad H0 nL) (fun H locs pc ls st => W p l e R s m args below meth c H locs ce sl Q (F0 m pc ls st)) pc L st g := by
  match st, h with
  | (t2, y) :: (t1, x) :: r, h =>
    obtain ⟨h1, h2⟩ := ybif h
    rw [Bool.and_eq_true, Bool.and_eq_true] at h1
    have e2 := ybeq h1.2.1
    have e1 := ybeq h1.2.2
    subst e2
    subst e1
    have e3 := ybeq h1.1
    subst e3
    intro ls stc ws H locs hG
    obtain ⟨hP, hD, hS, hM, hL, hT⟩ := hG
    match stc, hT with
    | v2 :: v1 :: stc, ⟨hv2, hv1, hT⟩ =>
      obtain ⟨b, rfl, g2⟩ := yvL' hv2
      obtain ⟨a, rfl, g1⟩ := yvL' hv1
      have g2 : b.toInt = y := g2
      have g1 : a.toInt = x := g1
      exact W.lcmp hx hb hd (k _ _ _ _ h2 ls _ ws H locs ⟨hP, hD, hS, hM, hL, yvI (by rw [ycmp_ok, g1, g2]), hT⟩)
theorem ycat1 {t : Nat} {z : Int} {v : Value} (hv : yval Z ad t z v) (h : (Nat.beq t 1 || (Nat.beq t 3 || Nat.ble 100 t)) = true) : v.category = 1 := by
  rw [ycat_ok (a := (t, z)) hv]
  have : t ≠ 2 := by
    rcases Bool.or_eq_true_iff.mp h with h | h
    · have := ybeq h; omega
    · rcases yref h with h | h <;> omega
  simp [ycat, this]
theorem yk_dup (hx : p.tables.exec = Jvm.exec) (hb : c.code = cc) (h : yi_dup pc nx L st g len) (hd : decode cc pc = .ok (.dup, len)) (k : ∀ (pc' : Nat) (L' st' : List yV) (g' : yM), nx pc' L' st' g' → yWP (yG Z D cl tys A ad H0 nL) (fun H locs pc ls st => W p l e R s m args below meth c H locs ce sl Q (F0 m pc ls st)) pc' L' st' g') : yWP (yG Z D cl tys A ad H0 nL) (fun H locs pc ls st => W p l e R s m args below meth c H locs ce sl Q (F0 m pc ls st)) pc L st g := by
  match st, h with
  | (t1, x) :: r, h =>
    obtain ⟨h1, h2⟩ := ybif h
    rw [Bool.and_eq_true] at h1
    have e3 := ybeq h1.1
    subst e3
    intro ls stc ws H locs hG
    obtain ⟨hP, hD, hS, hM, hL, hT⟩ := hG
    match stc, hT with
    | v1 :: stc, ⟨hv1, hT⟩ => exact lv_dup hx hb hd (ycat1 hv1 h1.2) (k _ _ _ _ h2 ls _ ws H locs ⟨hP, hD, hS, hM, hL, hv1, hv1, hT⟩)
theorem yk_pop (hx : p.tables.exec = Jvm.exec) (hb : c.code = cc) (h : yi_pop pc nx L st g len) (hd : decode cc pc = .ok (.pop, len)) (k : ∀ (pc' : Nat) (L' st' : List yV) (g' : yM), nx pc' L' st' g' → yWP (yG Z D cl tys A ad H0 nL) (fun H locs pc ls st => W p l e R s m args below meth c H locs ce sl Q (F0 m pc ls st)) pc' L' st' g') : yWP (yG Z D cl tys A ad H0 nL) (fun H locs pc ls st => W p l e R s m args below meth c H locs ce sl Q (F0 m pc ls st)) pc L st g := by
  match st, h with
  | (t1, x) :: r, h =>
    obtain ⟨h1, h2⟩ := ybif h
    rw [Bool.and_eq_true] at h1
    have e3 := ybeq h1.1
    subst e3
    intro ls stc ws H locs hG
    obtain ⟨hP, hD, hS, hM, hL, hT⟩ := hG
    match stc, hT with
    | v1 :: stc, ⟨hv1, hT⟩ => exact lv_pop hx hb hd (ycat1 hv1 h1.2) (k _ _ _ _ h2 ls _ ws H locs ⟨hP, hD, hS, hM, hL, hT⟩)
theorem yk_pop2 (hx : p.tables.exec = Jvm.exec) (hb : c.code = cc) (h : yi_pop2 pc nx L st g len) (hd : decode cc pc = .ok (.pop2, len)) (k : ∀ (pc' : Nat) (L' st' : List yV) (g' : yM), nx pc' L' st' g' → yWP (yG Z D cl tys A ad H0 nL) (fun H locs pc ls st => W p l e R s m args below meth c H locs ce sl Q (F0 m pc ls st)) pc' L' st' g') : yWP (yG Z D cl tys A ad H0 nL) (fun H locs pc ls st => W p l e R s m args below meth c H locs ce sl Q (F0 m pc ls st)) pc L st g := by
  match st, h with
  | (t1, x) :: r, h =>
    obtain ⟨h1, h2⟩ := ybif h
    rw [Bool.and_eq_true] at h1
    have e3 := ybeq h1.1
    subst e3
    have e1 := ybeq h1.2
    subst e1
    intro ls stc ws H locs hG
    obtain ⟨hP, hD, hS, hM, hL, hT⟩ := hG
    match stc, hT with
    | v1 :: stc, ⟨hv1, hT⟩ =>
      obtain ⟨y, rfl, -⟩ := yvL' hv1
      exact lv_pop2_2 hx hb hd rfl (k _ _ _ _ h2 ls _ ws H locs ⟨hP, hD, hS, hM, hL, hT⟩)
theorem yjmp_ok {off : Int} {kk : Nat → Prop} (h : yjmp pc off kk) : ∃ t : Nat, (pc : Int) + off = (t : Int) ∧ kk t := by
  obtain ⟨h1, h2⟩ := ybif h
  have := zleI_ok h1
  exact ⟨_, (Int.toNat_of_nonneg this).symm, h2⟩
theorem yk_goto (hx : p.tables.exec = Jvm.exec) (hb : c.code = cc) {off : Int} (h : yi_goto pc nx L st g off len) (hd : decode cc pc = .ok (.goto off, len)) (k : ∀ (pc' : Nat) (L' st' : List yV) (g' : yM), nx pc' L' st' g' → yWP (yG Z D cl tys A ad H0 nL) (fun H locs pc ls st => W p l e R s m args below meth c H locs ce sl Q (F0 m pc ls st)) pc' L' st' g') : yWP (yG Z D cl tys A ad H0 nL) (fun H locs pc ls st => W p l e R s m args below meth c H locs ce sl Q (F0 m pc ls st)) pc L st g := by
  obtain ⟨h1, h2⟩ := ybif h
  have e3 := ybeq h1
  subst e3
  obtain ⟨t, h3, h4⟩ := yjmp_ok h2
  intro ls stc ws H locs hG
  exact lv_goto hx hb hd h3 (k _ _ _ _ h4 ls stc ws H locs hG)
theorem yk_icmp {cn : Int → Int → Prop} {off : Int} {P : Int32 → Int32 → Prop} (h : yi_icmp cn pc nx L st g off len) (hP : ∀ x y : Int32, P x y ↔ cn x.toInt y.toInt)
    (row : len = 3 → ∀ (tgt : Nat), (pc : Int) + off = (tgt : Int) → ∀ (H : Heap) (locs : List Loc) (ls : Array Slot) (rest : List Value) (x y : Int32), (P x y → W p l e R s m args below meth c H locs ce sl Q (F0 m tgt ls rest)) → (¬ P x y → W p l e R s m args below meth c H locs ce sl Q (F0 m (pc + 3) ls rest)) → W p l e R s m args below meth c H locs ce sl Q (F0 m pc ls (.int y :: .int x :: rest))) (k : ∀ (pc' : Nat) (L' st' : List yV) (g' : yM), nx pc' L' st' g' → yWP (yG Z D cl tys A ad H0 nL) (fun H locs pc ls st => W p l e R s m args below meth c H locs ce sl Q (F0 m pc ls st)) pc' L' st' g') : yWP (yG Z D cl tys A ad H0 nL) (fun H locs pc ls st => W p l e R s m args below meth c H locs ce sl Q (F0 m pc ls st)) pc L st g := by
  match st, h with
  | (t2, y) :: (t1, x) :: r, h =>
    obtain ⟨h1, h2⟩ := ybif h
    rw [Bool.and_eq_true, Bool.and_eq_true] at h1
    have e2 := ybeq h1.2.1
    have e1 := ybeq h1.2.2
    subst e2
    subst e1
    obtain ⟨t, h3, h4, h5⟩ := yjmp_ok h2
    intro ls stc ws H locs hG
    obtain ⟨hPp, hD, hS, hM, hL, hT⟩ := hG
    match stc, hT with
    | v2 :: v1 :: stc, ⟨hv2, hv1, hT⟩ =>
      obtain ⟨b, rfl, g2⟩ := yvI' hv2
      obtain ⟨a, rfl, g1⟩ := yvI' hv1
      have g2 : b.toInt = y := g2
      have g1 : a.toInt = x := g1
      have hp := hP a b
      rw [g1, g2] at hp
      exact row (ybeq h1.1) t h3 H locs ls stc a b (fun q => k _ _ _ _ (h4 (hp.mp q)) ls stc ws H locs ⟨hPp, hD, hS, hM, hL, hT⟩) (fun q => k _ _ _ _ (h5 (fun z => q (hp.mpr z))) ls stc ws H locs ⟨hPp, hD, hS, hM, hL, hT⟩)
theorem yk_if {cn : Int → Int → Prop} {off : Int} {P : Int32 → Prop} (h : yi_if cn pc nx L st g off len) (hP : ∀ x : Int32, P x ↔ cn x.toInt 0)
    (row : len = 3 → ∀ (tgt : Nat), (pc : Int) + off = (tgt : Int) → ∀ (H : Heap) (locs : List Loc) (ls : Array Slot) (rest : List Value) (x : Int32), (P x → W p l e R s m args below meth c H locs ce sl Q (F0 m tgt ls rest)) → (¬ P x → W p l e R s m args below meth c H locs ce sl Q (F0 m (pc + 3) ls rest)) → W p l e R s m args below meth c H locs ce sl Q (F0 m pc ls (.int x :: rest))) (k : ∀ (pc' : Nat) (L' st' : List yV) (g' : yM), nx pc' L' st' g' → yWP (yG Z D cl tys A ad H0 nL) (fun H locs pc ls st => W p l e R s m args below meth c H locs ce sl Q (F0 m pc ls st)) pc' L' st' g') : yWP (yG Z D cl tys A ad H0 nL) (fun H locs pc ls st => W p l e R s m args below meth c H locs ce sl Q (F0 m pc ls st)) pc L st g := by
  match st, h with
  | (t1, x) :: r, h =>
    obtain ⟨h1, h2⟩ := ybif h
    rw [Bool.and_eq_true] at h1
    have e1 := ybeq h1.2
    subst e1
    obtain ⟨t, h3, h4, h5⟩ := yjmp_ok h2
    intro ls stc ws H locs hG
    obtain ⟨hPp, hD, hS, hM, hL, hT⟩ := hG
    match stc, hT with
    | v1 :: stc, ⟨hv1, hT⟩ =>
      obtain ⟨a, rfl, g1⟩ := yvI' hv1
      have g1 : a.toInt = x := g1
      have hp := hP a
      rw [g1] at hp
      exact row (ybeq h1.1) t h3 H locs ls stc a (fun q => k _ _ _ _ (h4 (hp.mp q)) ls stc ws H locs ⟨hPp, hD, hS, hM, hL, hT⟩) (fun q => k _ _ _ _ (h5 (fun z => q (hp.mpr z))) ls stc ws H locs ⟨hPp, hD, hS, hM, hL, hT⟩)
theorem yi_sw_ok {r : List yV} {x : Int} : ∀ {offs : List Int} {lo : Int}, yi_sw pc nx L r g x lo offs → ∀ (i : Nat) (off : Int), offs[i]? = some off → x = lo + i → ∃ t : Nat, (pc : Int) + off = (t : Int) ∧ nx t L r g
  | o :: os, lo, h, 0, off, h1, h2 => by
    rw [List.getElem?_cons_zero] at h1
    cases h1
    obtain ⟨t, h3, h4⟩ := yjmp_ok h.1
    exact ⟨t, h3, h4 (by omega)⟩
  | o :: os, lo, h, i + 1, off, h1, h2 => by
    rw [List.getElem?_cons_succ] at h1
    exact yi_sw_ok h.2 i off h1 (by omega)
theorem yk_tsw (hx : p.tables.exec = Jvm.exec) (hb : c.code = cc) {d lo hi : Int} {offs : Array Int} (h : yi_tsw pc nx L st g d lo hi offs.toList) (hd : decode cc pc = .ok (.tableswitch d lo hi offs, len)) (k : ∀ (pc' : Nat) (L' st' : List yV) (g' : yM), nx pc' L' st' g' → yWP (yG Z D cl tys A ad H0 nL) (fun H locs pc ls st => W p l e R s m args below meth c H locs ce sl Q (F0 m pc ls st)) pc' L' st' g') : yWP (yG Z D cl tys A ad H0 nL) (fun H locs pc ls st => W p l e R s m args below meth c H locs ce sl Q (F0 m pc ls st)) pc L st g := by
  match st, h with
  | (t1, x) :: r, h =>
    obtain ⟨h1, hsz, h2, h3⟩ := ybif h
    have e1 := ybeq h1
    subst e1
    obtain ⟨dt, h4, h5⟩ := yjmp_ok h2
    intro ls stc ws H locs hG
    obtain ⟨hPp, hD, hS, hM, hL, hT⟩ := hG
    match stc, hT with
    | v1 :: stc, ⟨hv1, hT⟩ =>
      obtain ⟨a, rfl, g1⟩ := yvI' hv1
      have g1 : a.toInt = x := g1
      by_cases hlo : a.toInt < lo
      · exact lv_tableOut hx hb hd (Or.inl hlo) h4 (k _ _ _ _ (h5 (Or.inl (by omega))) ls _ ws H locs ⟨hPp, hD, hS, hM, hL, hT⟩)
      · by_cases hhi : hi < a.toInt
        · exact lv_tableOut hx hb hd (Or.inr hhi) h4 (k _ _ _ _ (h5 (Or.inr (by omega))) ls _ ws H locs ⟨hPp, hD, hS, hM, hL, hT⟩)
        · have hl : (a.toInt - lo).toNat < offs.toList.length := by omega
          have ho : offs.toList[(a.toInt - lo).toNat]? = some (offs.toList[(a.toInt - lo).toNat]) := List.getElem?_eq_getElem hl
          obtain ⟨t, h6, h7⟩ := yi_sw_ok h3 _ _ ho (by omega)
          rw [Array.getElem?_toList] at ho
          exact lv_tableIn hx hb hd hlo hhi ho h6 (k _ _ _ _ h7 ls _ ws H locs ⟨hPp, hD, hS, hM, hL, hT⟩)
theorem yi_ls_ok {r : List yV} {x : Int} : ∀ {ps : List (Int × Int)}, yi_ls pc nx L r g x ps → ∀ q ∈ ps, x = q.1 → ∃ t : Nat, (pc : Int) + q.2 = (t : Int) ∧ nx t L r g
  | o :: os, h, q, hq, hx => by
    rcases List.mem_cons.mp hq with rfl | hq
    · obtain ⟨t, h3, h4⟩ := yjmp_ok h.1
      exact ⟨t, h3, h4 hx⟩
    · exact yi_ls_ok h.2 q hq hx
theorem yk_lsw (hx : p.tables.exec = Jvm.exec) (hb : c.code = cc) {d : Int} {ps : Array (Int × Int)} (h : yi_lsw pc nx L st g d ps.toList) (hd : decode cc pc = .ok (.lookupswitch d ps, len)) (k : ∀ (pc' : Nat) (L' st' : List yV) (g' : yM), nx pc' L' st' g' → yWP (yG Z D cl tys A ad H0 nL) (fun H locs pc ls st => W p l e R s m args below meth c H locs ce sl Q (F0 m pc ls st)) pc' L' st' g') : yWP (yG Z D cl tys A ad H0 nL) (fun H locs pc ls st => W p l e R s m args below meth c H locs ce sl Q (F0 m pc ls st)) pc L st g := by
  match st, h with
  | (t1, x) :: r, h =>
    obtain ⟨h1, h2, h3⟩ := ybif h
    rw [Bool.and_eq_true] at h1
    have e1 := ybeq h1.1
    subst e1
    obtain ⟨dt, h4, h5⟩ := yjmp_ok h2
    intro ls stc ws H locs hG
    obtain ⟨hPp, hD, hS, hM, hL, hT⟩ := hG
    match stc, hT with
    | v1 :: stc, ⟨hv1, hT⟩ =>
      obtain ⟨a, rfl, g1⟩ := yvI' hv1
      have g1 : a.toInt = x := g1
      rcases zlk_off d a.toInt ps.toList with ⟨u1, u2⟩ | ⟨q, u1, u2, u3⟩
      · exact lv_lookup hx hb hd h1.2 u1 h4 (k _ _ _ _ (h5 (fun q hq => by rw [← g1]; exact u2 q hq)) ls _ ws H locs ⟨hPp, hD, hS, hM, hL, hT⟩)
      · obtain ⟨t, h6, h7⟩ := yi_ls_ok h3 q u1 (by rw [← g1]; exact u2.symm)
        exact lv_lookup hx hb hd h1.2 u3 h6 (k _ _ _ _ h7 ls _ ws H locs ⟨hPp, hD, hS, hM, hL, hT⟩)
end YS
end
section
/-! FIELDS, ARRAYS, CALLS OF THE PURE MACHINE -/
theorem yrng_ok : ∀ {es : List (Nat × Nat × zCT)} {b n i e : Nat}, yrng es b n i = some e → i ≤ e ∧ ∃ x, es[e - i]? = some x ∧ x.1 = b ∧ b + n ≤ x.2.1 + 1
  | [], _, _, _, _, h => by cases h
  | y :: r, b, n, i, e, h => by
    unfold yrng at h
    cases hb : (Nat.beq y.1 b && Nat.ble (b + n) (y.2.1 + 1)) with
    | true =>
      rw [hb] at h
      cases h
      rw [Bool.and_eq_true] at hb
      exact ⟨Nat.le_refl _, y, by rw [Nat.sub_self]; rfl, ybeq hb.1, yble hb.2⟩
    | false =>
      rw [hb] at h
      obtain ⟨h1, x, h2, h3⟩ := yrng_ok (es := r) h
      refine ⟨by omega, x, ?_, h3⟩
      rw [show e - i = (e - (i + 1)) + 1 by omega, List.getElem?_cons_succ]
      exact h2
theorem yS.split {Z : zZ} {ad : Nat → Nat} : ∀ {as bs : List yV} {vs : List Value}, yS Z ad (as ++ bs) vs → ∃ v1 v2, vs = v1 ++ v2 ∧ yS Z ad as v1 ∧ yS Z ad bs v2
  | [], bs, vs, h => ⟨[], vs, rfl, trivial, h⟩
  | a :: as, bs, v :: vs, h => by
    obtain ⟨v1, v2, e, h1, h2⟩ := yS.split (as := as) h.2
    exact ⟨v :: v1, v2, by rw [e]; rfl, ⟨h.1, h1⟩, h2⟩
theorem yS.app {Z : zZ} {ad : Nat → Nat} : ∀ {as bs : List yV} {vs us : List Value}, yS Z ad as vs → yS Z ad bs us → yS Z ad (as ++ bs) (vs ++ us)
  | [], _, [], _, _, h => h
  | _ :: _, _, _ :: _, _, h1, h => ⟨h1.1, h1.2.app h⟩
theorem yS.rev {Z : zZ} {ad : Nat → Nat} : ∀ {as : List yV} {vs : List Value}, yS Z ad as vs → yS Z ad as.reverse vs.reverse
  | [], [], _ => trivial
  | a :: as, v :: vs, h => by
    rw [List.reverse_cons, List.reverse_cons]
    exact h.2.rev.app ⟨h.1, trivial⟩
theorem yS.len {Z : zZ} {ad : Nat → Nat} : ∀ {as : List yV} {vs : List Value}, yS Z ad as vs → as.length = vs.length
  | [], [], _ => rfl
  | _ :: _, _ :: _, h => by simp [h.2.len]
theorem yS.cats {Z : zZ} {ad : Nat → Nat} : ∀ {as : List yV} {vs : List Value}, yS Z ad as vs → (vs.map fun v => v.category).sum = (as.map ycat).sum
  | [], [], _ => rfl
  | a :: as, v :: vs, h => by rw [List.map_cons, List.map_cons, List.sum_cons, List.sum_cons, h.2.cats, ycat_ok h.1]
theorem ytake_ok : ∀ {n : Nat} {st acc : List yV} {k : List yV → List yV → Prop}, ytake n st acc k → ∃ a r, st = a ++ r ∧ a.length = n ∧ k (a.reverse ++ acc) r
  | 0, r, acc, k, h => ⟨[], r, rfl, rfl, by unfold ytake at h; exact h⟩
  | n + 1, [], acc, k, h => by unfold ytake at h; exact h.elim
  | n + 1, b :: r, acc, k, h => by
    unfold ytake at h
    obtain ⟨a, r', h1, h2, h3⟩ := ytake_ok (n := n) h
    exact ⟨b :: a, r', by rw [h1]; rfl, by simp [h2], by rw [List.reverse_cons, List.append_assoc]; exact h3⟩
/-- arguments as locals -/
theorem ylay_ok {Z : zZ} {ad : Nat → Nat} : ∀ {avs : List yV} {As : List Value}, yS Z ad avs As → (ylay avs).length = (lg_sl As).length ∧ ∀ (i b : Nat) (a : yV), (ylay avs)[i]? = some a → a.1 ≠ 0 → ∃ v, (b + i, v) ∈ lv_args b As ∧ yval Z ad a.1 a.2 v
  | [], [], _ => ⟨rfl, fun i b a h => by simp [ylay] at h⟩
  | a0 :: avs, v0 :: As, h => by
    obtain ⟨e1, e2⟩ := ylay_ok h.2
    have hc := ycat_ok h.1
    by_cases ht : a0.1 = 2
    · have hc2 : v0.category = 2 := by rw [hc]; simp [ycat, ht]
      have el : ylay (a0 :: avs) = a0 :: (0, 0) :: ylay avs := if_pos ht
      have es : lg_sl (v0 :: As) = .val v0 :: .second :: lg_sl As := by simp [lg_sl, hc2]
      have ev : ∀ b, lv_args b (v0 :: As) = (b, v0) :: lv_args (b + 2) As := fun b => by simp [lv_args, hc2]
      rw [el, es]
      refine ⟨by simp [e1], fun i b a hi ha => ?_⟩
      rw [ev]
      match i, hi with
      | 0, hi => rw [List.getElem?_cons_zero] at hi; cases hi; exact ⟨v0, List.mem_cons_self, h.1⟩
      | 1, hi => cases hi; exact absurd rfl ha
      | i + 2, hi =>
        rw [List.getElem?_cons_succ, List.getElem?_cons_succ] at hi
        obtain ⟨v, g1, g2⟩ := e2 i (b + 2) a hi ha
        exact ⟨v, List.mem_cons_of_mem _ (by rw [show b + (i + 2) = b + 2 + i by omega]; exact g1), g2⟩
    · have hc2 : ¬ v0.category = 2 := by rw [hc]; simp [ycat, ht]
      have el : ylay (a0 :: avs) = a0 :: ylay avs := if_neg ht
      have es : lg_sl (v0 :: As) = .val v0 :: lg_sl As := by simp [lg_sl, hc2]
      have ev : ∀ b, lv_args b (v0 :: As) = (b, v0) :: lv_args (b + 1) As := fun b => by simp [lv_args, hc2]
      rw [el, es]
      refine ⟨by simp [e1], fun i b a hi ha => ?_⟩
      rw [ev]
      match i, hi with
      | 0, hi => rw [List.getElem?_cons_zero] at hi; cases hi; exact ⟨v0, List.mem_cons_self, h.1⟩
      | i + 1, hi =>
        rw [List.getElem?_cons_succ] at hi
        obtain ⟨v, g1, g2⟩ := e2 i (b + 1) a hi ha
        exact ⟨v, List.mem_cons_of_mem _ (by rw [show b + (i + 1) = b + 1 + i by omega]; exact g1), g2⟩
theorem ylayP_ok {Z : zZ} {ad : Nat → Nat} {avs : List yV} {As : List Value} {n : Nat} (h : yS Z ad avs As) (hn : (ylay avs).length ≤ n) : yL Z ad n (zels As n) (ylayP avs n) := by
  obtain ⟨e1, e2⟩ := ylay_ok h
  have hl := lv_entry As (n := n) (by rw [← e1]; exact hn)
  refine ⟨hl.1, by simp [ylayP]; omega, hl.2.1, fun i a hi ha => ?_⟩
  unfold ylayP at hi
  by_cases hil : i < (ylay avs).length
  · rw [List.getElem?_append_left hil] at hi
    obtain ⟨v, g1, g2⟩ := e2 i 0 a hi ha
    exact ⟨v, hl.2.2 (i, v) (by rw [Nat.zero_add] at g1; exact g1), g2⟩
  · rw [List.getElem?_append_right (by omega)] at hi
    rw [List.getElem?_replicate] at hi
    split at hi
    · cases hi
      exact absurd rfl ha
    · cases hi
/-- a contract's end, a contract -/
def yrm (rm : Nat × Nat) : Room := { frames := rm.1, cells := 0, slots := 0, locals := rm.2 }
def yQc (Z : zZ) (D : va_G) (cl : List vw_C) (tys : List (ClassId × FieldType)) (A : Nat → Prop) (ad : Nat → Nat) (K : List yV → yM → Prop) : Array Value → State → Outcome → State → Prop := fun _ st o t =>
  va_F A st t ∧ ∃ (v : Option Value) (ws' : va_W) (r : List yV) (g' : yM), o = .returned v ∧ va_P D cl ws' t.heap ∧ va_D A ws' ∧ yMem Z ad tys ws' g' ∧ yS Z ad r v.toList ∧ K r g'
def yMet (l : Launch) (Ts : List Cond) (cl : List vw_C) (Z : zZ) (RO : zRO) (MT : zMT) (c : yC) : Prop := ∀ (D : va_G) (tys : List (ClassId × FieldType)) (A : Nat → Prop) (ad : Nat → Nat) (ws : va_W) (g : yM) (as : List yV) (As : List Value) (K : List yV → yM → Prop), yMem Z ad tys ws g → yS Z ad as As → (ylay as).length ≤ (MT c.1).2.2.1 → va_D A ws → c.2.2 as g K →
  Met l (MT c.1).1 (Cond.code (MT c.1).1 (MT c.1).2.1 (MT c.1).2.2.1 (MT c.1).2.2.2 :: Ts) (yrm c.2.1) (zPc D cl tys A ad RO ws As) (yQc Z D cl tys A ad K) 0 0 A
theorem ycell.mono {ad : Nat → Nat} {tys : List (ClassId × FieldType)} {ws ws' : va_W} {g g' : yM} {q : Nat} {ct : zCT} (h : ycell ad tys ws g q ct) (hw : ws'[q]? = ws[q]?) (hg : ∀ j, g' q j = g q j) : ycell ad tys ws' g' q ct := by
  obtain ⟨tg, ci, len, fts⟩ := ct
  match tg, h with
  | 0, ⟨fs, c1, c2, c3⟩ => exact ⟨fs, by rw [hw]; exact c1, c2, fun j ft v a b => by rw [hg]; exact c3 j ft v a b⟩
  | 1, ⟨cA, f, c1, c2, c3⟩ => exact ⟨cA, f, by rw [hw]; exact c1, c2, fun j a => by rw [hg]; exact c3 j a⟩
  | 2, ⟨cA, f, c1, c2, c3⟩ => exact ⟨cA, f, by rw [hw]; exact c1, c2, fun j a => by rw [hg]; exact c3 j a⟩
  | 3, ⟨cA, f, c1, c2, c3⟩ => exact ⟨cA, f, by rw [hw]; exact c1, c2, fun j a => by rw [hg]; exact c3 j a⟩
  | 4, ⟨cA, C, f, c1, c2⟩ => exact ⟨cA, C, f, by rw [hw]; exact c1, c2⟩
  | 5, ⟨cA, f, c1, c2⟩ => exact ⟨cA, f, by rw [hw]; exact c1, c2⟩
  | 6, ⟨cA, f, c1, c2, c3⟩ => exact ⟨cA, f, by rw [hw]; exact c1, c2, fun j a => by rw [hg]; exact c3 j a⟩
  | 7, ⟨cA, f, c1, c2, c3⟩ => exact ⟨cA, f, by rw [hw]; exact c1, c2, fun j a => by rw [hg]; exact c3 j a⟩
theorem yMem.upd {Z : zZ} {ad : Nat → Nat} {tys : List (ClassId × FieldType)} {ws ws' : va_W} {g g' : yM} {q : Nat} {e0 : Nat × Nat × zCT} (hZ : zDj Z) (h : yMem Z ad tys ws g) (he : e0 ∈ Z.1) (h1 : e0.1 ≤ q) (h2 : q ≤ e0.2.1) (ho : ∀ q' : Nat, q' ≠ q → ws'[q']? = ws[q']?) (hg : ∀ q' j : Nat, q' ≠ q → g' q' j = g q' j) (hq : ycell ad tys ws' g' q e0.2.2) : yMem Z ad tys ws' g' := by
  intro e hem q' g1 g2
  by_cases hqq : q' = q
  · subst hqq
    rw [← hZ.1 e0 he e hem q' h1 h2 g1 g2]
    exact hq
  · exact (h e hem q' g1 g2).mono (ho q' hqq) (fun j => hg q' j hqq)
theorem yset_eq {g : yM} {q j : Nat} {v : Int} : yset g q j v q j = v := if_pos ⟨rfl, rfl⟩
theorem yset_ne {g : yM} {q j a b : Nat} {v : Int} (h : ¬ (a = q ∧ b = j)) : yset g q j v a b = g a b := if_neg h
theorem yfld_ok {Z : zZ} {ad : Nat → Nat} {g : yM} {q j : Nat} {ft : zFT} {v : Value} (h : yfv ad q ft (g q j) v) : yval Z ad (yfld g q j ft).1 (yfld g q j ft).2 v := by
  obtain ⟨tg, lo, hi⟩ := ft
  match tg, h with
  | 0, ⟨x, h1, h2⟩ => subst h1; exact yvI h2
  | 1, ⟨x, h1, h2⟩ => subst h1; exact yvL h2
  | 2, ⟨r, h1, h2, h3, h4⟩ =>
    subst h1
    show yval Z ad (bif zleI hi lo then ((3, lo) : yV) else (3, g q j)).1 (bif zleI hi lo then ((3, lo) : yV) else (3, g q j)).2 _
    cases hb : zleI hi lo with
    | true =>
      have := zleI_ok hb
      exact yvR (by show (r : Int) = lo; omega)
    | false => exact yvR h4
  | 3, ⟨x, h1, h2⟩ => subst h1; exact yvI h2
  | 4, h => 
    have h : v = .ref (ad (q + lo.toNat)) := h
    subst h
    exact yvR rfl
  | n + 5, ⟨x, h1, h2⟩ => subst h1; exact yvI h2
theorem yfv_int {ad : Nat → Nat} {q : Nat} {ft : zFT} {z : Int} {x : Int32} (h : yint ft = true) (hx : x.toInt = z) : yfv ad q ft z (.int x) := by
  obtain ⟨tg, lo, hi⟩ := ft
  match tg, h with
  | 0, _ => exact ⟨x, rfl, hx⟩
  | 3, _ => exact ⟨x, rfl, hx⟩
  | n + 5, _ => exact ⟨x, rfl, hx⟩
theorem ycell_int {ad : Nat → Nat} {tys : List (ClassId × FieldType)} {ws : va_W} {g : yM} {q k t0 len : Nat} {fts : List zFT} (hk : yisI k = true) : ycell ad tys ws g q (k, t0, len, fts) ↔ ∃ (cA : ClassId) (f : Nat → Int32), ws[q]? = some (ad q, .inl (cA, len, .inl f)) ∧ tys[t0]? = some (cA, .int) ∧ ∀ j : Nat, j < len → (f j).toInt = g q j := by
  unfold yisI at hk
  rcases Bool.or_eq_true_iff.mp hk with h | h
  · have := ybeq h; subst this; exact Iff.rfl
  · rcases Bool.or_eq_true_iff.mp h with h | h
    · have := ybeq h; subst this; exact Iff.rfl
    · have := ybeq h; subst this; exact Iff.rfl
theorem yin {x : Int32} {i : Int} {n : Nat} (hx : x.toInt = i) (h : 0 ≤ i ∧ i < (n : Int)) : vp_in x n ∧ x.toNatClampNeg < n ∧ x.toNatClampNeg = i.toNat := by
  have e : x.toNatClampNeg = x.toInt.toNat := rfl
  rw [← hx] at h
  refine ⟨vp_in_iff.mpr ⟨by omega, by omega⟩, by rw [e]; omega, by rw [e, hx]⟩
section YH
variable {p : Program} {l : Launch} {e : Env} {R : Room} {s : State} {m : MethodId} {args : Array Value} {below : List Frame} {meth : Method} {c : Code} {Q : State → Prop} {cc : ByteArray} {pc ce sl : Nat}
variable {Z : zZ} {D : va_G} {cl : List vw_C} {tys : List (ClassId × FieldType)} {A : Nat → Prop} {ad : Nat → Nat} {H0 : Heap} {nL : Nat}
variable {nx : yNx} {L st : List yV} {g : yM} {len : Nat}
theorem yk_get (hx : p.tables.exec = Jvm.exec) (hb : c.code = cc) {own : String} (hown : s.vm.findClass own = some m.cls) (hK : va_K D cl tys s) {P : zPool} (hFl : ∀ f ∈ P.1, zFld cl s args own f.1 f.2.1 f.2.2.1) {idx : Nat} (h : yi_get Z P pc nx L st g idx len) (hd : decode cc pc = .ok (.getfield idx, len)) (k : ∀ (pc' : Nat) (L' st' : List yV) (g' : yM), nx pc' L' st' g' → yWP (yG Z D cl tys A ad H0 nL) (fun H locs pc ls st => W p l e R s m args below meth c H locs ce sl Q (F0 m pc ls st)) pc' L' st' g') : yWP (yG Z D cl tys A ad H0 nL) (fun H locs pc ls st => W p l e R s m args below meth c H locs ce sl Q (F0 m pc ls st)) pc L st g := by
  match st, h with
  | (t, z) :: r, h =>
    unfold yi_get at h
    simp only at h
    split at h
    · rename_i f ci x fts hf ht
      split at h
      · rename_i ft hj
        obtain ⟨h1, h2⟩ := ybif h
        rw [Bool.and_eq_true] at h1
        have e3 := ybeq h1.1
        subst e3
        have ec := ybeq h1.2
        have hfm := List.mem_of_find?_eq_some hf
        have hfi : f.1 = idx := by have := List.find?_some hf; simpa using this
        intro ls stc ws H locs hG
        obtain ⟨hP, hD, hS, hM, hL, hT⟩ := hG
        match stc, hT with
        | v1 :: stc, ⟨hv1, hT⟩ =>
          obtain ⟨hv, e0, he0, g1, g2, g3⟩ := yty_ok ht hv1
          subst hv
          have hc := hM e0 he0 _ g1 g2
          rw [g3] at hc
          obtain ⟨fs, c1, c2, c3⟩ := hc
          have hl : f.2.2.1 < fs.length := by rw [c2]; exact (List.getElem?_eq_some_iff.mp hj).1
          have hv : fs[f.2.2.1]? = some fs[f.2.2.1] := List.getElem?_eq_getElem hl
          have hG2 := k _ _ _ _ h2 ls (fs[f.2.2.1] :: stc) ws H locs ⟨hP, hD, hS, hM, hL, yfld_ok (c3 _ ft _ hj hv), hT⟩
          obtain ⟨C, T, N, ty0, f1, f2, f3, f4, f5, f6⟩ := hFl f hfm
          rw [← ec] at f1
          rw [hfi] at f6
          rcases f6 with f6 | ⟨host, f6⟩
          · exact va_get hx hb f3 (fun w hw => hw) hown hK hP (ypl Z t z) c1 f1 f.2.2.1 f2 f6 (fun x h => h) hv hd hG2
          · exact va_getN hx hb f3 (fun w hw => hw) hown hK hP (ypl Z t z) c1 f1 f.2.2.1 f2 f6 (fun x h => h) hv hd hG2
      · exact h.elim
    · exact h.elim
theorem yk_put (hx : p.tables.exec = Jvm.exec) (hb : c.code = cc) {own : String} (hown : s.vm.findClass own = some m.cls) (hK : va_K D cl tys s) (hZ : zDj Z) {P : zPool} (hFp : ∀ f ∈ P.1, f.2.2.2 ≤ 2 → zFldP cl s args own f.1 f.2.1 f.2.2.1 f.2.2.2) {idx : Nat} (h : yi_put Z P pc nx L st g idx len) (hd : decode cc pc = .ok (.putfield idx, len)) (k : ∀ (pc' : Nat) (L' st' : List yV) (g' : yM), nx pc' L' st' g' → yWP (yG Z D cl tys A ad H0 nL) (fun H locs pc ls st => W p l e R s m args below meth c H locs ce sl Q (F0 m pc ls st)) pc' L' st' g') : yWP (yG Z D cl tys A ad H0 nL) (fun H locs pc ls st => W p l e R s m args below meth c H locs ce sl Q (F0 m pc ls st)) pc L st g := by
  match st, h with
  | (tv, v) :: (t, z) :: r, h =>
    unfold yi_put at h
    simp only at h
    split at h
    · rename_i f ci x fts hf ht
      split at h
      · rename_i ft hj
        obtain ⟨h1, h2⟩ := ybif h
        rw [Bool.and_eq_true] at h1
        have e3 := ybeq h1.1
        subst e3
        have ec := ybeq h1.2
        have hfm := List.mem_of_find?_eq_some hf
        have hfi : f.1 = idx := by have := List.find?_some hf; simpa using this
        intro ls stc ws H locs hG
        obtain ⟨hP, hD, hS, hM, hL, hT⟩ := hG
        match stc, hT with
        | w :: v1 :: stc, ⟨hw, hv1, hT⟩ =>
          obtain ⟨hv, e0, he0, g1, g2, g3⟩ := yty_ok ht hv1
          subst hv
          have hc := hM e0 he0 _ g1 g2
          rw [g3] at hc
          obtain ⟨fs, c1, c2, c3⟩ := hc
          have hl : f.2.2.1 < fs.length := by rw [c2]; exact (List.getElem?_eq_some_iff.mp hj).1
          have hkd : f.2.2.2 ≤ 2 ∧ nx (pc + 3) L r (yset g (ypl Z t z) f.2.2.1 v) ∧ yfv ad (ypl Z t z) ft v w ∧ ∀ ty : FieldType, (f.2.2.2 = 0 → ty = .int) → (f.2.2.2 = 1 → ty = .boolean) → (f.2.2.2 = 2 → ∃ n, ty = .object n) → narrow ty w = w ∧ fits ty w = true := by
            unfold yputc at h2
            split at h2
            · rename_i hk0
              obtain ⟨b1, b2⟩ := ybif h2
              rw [Bool.and_eq_true] at b1
              have et := ybeq b1.2
              subst et
              obtain ⟨y, rfl, hy⟩ := yvI' hw
              refine ⟨by omega, b2, yfv_int b1.1 hy, fun ty a0 _ _ => ?_⟩
              rw [a0 hk0]
              exact ⟨rfl, rfl⟩
            · rename_i hk0
              obtain ⟨b1, b3, b2⟩ := ybif h2
              rw [Bool.and_eq_true] at b1
              have et := ybeq b1.2
              subst et
              obtain ⟨y, rfl, hy⟩ := yvI' hw
              have hy : y.toInt = v := hy
              refine ⟨by omega, b2, yfv_int b1.1 hy, fun ty _ a0 _ => ?_⟩
              rw [a0 hk0]
              rcases (show y.toInt = 0 ∨ y.toInt = 1 by omega) with e | e
              · have : y = 0 := Int32.toInt_inj.mp (by rw [e]; rfl)
                subst this
                exact ⟨by decide, by decide⟩
              · have : y = 1 := Int32.toInt_inj.mp (by rw [e]; rfl)
                subst this
                exact ⟨by decide, by decide⟩
            · rename_i hk0
              obtain ⟨b1, b3, b2⟩ := ybif h2
              rw [Bool.and_eq_true] at b1
              have et := ybeq b1.2
              subst et
              have ef := ybeq b1.1
              obtain ⟨tg, lo, hi⟩ := ft
              have ef : tg = 2 := ef
              subst ef
              have hw2 : ∃ q : Nat, w = .ref (ad q) ∧ (q : Int) = v := by
                unfold yval at hw
                rw [if_neg (by omega)] at hw
                exact hw
              obtain ⟨q, rfl, hq⟩ := hw2
              refine ⟨by omega, b2, ⟨q, rfl, by rw [hq]; exact b3.1, by rw [hq]; exact b3.2, hq⟩, fun ty _ _ a0 => ?_⟩
              obtain ⟨n, rfl⟩ := a0 hk0
              exact ⟨rfl, rfl⟩
            · exact h2.elim
          obtain ⟨k1, k2, k3, k4⟩ := hkd
          obtain ⟨C, T, N, ty0, f1, f2, f3, f4, f5, f6, f7, f8, f9, f10⟩ := hFp f hfm k1
          rw [← ec] at f1
          rw [hfi] at f6
          obtain ⟨n1, n2'⟩ := k4 (ty0 f.2.2.1) f8 f9 f10
          have hcell : ycell ad tys (ws.set (ypl Z t z) (ad (ypl Z t z), .inr (ci, fs.set f.2.2.1 w))) (yset g (ypl Z t z) f.2.2.1 v) (ypl Z t z) e0.2.2 := by
            rw [g3]
            refine ⟨fs.set f.2.2.1 w, zget_set c1, by rw [List.length_set]; exact c2, fun j' ft' v' hj' hv' => ?_⟩
            by_cases hjj : j' = f.2.2.1
            · subst hjj
              rw [List.getElem?_set_self hl] at hv'
              cases hv'
              rw [hj] at hj'
              cases hj'
              rw [yset_eq]
              exact k3
            · rw [List.getElem?_set_ne (Ne.symm hjj)] at hv'
              rw [yset_ne (fun q => hjj q.2)]
              exact c3 j' ft' v' hj' hv'
          have fin : ∀ (H1 : Heap) (locs1 : List Loc), va_P D cl (ws.set (ypl Z t z) (ad (ypl Z t z), .inr (ci, fs.set f.2.2.1 w))) H1 → va_D A (ws.set (ypl Z t z) (ad (ypl Z t z), .inr (ci, fs.set f.2.2.1 w))) → va_S A H0 H1 locs1 → W p l e R s m args below meth c H1 locs1 ce sl Q (F0 m (pc + 3) ls stc) := fun H1 locs1 p1 p2 p3 =>
            k _ _ _ _ k2 ls stc _ H1 locs1 ⟨p1, p2, p3, hM.upd hZ he0 g1 g2 (fun q' hq => List.getElem?_set_ne (Ne.symm hq)) (fun q' j hq => yset_ne (fun z => hq z.1)) hcell, hL, hT⟩
          rcases f6 with f6 | ⟨host, f6⟩
          · exact va_put hx hb f3 (fun w hw => hw) ty0 f4 f5 hown hK hP hD hS (ypl Z t z) c1 f1 f.2.2.1 f2 f6 (fun x h => h) f7 (f4 f.2.2.1 f2) n1 n2' hl hd fin
          · exact va_putN hx hb f3 (fun w hw => hw) ty0 f4 f5 hown hK hP hD hS (ypl Z t z) c1 f1 f.2.2.1 f2 f6 (fun x h => h) f7 (f4 f.2.2.1 f2) n1 n2' hl hd fin
      · exact h.elim
    · exact h.elim
theorem yk_iald (hx : p.tables.exec = Jvm.exec) (hb : c.code = cc) (hK : va_K D cl tys s) {RS : List (List Int)} (hRS : ∀ (i : Nat) (tb : List Int), RS[i]? = some tb → ∀ (H : Heap) (locs : List Loc) (ls : Array Slot) (rest : List Value) (x : Int32), decode cc pc = .ok (.iaload, 1) → va_S A H0 H locs → vp_in x tb.length → W p l e R s m args below meth c H locs ce sl Q (F0 m (pc + 1) ls (.int (Int32.ofInt (tb.getD x.toNatClampNeg 0)) :: rest)) → W p l e R s m args below meth c H locs ce sl Q (F0 m pc ls (.int x :: .ref (ad (1000 + i)) :: rest)))
    (hRb : ∀ tb ∈ RS, ∀ v ∈ tb, -2147483648 ≤ v ∧ v ≤ 2147483647) (h : yi_iald Z RS pc nx L st g len) (hd : decode cc pc = .ok (.iaload, len)) (k : ∀ (pc' : Nat) (L' st' : List yV) (g' : yM), nx pc' L' st' g' → yWP (yG Z D cl tys A ad H0 nL) (fun H locs pc ls st => W p l e R s m args below meth c H locs ce sl Q (F0 m pc ls st)) pc' L' st' g') : yWP (yG Z D cl tys A ad H0 nL) (fun H locs pc ls st => W p l e R s m args below meth c H locs ce sl Q (F0 m pc ls st)) pc L st g := by
  match st, h with
  | (ti, i) :: (t, z) :: r, h =>
    unfold yi_iald at h
    simp only at h
    split at h
    · rename_i kk t0 n fts ht
      obtain ⟨h1, h0, h2⟩ := ybif h
      rw [Bool.and_eq_true, Bool.and_eq_true] at h1
      have e3 := ybeq h1.1
      subst e3
      have ei := ybeq h1.2.1
      subst ei
      intro ls stc ws H locs hG
      obtain ⟨hP, hD, hS, hM, hL, hT⟩ := hG
      match stc, hT with
      | v2 :: v1 :: stc, ⟨hv2, hv1, hT⟩ =>
        obtain ⟨x, rfl, gx⟩ := yvI' hv2
        have gx : x.toInt = i := gx
        obtain ⟨hv, e0, he0, g1, g2, g3⟩ := yty_ok ht hv1
        subst hv
        have hc := hM e0 he0 _ g1 g2
        rw [g3] at hc
        obtain ⟨cA, f, c1, c2, c3⟩ := (ycell_int h1.2.2).mp hc
        obtain ⟨b1, b2, b3⟩ := yin gx h0
        exact va_iald hx hb hK hP (ypl Z t z) t0 c1 c2 b1 hd (k _ _ _ _ h2 ls _ ws H locs ⟨hP, hD, hS, hM, hL, yvI (by rw [c3 _ b2, b3]), hT⟩)
    · rename_i ht
      obtain ⟨h1, h2⟩ := ybif h
      rw [Bool.and_eq_true, Bool.and_eq_true, Bool.and_eq_true] at h1
      have e3 := ybeq h1.1
      subst e3
      have ei := ybeq h1.2.1
      subst ei
      have et := ybeq h1.2.2.1
      subst et
      have hz := zleI_ok h1.2.2.2
      split at h2
      · rename_i tb htb
        obtain ⟨h0, h2⟩ := h2
        intro ls stc ws H locs hG
        obtain ⟨hP, hD, hS, hM, hL, hT⟩ := hG
        match stc, hT with
        | v2 :: v1 :: stc, ⟨hv2, hv1, hT⟩ =>
          obtain ⟨x, rfl, gx⟩ := yvI' hv2
          have gx : x.toInt = i := gx
          have hv := yvR' hv1 (Or.inl rfl)
          have hv : v1 = .ref (ad z.toNat) := hv
          rw [show z.toNat = 1000 + (z - 1000).toNat by omega] at hv
          subst hv
          obtain ⟨b1, b2, b3⟩ := yin gx h0
          have hmem : tb.getD i.toNat 0 ∈ tb := by
            rw [List.getD_eq_getElem?_getD, List.getElem?_eq_getElem (by omega)]
            exact List.getElem_mem _
          have hb2 := hRb tb (List.mem_of_getElem? htb) _ hmem
          exact hRS _ tb htb H locs ls stc x hd hS b1 (k _ _ _ _ h2 ls _ ws H locs ⟨hP, hD, hS, hM, hL, yvI (by rw [b3, zofI hb2.1 hb2.2]), hT⟩)
      · exact h2.elim
theorem yk_bald (hx : p.tables.exec = Jvm.exec) (hb : c.code = cc) (hK : va_K D cl tys s) (h : yi_bald Z pc nx L st g len) (hd : decode cc pc = .ok (.baload, len)) (k : ∀ (pc' : Nat) (L' st' : List yV) (g' : yM), nx pc' L' st' g' → yWP (yG Z D cl tys A ad H0 nL) (fun H locs pc ls st => W p l e R s m args below meth c H locs ce sl Q (F0 m pc ls st)) pc' L' st' g') : yWP (yG Z D cl tys A ad H0 nL) (fun H locs pc ls st => W p l e R s m args below meth c H locs ce sl Q (F0 m pc ls st)) pc L st g := by
  match st, h with
  | (ti, i) :: (t, z) :: r, h =>
    unfold yi_bald at h
    simp only at h
    split at h
    · rename_i kk t0 n fts ht
      obtain ⟨h1, h0, h2⟩ := ybif h
      rw [Bool.and_eq_true, Bool.and_eq_true] at h1
      have e3 := ybeq h1.1
      subst e3
      have ei := ybeq h1.2.1
      subst ei
      have ek := ybeq h1.2.2
      subst ek
      intro ls stc ws H locs hG
      obtain ⟨hP, hD, hS, hM, hL, hT⟩ := hG
      match stc, hT with
      | v2 :: v1 :: stc, ⟨hv2, hv1, hT⟩ =>
        obtain ⟨x, rfl, gx⟩ := yvI' hv2
        have gx : x.toInt = i := gx
        obtain ⟨hv, e0, he0, g1, g2, g3⟩ := yty_ok ht hv1
        subst hv
        have hc := hM e0 he0 _ g1 g2
        rw [g3] at hc
        obtain ⟨cA, f, c1, c2, c3⟩ := hc
        obtain ⟨b1, b2, b3⟩ := yin gx h0
        exact va_bald hx hb hK hP (ypl Z t z) t0 c1 c2 b1 hd (k _ _ _ _ h2 ls _ ws H locs ⟨hP, hD, hS, hM, hL, yvI (by rw [c3 _ b2, b3]), hT⟩)
    · exact h.elim
theorem yk_lald (hx : p.tables.exec = Jvm.exec) (hb : c.code = cc) (hK : va_K D cl tys s) (h : yi_lald Z pc nx L st g len) (hd : decode cc pc = .ok (.laload, len)) (k : ∀ (pc' : Nat) (L' st' : List yV) (g' : yM), nx pc' L' st' g' → yWP (yG Z D cl tys A ad H0 nL) (fun H locs pc ls st => W p l e R s m args below meth c H locs ce sl Q (F0 m pc ls st)) pc' L' st' g') : yWP (yG Z D cl tys A ad H0 nL) (fun H locs pc ls st => W p l e R s m args below meth c H locs ce sl Q (F0 m pc ls st)) pc L st g := by
  match st, h with
  | (ti, i) :: (t, z) :: r, h =>
    unfold yi_lald at h
    simp only at h
    split at h
    · rename_i kk t0 n fts ht
      obtain ⟨h1, h0, h2⟩ := ybif h
      rw [Bool.and_eq_true, Bool.and_eq_true] at h1
      have e3 := ybeq h1.1
      subst e3
      have ei := ybeq h1.2.1
      subst ei
      have ek := ybeq h1.2.2
      subst ek
      intro ls stc ws H locs hG
      obtain ⟨hP, hD, hS, hM, hL, hT⟩ := hG
      match stc, hT with
      | v2 :: v1 :: stc, ⟨hv2, hv1, hT⟩ =>
        obtain ⟨x, rfl, gx⟩ := yvI' hv2
        have gx : x.toInt = i := gx
        obtain ⟨hv, e0, he0, g1, g2, g3⟩ := yty_ok ht hv1
        subst hv
        have hc := hM e0 he0 _ g1 g2
        rw [g3] at hc
        obtain ⟨cA, f, c1, c2, c3⟩ := hc
        obtain ⟨b1, b2, b3⟩ := yin gx h0
        exact va_lald hx hb hK hP (ypl Z t z) t0 c1 c2 b1 hd (k _ _ _ _ h2 ls _ ws H locs ⟨hP, hD, hS, hM, hL, yvL (by rw [c3 _ b2, b3]), hT⟩)
    · exact h.elim
theorem yk_aald (hx : p.tables.exec = Jvm.exec) (hb : c.code = cc) (hK : va_K D cl tys s) (h : yi_aald Z pc nx L st g len) (hd : decode cc pc = .ok (.aaload, len)) (k : ∀ (pc' : Nat) (L' st' : List yV) (g' : yM), nx pc' L' st' g' → yWP (yG Z D cl tys A ad H0 nL) (fun H locs pc ls st => W p l e R s m args below meth c H locs ce sl Q (F0 m pc ls st)) pc' L' st' g') : yWP (yG Z D cl tys A ad H0 nL) (fun H locs pc ls st => W p l e R s m args below meth c H locs ce sl Q (F0 m pc ls st)) pc L st g := by
  match st, h with
  | (ti, i) :: (t, z) :: r, h =>
    unfold yi_aald at h
    simp only at h
    split at h
    · rename_i kk t0 n ft fts ht
      split at h
      · rename_i er her
        obtain ⟨h1, h0, h2⟩ := ybif h
        rw [Bool.and_eq_true, Bool.and_eq_true] at h1
        have e3 := ybeq h1.1
        subst e3
        have ei := ybeq h1.2.1
        subst ei
        obtain ⟨-, xr, r1, r2, r3⟩ := yrng_ok her
        intro ls stc ws H locs hG
        obtain ⟨hP, hD, hS, hM, hL, hT⟩ := hG
        match stc, hT with
        | v2 :: v1 :: stc, ⟨hv2, hv1, hT⟩ =>
          obtain ⟨x, rfl, gx⟩ := yvI' hv2
          have gx : x.toInt = i := gx
          obtain ⟨hv, e0, he0, g1, g2, g3⟩ := yty_ok ht hv1
          subst hv
          have hc := hM e0 he0 _ g1 g2
          rw [g3] at hc
          obtain ⟨b1, b2, b3⟩ := yin gx h0
          have hval : yval Z ad (100 + er) i (.ref (ad (ft.2.1.toNat + x.toNatClampNeg))) := by
            unfold yval
            rw [if_pos (by omega)]
            refine ⟨xr, by rw [show 100 + er - 100 = er - 0 by omega]; exact r1, h0.1, by omega, ?_⟩
            rw [r2, b3]
          rcases Bool.or_eq_true_iff.mp h1.2.2 with hk | hk
          · have hk := ybeq hk
            subst hk
            obtain ⟨cA, C, f, c1, c2, c3⟩ := hc
            refine va_aldq hx hb hK hP (ypl Z t z) t0 c1 c2 b1 hd ?_
            rw [c3 _ ft b2 rfl]
            exact k _ _ _ _ h2 ls _ ws H locs ⟨hP, hD, hS, hM, hL, hval, hT⟩
          · have hk := ybeq hk
            subst hk
            obtain ⟨cA, f, c1, c2, c3⟩ := hc
            refine W.aald (v := va_rf (f x.toNatClampNeg)) (ty := .array .long) hx hb (hP (ypl Z t z) _ c1) ((hK.2 t0 _ c2).1 n (fun j => va_rf (f j))) rfl (fun q => by cases q) (by show ¬ (x < 0 ∨ (arrV _ _ _).slots.size ≤ _); rw [arrV_size]; exact b1) (by show (arrV _ _ _).slots[_]? = _; rw [arrV_read _ _ b2]) rfl rfl hd ?_
            rw [c3 _ ft b2 rfl]
            exact k _ _ _ _ h2 ls _ ws H locs ⟨hP, hD, hS, hM, hL, hval, hT⟩
      · exact h.elim
    · exact h.elim
theorem yk_iast (hx : p.tables.exec = Jvm.exec) (hb : c.code = cc) (hK : va_K D cl tys s) (hZ : zDj Z) (h : yi_iast Z pc nx L st g len) (hd : decode cc pc = .ok (.iastore, len)) (k : ∀ (pc' : Nat) (L' st' : List yV) (g' : yM), nx pc' L' st' g' → yWP (yG Z D cl tys A ad H0 nL) (fun H locs pc ls st => W p l e R s m args below meth c H locs ce sl Q (F0 m pc ls st)) pc' L' st' g') : yWP (yG Z D cl tys A ad H0 nL) (fun H locs pc ls st => W p l e R s m args below meth c H locs ce sl Q (F0 m pc ls st)) pc L st g := by
  match st, h with
  | (tv, v) :: (ti, i) :: (t, z) :: r, h =>
    unfold yi_iast at h
    simp only at h
    split at h
    · rename_i kk t0 n fts ht
      obtain ⟨h1, h0, h2⟩ := ybif h
      rw [Bool.and_eq_true, Bool.and_eq_true, Bool.and_eq_true] at h1
      have e3 := ybeq h1.1
      subst e3
      have ev := ybeq h1.2.1
      subst ev
      have ei := ybeq h1.2.2.1
      subst ei
      intro ls stc ws H locs hG
      obtain ⟨hP, hD, hS, hM, hL, hT⟩ := hG
      match stc, hT with
      | v3 :: v2 :: v1 :: stc, ⟨hv3, hv2, hv1, hT⟩ =>
        obtain ⟨y, rfl, gy⟩ := yvI' hv3
        have gy : y.toInt = v := gy
        obtain ⟨x, rfl, gx⟩ := yvI' hv2
        have gx : x.toInt = i := gx
        obtain ⟨hv, e0, he0, g1, g2, g3⟩ := yty_ok ht hv1
        subst hv
        have hc := hM e0 he0 _ g1 g2
        rw [g3] at hc
        obtain ⟨cA, f, c1, c2, c3⟩ := (ycell_int h1.2.2.2).mp hc
        obtain ⟨b1, b2, b3⟩ := yin gx h0
        have hcell : ycell ad tys (ws.set (ypl Z t z) (ad (ypl Z t z), .inl (cA, n, .inl (upd f x.toNatClampNeg y)))) (yset g (ypl Z t z) i.toNat v) (ypl Z t z) e0.2.2 := by
          rw [g3]
          refine (ycell_int h1.2.2.2).mpr ⟨cA, _, zget_set c1, c2, fun j hj => ?_⟩
          by_cases hjj : j = x.toNatClampNeg
          · subst hjj
            rw [b3, yset_eq]
            simp only [upd, if_true]
            exact gy
          · rw [yset_ne (fun q => hjj (by rw [b3]; exact q.2))]
            simp only [upd, if_neg hjj]
            exact c3 j hj
        exact va_iast hx hb hK hP hD hS (ypl Z t z) t0 c1 c2 b1 hd (fun H1 locs1 p1 p2 p3 =>
          k _ _ _ _ h2 ls stc _ H1 locs1 ⟨p1, p2, p3, hM.upd hZ he0 g1 g2 (fun q' hq => List.getElem?_set_ne (Ne.symm hq)) (fun q' j hq => yset_ne (fun z => hq z.1)) hcell, hL, hT⟩)
    · exact h.elim
theorem ynarB (y : Int32) : (vp_nar .byte y).toInt = y.toInt.bmod 256 := by
  rw [vp_nar_byte, Int8.toInt_toInt32, Int32.toInt_toInt8]
theorem yk_bast (hx : p.tables.exec = Jvm.exec) (hb : c.code = cc) (hK : va_K D cl tys s) (hZ : zDj Z) (h : yi_bast Z pc nx L st g len) (hd : decode cc pc = .ok (.bastore, len)) (k : ∀ (pc' : Nat) (L' st' : List yV) (g' : yM), nx pc' L' st' g' → yWP (yG Z D cl tys A ad H0 nL) (fun H locs pc ls st => W p l e R s m args below meth c H locs ce sl Q (F0 m pc ls st)) pc' L' st' g') : yWP (yG Z D cl tys A ad H0 nL) (fun H locs pc ls st => W p l e R s m args below meth c H locs ce sl Q (F0 m pc ls st)) pc L st g := by
  match st, h with
  | (tv, v) :: (ti, i) :: (t, z) :: r, h =>
    unfold yi_bast at h
    simp only at h
    split at h
    · rename_i kk t0 n fts ht
      obtain ⟨h1, h0, h2⟩ := ybif h
      rw [Bool.and_eq_true, Bool.and_eq_true, Bool.and_eq_true] at h1
      have e3 := ybeq h1.1
      subst e3
      have ev := ybeq h1.2.1
      subst ev
      have ei := ybeq h1.2.2.1
      subst ei
      have ek := ybeq h1.2.2.2
      subst ek
      intro ls stc ws H locs hG
      obtain ⟨hP, hD, hS, hM, hL, hT⟩ := hG
      match stc, hT with
      | v3 :: v2 :: v1 :: stc, ⟨hv3, hv2, hv1, hT⟩ =>
        obtain ⟨y, rfl, gy⟩ := yvI' hv3
        have gy : y.toInt = v := gy
        obtain ⟨x, rfl, gx⟩ := yvI' hv2
        have gx : x.toInt = i := gx
        obtain ⟨hv, e0, he0, g1, g2, g3⟩ := yty_ok ht hv1
        subst hv
        have hc := hM e0 he0 _ g1 g2
        rw [g3] at hc
        obtain ⟨cA, f, c1, c2, c3⟩ := hc
        obtain ⟨b1, b2, b3⟩ := yin gx h0
        have hcell : ycell ad tys (ws.set (ypl Z t z) (ad (ypl Z t z), .inl (cA, n, .inl (upd f x.toNatClampNeg (vp_nar .byte y))))) (yset g (ypl Z t z) i.toNat (v.bmod 256)) (ypl Z t z) e0.2.2 := by
          rw [g3]
          refine ⟨cA, _, zget_set c1, c2, fun j hj => ?_⟩
          by_cases hjj : j = x.toNatClampNeg
          · subst hjj
            rw [b3, yset_eq]
            simp only [upd, if_true]
            rw [ynarB, gy]
          · rw [yset_ne (fun q => hjj (by rw [b3]; exact q.2))]
            simp only [upd, if_neg hjj]
            exact c3 j hj
        exact va_bast hx hb hK hP hD hS (ypl Z t z) t0 c1 c2 b1 hd (fun H1 locs1 p1 p2 p3 =>
          k _ _ _ _ h2 ls stc _ H1 locs1 ⟨p1, p2, p3, hM.upd hZ he0 g1 g2 (fun q' hq => List.getElem?_set_ne (Ne.symm hq)) (fun q' j hq => yset_ne (fun z => hq z.1)) hcell, hL, hT⟩)
    · exact h.elim
theorem yk_last (hx : p.tables.exec = Jvm.exec) (hb : c.code = cc) (hK : va_K D cl tys s) (hZ : zDj Z) (h : yi_last Z pc nx L st g len) (hd : decode cc pc = .ok (.lastore, len)) (k : ∀ (pc' : Nat) (L' st' : List yV) (g' : yM), nx pc' L' st' g' → yWP (yG Z D cl tys A ad H0 nL) (fun H locs pc ls st => W p l e R s m args below meth c H locs ce sl Q (F0 m pc ls st)) pc' L' st' g') : yWP (yG Z D cl tys A ad H0 nL) (fun H locs pc ls st => W p l e R s m args below meth c H locs ce sl Q (F0 m pc ls st)) pc L st g := by
  match st, h with
  | (tv, v) :: (ti, i) :: (t, z) :: r, h =>
    unfold yi_last at h
    simp only at h
    split at h
    · rename_i kk t0 n fts ht
      obtain ⟨h1, h0, h2⟩ := ybif h
      rw [Bool.and_eq_true, Bool.and_eq_true, Bool.and_eq_true] at h1
      have e3 := ybeq h1.1
      subst e3
      have ev := ybeq h1.2.1
      subst ev
      have ei := ybeq h1.2.2.1
      subst ei
      have ek := ybeq h1.2.2.2
      subst ek
      intro ls stc ws H locs hG
      obtain ⟨hP, hD, hS, hM, hL, hT⟩ := hG
      match stc, hT with
      | v3 :: v2 :: v1 :: stc, ⟨hv3, hv2, hv1, hT⟩ =>
        obtain ⟨y, rfl, gy⟩ := yvL' hv3
        have gy : y.toInt = v := gy
        obtain ⟨x, rfl, gx⟩ := yvI' hv2
        have gx : x.toInt = i := gx
        obtain ⟨hv, e0, he0, g1, g2, g3⟩ := yty_ok ht hv1
        subst hv
        have hc := hM e0 he0 _ g1 g2
        rw [g3] at hc
        obtain ⟨cA, f, c1, c2, c3⟩ := hc
        obtain ⟨b1, b2, b3⟩ := yin gx h0
        have hcell : ycell ad tys (ws.set (ypl Z t z) (ad (ypl Z t z), .inl (cA, n, .inr (.inl (vp_updL f x.toNatClampNeg y))))) (yset g (ypl Z t z) i.toNat v) (ypl Z t z) e0.2.2 := by
          rw [g3]
          refine ⟨cA, _, zget_set c1, c2, fun j hj => ?_⟩
          by_cases hjj : j = x.toNatClampNeg
          · subst hjj
            rw [b3, yset_eq]
            simp only [vp_updL, if_true]
            exact gy
          · rw [yset_ne (fun q => hjj (by rw [b3]; exact q.2))]
            simp only [vp_updL, if_neg hjj]
            exact c3 j hj
        exact va_last hx hb hK hP hD hS (ypl Z t z) t0 c1 c2 b1 hd (fun H1 locs1 p1 p2 p3 =>
          k _ _ _ _ h2 ls stc _ H1 locs1 ⟨p1, p2, p3, hM.upd hZ he0 g1 g2 (fun q' hq => List.getElem?_set_ne (Ne.symm hq)) (fun q' j hq => yset_ne (fun z => hq z.1)) hcell, hL, hT⟩)
    · exact h.elim
/-- behind a call -/
theorem ys_run {ws : va_W} {ls : Array Slot} {stc restc : List Value} {H : Heap} {locs : List Loc} {KK : List yV → yM → Prop} {a : Array Value} (hG : yG Z D cl tys A ad H0 nL L st g ls restc ws H locs)
    (hr : va_Run p l e R s m args below meth c H locs ce sl 0 0 (F0 m pc ls stc) restc (yQc Z D cl tys A ad KK a) A) (k : ∀ (r : List yV) (g' : yM), KK r g' → yWP (yG Z D cl tys A ad H0 nL) (fun H locs pc ls st => W p l e R s m args below meth c H locs ce sl Q (F0 m pc ls st)) (pc + 3) L (r ++ st) g') : W p l e R s m args below meth c H locs ce sl Q (F0 m pc ls stc) := by
  intro T hT X
  obtain ⟨v, st₀, t, T', L', g0, X', hL', e1, e2, ⟨⟨hz, hk⟩, v', ws', r, g', hv, hP', hD', hM', hr', hK'⟩, hst⟩ := hr T hT X
  cases hv
  obtain ⟨hP, hD, hS, hM, hL, hT2⟩ := hG
  rw [g0] at hz hk
  have hS1 : va_S A H0 T'.heap (locs ++ L') := ⟨Nat.le_trans hS.1 (by rw [e1]; exact hz), fun q h1 h2 => by rw [e1, hk q (Nat.lt_of_lt_of_le h1 hS.1) h2]; exact hS.2.1 q h1 h2, fun q hq => by
    rcases List.mem_append.mp hq with h | h
    · exact hS.2.2 q h
    · exact hL' q h⟩
  obtain ⟨t2, a1, b1⟩ := k r g' hK' ls (v.toList ++ restc) ws' T'.heap _ ⟨by rw [e1]; exact hP', hD', hS1, hM', hL, hr'.app hT2⟩ T' rfl X'
  exact ⟨t2, hst t2 a1, b1⟩
/-- the pool's rows on calls, for any contract of that method -/
theorem yok8_ok {st : List yV} (h : yok8 st = true) : (st.map ycat).sum ≤ 8 := by
  unfold yok8 at h
  rw [Bool.and_eq_true] at h
  exact yble h.1
def yzC (mid : Nat) : zC := (mid, (0, 0), ([], ([], [], [], [], [], [])), [], [])
theorem ys_callV (hx : p.tables.exec = Jvm.exec) (hb : c.code = cc) (hcs : ce ≤ R.cells ∧ sl ≤ R.slots) (hml : c.maxLocals = nL) (hH0 : H0 = s.heap) {own : String} {Ts : List Cond} {RO : zRO} {MT : zMT} (hown : s.vm.findClass own = some m.cls) (hts : ∀ w ∈ Ts, w.before args s = true) (hTg : ∀ w ∈ Ts, goodWord w = true) (hK : va_K D cl tys s) (hR : zROk RO) (hro : RO ad A s s.heap) {cn : yC} (hM0 : yMet l Ts cl Z RO MT cn)
    {idx t ci x N : Nat} {z : Int} {T : u_T} {fts : List zFT} {as r : List yV} {KK : List yV → yM → Prop} (hd : decode cc pc = .ok (.invokevirtual idx, 3)) (hlk : zLkV Ts own idx (zKof MT (yzC cn.1)) as.length) (ht : yty Z t z = some (0, ci, x, fts)) (hcl : cl[ci]? = some ((MT cn.1).1.cls, T, N)) (hl : (ylay ((t, z) :: as)).length ≤ (MT cn.1).2.2.1)
    (hroom : cn.2.1.1 + 1 ≤ R.frames ∧ 8 + ((MT cn.1).2.2.1 + 11) + cn.2.1.2 ≤ R.locals) (h8 : yok8 r = true) (hpt : cn.2.2 ((t, z) :: as) g KK)
    (k : ∀ (v : List yV) (g' : yM), KK v g' → yWP (yG Z D cl tys A ad H0 nL) (fun H locs pc ls st => W p l e R s m args below meth c H locs ce sl Q (F0 m pc ls st)) (pc + 3) L (v ++ r) g') : yWP (yG Z D cl tys A ad H0 nL) (fun H locs pc ls st => W p l e R s m args below meth c H locs ce sl Q (F0 m pc ls st)) pc L (as.reverse ++ (t, z) :: r) g := by
  intro ls stc ws H locs hG
  obtain ⟨hP, hD, hS, hM, hL, hT⟩ := hG
  obtain ⟨v1, v2, rfl, hS1, hS2⟩ := hT.split
  match v2, hS2 with
  | v0 :: restc, ⟨hv0, hS3⟩ =>
    have hS1r := hS1.rev
    rw [List.reverse_reverse] at hS1r
    have hA : yS Z ad ((t, z) :: as) (v0 :: v1.reverse) := ⟨hv0, hS1r⟩
    obtain ⟨hv, e0, he0, g1, g2, g3⟩ := yty_ok ht hv0
    have hc := hM e0 he0 _ g1 g2
    rw [g3] at hc
    obtain ⟨fs, c1, -⟩ := hc
    obtain ⟨l1, l2, l3, l4, l5, l6, l7, l8⟩ := hlk
    have hgd : GoodIn Ts (wsV own idx (MT cn.1).1.cls (MT cn.1).1 (Cond.code (MT cn.1).1 (MT cn.1).2.1 (MT cn.1).2.2.1 (MT cn.1).2.2.2 :: Ts)) := zgoodIn hTg (fun w hw => by
      unfold wsV at hw
      rcases List.mem_append.mp hw with hw | hw
      · simp only [List.mem_cons, List.not_mem_nil, or_false] at hw
        rcases hw with rfl | rfl | rfl | rfl
        · exact l1
        · exact l2
        · exact l3
        · exact l4
      · rcases List.mem_cons.mp hw with rfl | hw
        · exact l5
        · exact hw)
    have hsum : (restc.map fun v => v.category).sum ≤ 8 := by rw [hS3.cats]; exact yok8_ok h8
    have hv : v0 = .ref (ad (ypl Z t z)) := hv
    subst hv
    refine ys_run (a := (Value.ref (ad (ypl Z t z)) :: v1.reverse).toArray) (st := r) ⟨hP, hD, hS, hM, hL, hS3⟩ ?_ k
    refine va_runV (As := v1.reverse) (rest := restc) (n := as.length) ⟨hx, hb, hml, hown, hts⟩ (hM0 D tys A ad ws g ((t, z) :: as) (.ref (ad (ypl Z t z)) :: v1.reverse) KK hM hA hl hD hpt) (cwV as.length hts hgd rfl rfl rfl ⟨rfl, l6, l7, l8⟩ hroom)
      ⟨zPc.blind hR, va_recv hK hP hcl c1, fun U hU hW => ⟨rfl, by rw [hU]; exact hP, va_K.moved hW.alike hK, ?_⟩⟩ rfl (by rw [List.length_reverse]; have := hS1.len; rw [List.length_reverse] at this; omega) hL.1 (by rw [List.reverse_reverse]) (lv_room hsum) hd ⟨hcs.1, hcs.2⟩
    rw [hU]
    refine hR.1 ad A s U H hW (hR.2.2 ad A s s.heap H (fun a h1 h2 => ?_) hro)
    rw [hH0] at hS
    exact hS.2.1 a h1 h2
theorem ys_callS (hx : p.tables.exec = Jvm.exec) (hb : c.code = cc) (hcs : ce ≤ R.cells ∧ sl ≤ R.slots) (hml : c.maxLocals = nL) (hH0 : H0 = s.heap) {own : String} {Ts : List Cond} {RO : zRO} {MT : zMT} (hown : s.vm.findClass own = some m.cls) (hts : ∀ w ∈ Ts, w.before args s = true) (hTg : ∀ w ∈ Ts, goodWord w = true) (hK : va_K D cl tys s) (hR : zROk RO) (hro : RO ad A s s.heap) {cn : yC} (hM0 : yMet l Ts cl Z RO MT cn)
    {idx : Nat} {as r : List yV} {KK : List yV → yM → Prop} (hd : decode cc pc = .ok (.invokestatic idx, 3)) (hlk : zLkS Ts (zKof MT (yzC cn.1)) as.length) (hln : (Cond.methodLink own idx (MT cn.1).1) ∈ Ts ∨ ∃ host, va_Nw (Cond.methodLinkNest own idx (MT cn.1).1 host) s) (hl : (ylay as).length ≤ (MT cn.1).2.2.1)
    (hroom : cn.2.1.1 + 1 ≤ R.frames ∧ 8 + ((MT cn.1).2.2.1 + 11) + cn.2.1.2 ≤ R.locals) (h8 : yok8 r = true) (hpt : cn.2.2 as g KK)
    (k : ∀ (v : List yV) (g' : yM), KK v g' → yWP (yG Z D cl tys A ad H0 nL) (fun H locs pc ls st => W p l e R s m args below meth c H locs ce sl Q (F0 m pc ls st)) (pc + 3) L (v ++ r) g') : yWP (yG Z D cl tys A ad H0 nL) (fun H locs pc ls st => W p l e R s m args below meth c H locs ce sl Q (F0 m pc ls st)) pc L (as.reverse ++ r) g := by
  intro ls stc ws H locs hG
  obtain ⟨hP, hD, hS, hM, hL, hT⟩ := hG
  obtain ⟨v1, restc, rfl, hS1, hS3⟩ := hT.split
  have hS1r := hS1.rev
  rw [List.reverse_reverse] at hS1r
  obtain ⟨l3, l4, l5, l6, l7, l8⟩ := hlk
  have hgd : GoodIn Ts (Cond.code (MT cn.1).1 (MT cn.1).2.1 (MT cn.1).2.2.1 (MT cn.1).2.2.2 :: Ts) := zgoodIn hTg (fun w hw => by
    rcases List.mem_cons.mp hw with rfl | hw
    · exact l5
    · exact hw)
  have hsum : (restc.map fun v => v.category).sum ≤ 8 := by rw [hS3.cats]; exact yok8_ok h8
  have hpre : PreS s H (zPc D cl tys A ad RO ws v1.reverse) v1.reverse := ⟨zPc.blind hR, fun U hU hW => ⟨rfl, by rw [hU]; exact hP, va_K.moved hW.alike hK, by
    rw [hU]
    refine hR.1 ad A s U H hW (hR.2.2 ad A s s.heap H (fun a h1 h2 => ?_) hro)
    rw [hH0] at hS
    exact hS.2.1 a h1 h2⟩⟩
  have hlen : v1.reverse.length = as.length := by rw [List.length_reverse]; have := hS1.len; rw [List.length_reverse] at this; omega
  refine ys_run (a := v1.reverse.toArray) (st := r) ⟨hP, hD, hS, hM, hL, hS3⟩ ?_ k
  rcases hln with hln | ⟨host, hln⟩
  · exact va_runS (As := v1.reverse) (rest := restc) (n := as.length) ⟨hx, hb, hml, hown, hts⟩ (hM0 D tys A ad ws g as v1.reverse KK hM hS1r hl hD hpt) ⟨callB_of as.length hts hgd rfl rfl rfl (hts _ l4) (hts _ hln) ⟨l6, l7, l8⟩ hroom, hts _ l3⟩ hpre rfl hlen hL.1 (by rw [List.reverse_reverse]) (lv_room hsum) hd ⟨hcs.1, hcs.2⟩
  · exact va_runSN (As := v1.reverse) (rest := restc) (n := as.length) ⟨hx, hb, hml, hown, hts⟩ (hM0 D tys A ad ws g as v1.reverse KK hM hS1r hl hD hpt) ⟨va_cnB as.length hts hgd rfl rfl rfl hln (hts _ l4) ⟨l6, l7, l8⟩ hroom, hts _ l3, trivial⟩ hpre rfl hlen hL.1 (by rw [List.reverse_reverse]) (lv_room hsum) hd ⟨hcs.1, hcs.2⟩
theorem ys_copy (hx : p.tables.exec = Jvm.exec) (hb : c.code = cc) {Ts : List Cond} {own : String} (hml : c.maxLocals = nL) (hown : s.vm.findClass own = some m.cls) (hts : ∀ w ∈ Ts, w.before args s = true) (hK : va_K D cl tys s) (hZ : zDj Z) {idx t u k1 k0 t1 t0 n1 n0 : Nat} {n dp z sp y : Int} {f1 f0 : List zFT} {r : List yV} (hd : decode cc pc = .ok (.invokestatic idx, 3))
    (hlk : Cond.methodLink own idx arraycopyName ∈ Ts ∧ Cond.native arraycopyName ∈ Ts ∧ Cond.static arraycopyName ∈ Ts ∧ Cond.initialized "java/lang/System" ∈ Ts) (h8 : yok8 r = true) (hrm : 1 ≤ R.frames ∧ 1000 ≤ R.locals) (ht1 : yty Z t z = some (k1, t1, n1, f1)) (ht0 : yty Z u y = some (k0, t0, n0, f0)) (hkk : ((Nat.beq k1 1 && Nat.beq k0 1) || (Nat.beq k1 3 && Nat.beq k0 3)) = true)
    (hb0 : 0 ≤ n ∧ 0 ≤ dp ∧ 0 ≤ sp ∧ sp + n ≤ (n0 : Int) ∧ dp + n ≤ (n1 : Int)) (kk : yWP (yG Z D cl tys A ad H0 nL) (fun H locs pc ls st => W p l e R s m args below meth c H locs ce sl Q (F0 m pc ls st)) (pc + 3) L r (ycpy g (ypl Z t z) (ypl Z u y) sp.toNat dp.toNat n.toNat)) : yWP (yG Z D cl tys A ad H0 nL) (fun H locs pc ls st => W p l e R s m args below meth c H locs ce sl Q (F0 m pc ls st)) pc L ((1, n) :: (1, dp) :: (t, z) :: (1, sp) :: (u, y) :: r) g := by
  intro ls stc ws H locs hG
  obtain ⟨hP, hD, hS, hM, hL, hT⟩ := hG
  match stc, hT with
  | v5 :: v4 :: v3 :: v2 :: v1 :: stc, ⟨hv5, hv4, hv3, hv2, hv1, hT⟩ =>
    obtain ⟨x, rfl, gx⟩ := yvI' hv5
    obtain ⟨w, rfl, gw⟩ := yvI' hv4
    obtain ⟨q, rfl, gq⟩ := yvI' hv2
    have gx : x.toInt = n := gx
    have gw : w.toInt = dp := gw
    have gq : q.toInt = sp := gq
    obtain ⟨hv, e1, he1, a1, a2, a3⟩ := yty_ok ht1 hv3
    have hv : v3 = .ref (ad (ypl Z t z)) := hv
    subst hv
    obtain ⟨hv', e0, he0, c1, c2, c3⟩ := yty_ok ht0 hv1
    have hv' : v1 = .ref (ad (ypl Z u y)) := hv'
    subst hv'
    have hc1 := hM e1 he1 _ a1 a2
    have hc0 := hM e0 he0 _ c1 c2
    rw [a3] at hc1
    rw [c3] at hc0
    have nx0 : ¬ x < 0 := by rw [Int32.lt_iff_toInt_lt, Int32.toInt_zero]; omega
    have nw0 : ¬ w < 0 := by rw [Int32.lt_iff_toInt_lt, Int32.toInt_zero]; omega
    have nq0 : ¬ q < 0 := by rw [Int32.lt_iff_toInt_lt, Int32.toInt_zero]; omega
    have cx : x.toNatClampNeg = n.toNat := by have e : x.toNatClampNeg = x.toInt.toNat := rfl; rw [e, gx]
    have cw : w.toNatClampNeg = dp.toNat := by have e : w.toNatClampNeg = w.toInt.toNat := rfl; rw [e, gw]
    have cq : q.toNatClampNeg = sp.toNat := by have e : q.toNatClampNeg = q.toInt.toNat := rfl; rw [e, gq]
    have hloc : (stc.map fun v => v.category).sum + (nativeFrameWords "java/lang/System" "arraycopy" 5 + 11) ≤ R.locals := by
      rw [hT.cats]
      have h9 : nativeFrameWords "java/lang/System" "arraycopy" 5 + 11 ≤ 900 := by decide
      have := yok8_ok h8
      omega
    rcases Bool.or_eq_true_iff.mp hkk with hk | hk
    · rw [Bool.and_eq_true] at hk
      have ek1 := ybeq hk.1
      have ek0 := ybeq hk.2
      subst ek1
      subst ek0
      obtain ⟨cB, f', s4, s5, s6⟩ := hc1
      obtain ⟨cA, f, s1, s2, s3⟩ := hc0
      refine va_copyi hx hb (hml.trans hL.1.symm) hown (hts _ hlk.1) (hts _ hlk.2.1) (hts _ hlk.2.2.1) (hts _ hlk.2.2.2) hK hP hD hS (ypl Z u y) (ypl Z t z) t0 t1 s1 s4 s2 s5 rfl nq0 nw0 nx0 (by omega) (by omega) (fun i hi => rfl) hrm.1 hloc hd (fun H1 locs1 p1 p2 p3 => ?_)
      have hcell : ycell ad tys (ws.set (ypl Z t z) (ad (ypl Z t z), .inl (cB, n1, .inl (va_cpy f f' q.toNatClampNeg w.toNatClampNeg x.toNatClampNeg)))) (ycpy g (ypl Z t z) (ypl Z u y) sp.toNat dp.toNat n.toNat) (ypl Z t z) e1.2.2 := by
        rw [a3]
        refine ⟨cB, _, zget_set s4, s5, fun j hj => ?_⟩
        unfold va_cpy ycpy
        rw [cx, cw, cq]
        by_cases hin : dp.toNat ≤ j ∧ j < dp.toNat + n.toNat
        · rw [if_pos hin, if_pos ⟨rfl, hin⟩]
          exact s3 _ (by omega)
        · rw [if_neg hin, if_neg (fun q => hin q.2)]
          exact s6 j hj
      exact kk ls stc _ H1 locs1 ⟨p1, p2, p3, hM.upd hZ he1 a1 a2 (fun q' hq => List.getElem?_set_ne (Ne.symm hq)) (fun q' j hq => if_neg (fun z => hq z.1)) hcell, hL, hT⟩
    · rw [Bool.and_eq_true] at hk
      have ek1 := ybeq hk.1
      have ek0 := ybeq hk.2
      subst ek1
      subst ek0
      obtain ⟨cB, f', s4, s5, s6⟩ := hc1
      obtain ⟨cA, f, s1, s2, s3⟩ := hc0
      refine va_copyl hx hb (hml.trans hL.1.symm) hown (hts _ hlk.1) (hts _ hlk.2.1) (hts _ hlk.2.2.1) (hts _ hlk.2.2.2) hK hP hD hS (ypl Z u y) (ypl Z t z) t0 t1 s1 s4 s2 s5 rfl nq0 nw0 nx0 (by omega) (by omega) (fun i hi => rfl) hrm.1 hloc hd (fun H1 locs1 p1 p2 p3 => ?_)
      have hcell : ycell ad tys (ws.set (ypl Z t z) (ad (ypl Z t z), .inl (cB, n1, .inr (.inl (va_cpy f f' q.toNatClampNeg w.toNatClampNeg x.toNatClampNeg))))) (ycpy g (ypl Z t z) (ypl Z u y) sp.toNat dp.toNat n.toNat) (ypl Z t z) e1.2.2 := by
        rw [a3]
        refine ⟨cB, _, zget_set s4, s5, fun j hj => ?_⟩
        unfold va_cpy ycpy
        rw [cx, cw, cq]
        by_cases hin : dp.toNat ≤ j ∧ j < dp.toNat + n.toNat
        · rw [if_pos hin, if_pos ⟨rfl, hin⟩]
          exact s3 _ (by omega)
        · rw [if_neg hin, if_neg (fun q => hin q.2)]
          exact s6 j hj
      exact kk ls stc _ H1 locs1 ⟨p1, p2, p3, hM.upd hZ he1 a1 a2 (fun q' hq => List.getElem?_set_ne (Ne.symm hq)) (fun q' j hq => if_neg (fun z => hq z.1)) hcell, hL, hT⟩
end YH
end
section
/-! CALLS, RETURNS, ONE STEP, A METHOD'S CONTRACT OF THE PURE MACHINE -/
section YA
variable {p : Program} {l : Launch} {e : Env} {R : Room} {s : State} {m : MethodId} {args : Array Value} {below : List Frame} {meth : Method} {c : Code} {Q : State → Prop} {cc : ByteArray} {pc ce sl : Nat}
variable {Z : zZ} {D : va_G} {cl : List vw_C} {tys : List (ClassId × FieldType)} {A : Nat → Prop} {ad : Nat → Nat} {H0 : Heap} {nL : Nat}
variable {nx : yNx} {L st : List yV} {g : yM} {len : Nat}
theorem yk_call (hx : p.tables.exec = Jvm.exec) (hb : c.code = cc) (hcs : ce ≤ R.cells ∧ sl ≤ R.slots) (hml : c.maxLocals = nL) (hH0 : H0 = s.heap) {own : String} {Ts : List Cond} {RO : zRO} (hown : s.vm.findClass own = some m.cls) (hts : ∀ w ∈ Ts, w.before args s = true) (hTg : ∀ w ∈ Ts, goodWord w = true) (hK : va_K D cl tys s) (hR : zROk RO) (hro : RO ad A s s.heap) (hZ : zDj Z)
    {P : zPool} {MT : zMT} {CS : List yC} {rm : Nat × Nat} {virt : Bool} {idx : Nat} (hCS : ∀ cn ∈ CS, yMet l Ts cl Z RO MT cn) (hML : ∀ q ∈ P.2.2.2.1, zMLok Ts cl MT own s q) (hrm : rm.1 ≤ R.frames ∧ rm.2 ≤ R.locals)
    (h : yi_call Z P MT CS rm virt pc nx L st g idx len) (hdv : virt = true → decode cc pc = .ok (.invokevirtual idx, len)) (hds : virt = false → decode cc pc = .ok (.invokestatic idx, len)) (k : ∀ (pc' : Nat) (L' st' : List yV) (g' : yM), nx pc' L' st' g' → yWP (yG Z D cl tys A ad H0 nL) (fun H locs pc ls st => W p l e R s m args below meth c H locs ce sl Q (F0 m pc ls st)) pc' L' st' g') : yWP (yG Z D cl tys A ad H0 nL) (fun H locs pc ls st => W p l e R s m args below meth c H locs ce sl Q (F0 m pc ls st)) pc L st g := by
  unfold yi_call at h
  split at h
  · rename_i q hq
    have hqm := List.mem_of_find?_eq_some hq
    have hqi : q.1 = idx := by have := List.find?_some hq; simpa using this
    have hML := hML q hqm
    cases hc1 : (Nat.beq len 3 && (virt && Nat.beq q.2.1 0)) with
    | true =>
      rw [hc1] at h
      rw [Bool.and_eq_true, Bool.and_eq_true] at hc1
      have e3 := ybeq hc1.1
      subst e3
      have hq0 := ybeq hc1.2.2
      obtain ⟨a, r0, hst, hln, h⟩ := ytake_ok h
      simp only [List.append_nil] at h
      match r0, hst, h with
      | (t, z) :: r, hst, h =>
        simp only at h
        split at h
        · rename_i ci x fts ht
          obtain ⟨h1, h⟩ := ybif h
          have hci := ybeq h1
          unfold ycall at h
          split at h
          · rename_i cn hcn
            obtain ⟨h2, h⟩ := ybif h
            rw [Bool.and_eq_true, Bool.and_eq_true, Bool.and_eq_true, Bool.and_eq_true] at h2
            have hcm := List.mem_of_find?_eq_some hcn
            have hmid : cn.1 = q.2.2.1 := by have h9 := List.find?_some hcn; exact ybeq h9
            rw [← hmid] at h2
            obtain ⟨lk, T, N, hcl⟩ := hML.1 hq0 (yzC cn.1) hmid
            rw [hqi] at lk
            have hla : a.reverse.length = q.2.2.2.1 := by rw [List.length_reverse]; exact hln
            rw [← hla] at lk
            have key := ys_callV (as := a.reverse) (r := r) (g := g) (L := L) (pc := pc) (below := below) (e := e) (meth := meth) (Q := Q) hx hb hcs hml hH0 hown hts hTg hK hR hro (hCS cn hcm) (hdv hc1.2.1) lk ht (by rw [hci]; exact hcl) (yble h2.2.2.1) ⟨Nat.le_trans (yble h2.1) hrm.1, Nat.le_trans (yble h2.2.1) hrm.2⟩ h2.2.2.2.1 h (fun v g' hh => k _ _ _ _ hh)
            rw [List.reverse_reverse] at key
            rw [hst]
            exact key
          · exact h.elim
        · exact h.elim
    | false =>
      rw [hc1] at h
      cases hc2 : (Nat.beq len 3 && (!virt && (Nat.beq q.2.1 1 || Nat.beq q.2.1 2))) with
      | true =>
        rw [hc2] at h
        rw [Bool.and_eq_true, Bool.and_eq_true] at hc2
        have e3 := ybeq hc2.1
        subst e3
        have hvf : virt = false := by
          have := hc2.2.1
          cases virt with
          | true => cases this
          | false => rfl
        obtain ⟨a, r, hst, hln, h⟩ := ytake_ok h
        simp only [List.append_nil] at h
        unfold ycall at h
        split at h
        · rename_i cn hcn
          obtain ⟨h2, h⟩ := ybif h
          rw [Bool.and_eq_true, Bool.and_eq_true, Bool.and_eq_true, Bool.and_eq_true] at h2
          have hcm := List.mem_of_find?_eq_some hcn
          have hmid : cn.1 = q.2.2.1 := by have h9 := List.find?_some hcn; exact ybeq h9
          rw [← hmid] at h2
          have hlk : zLkS Ts (zKof MT (yzC cn.1)) q.2.2.2.1 ∧ ((Cond.methodLink own idx (MT cn.1).1) ∈ Ts ∨ ∃ host, va_Nw (Cond.methodLinkNest own idx (MT cn.1).1 host) s) := by
            rcases Bool.or_eq_true_iff.mp hc2.2.2 with c3 | c3
            · have := hML.2.1 (ybeq c3) (yzC cn.1) hmid
              rw [hqi] at this
              exact ⟨this.1, Or.inl this.2⟩
            · have := hML.2.2.1 (ybeq c3) (yzC cn.1) hmid
              rw [hqi] at this
              exact ⟨this.1, Or.inr this.2⟩
          obtain ⟨lk, ln⟩ := hlk
          have hla : a.reverse.length = q.2.2.2.1 := by rw [List.length_reverse]; exact hln
          rw [← hla] at lk
          have key := ys_callS (as := a.reverse) (r := r) (g := g) (L := L) (pc := pc) (below := below) (e := e) (meth := meth) (Q := Q) hx hb hcs hml hH0 hown hts hTg hK hR hro (hCS cn hcm) (hds hvf) lk ln (yble h2.2.2.1) ⟨Nat.le_trans (yble h2.1) hrm.1, Nat.le_trans (yble h2.2.1) hrm.2⟩ h2.2.2.2.1 h (fun v g' hh => k _ _ _ _ hh)
          rw [List.reverse_reverse] at key
          rw [hst]
          exact key
        · exact h.elim
      | false =>
        rw [hc2] at h
        cases hc3 : (Nat.beq len 3 && (!virt && (Nat.beq q.2.1 4 && (Nat.ble 1 rm.1 && Nat.ble 1000 rm.2)))) with
        | true =>
          rw [hc3] at h
          rw [Bool.and_eq_true, Bool.and_eq_true, Bool.and_eq_true, Bool.and_eq_true] at hc3
          have e3 := ybeq hc3.1
          subst e3
          have hvf : virt = false := by
            have := hc3.2.1
            cases virt with
            | true => cases this
            | false => rfl
          match st, h with
          | (tn, n) :: (td, dp) :: (t, z) :: (ts, sp) :: (u, y) :: r, h =>
            simp only [cond_true, cond_false] at h
            split at h
            · rename_i k1 t1 n1 f1 k0 t0 n0 f0 ht1 ht0
              obtain ⟨h1, hb0, hgo⟩ := ybif h
              rw [Bool.and_eq_true, Bool.and_eq_true, Bool.and_eq_true, Bool.and_eq_true] at h1
              have e1 := ybeq h1.1.1
              have e2 := ybeq h1.1.2.1
              have e4 := ybeq h1.1.2.2
              subst e1
              subst e2
              subst e4
              have hc4 := hML.2.2.2 (ybeq hc3.2.2.1)
              rw [hqi] at hc4
              exact ys_copy hx hb hml hown hts hK hZ (hds hvf) hc4 h1.2.1 ⟨Nat.le_trans (yble hc3.2.2.2.1) hrm.1, Nat.le_trans (yble hc3.2.2.2.2) hrm.2⟩ ht1 ht0 h1.2.2 hb0 (k _ _ _ _ hgo)
            · exact h.elim
        | false =>
          rw [hc3] at h
          exact h.elim
  · exact h.elim
theorem yk_ret (hx : p.tables.exec = Jvm.exec) (hb : c.code = cc) {rc kd : Nat} {K : List yV → yM → Prop} (hH0 : H0 = s.heap) (hlocks : meth.locks = false) (hr0 : rc = 0 → meth.sig.returnType = none) (hr1 : rc = 1 → meth.sig.returnType = some .int) (hr2 : rc = 2 → meth.sig.returnType = some .boolean) (hr3 : rc = 3 → meth.sig.returnType = some .long) (h : yi_ret rc K st g kd len) (hd0 : kd = 0 → decode cc pc = .ok (.return_, len)) (hd1 : kd = 1 → decode cc pc = .ok (.ireturn, len)) (hd2 : kd = 2 → decode cc pc = .ok (.lreturn, len)) : yWP (yG Z D cl tys A ad H0 nL) (fun H locs pc ls st => W p l e R s m args below meth c H locs 0 0 (MQ below (yQc Z D cl tys A ad K) args s 0 0 A) (F0 m pc ls st)) pc L st g := by
  intro ls stc ws H locs hG
  obtain ⟨hP, hD, hS, hM, hL, hT⟩ := hG
  have fin : ∀ (v : Option Value) (r : List yV) (t : State), yS Z ad r v.toList → K r g → t.heap = H → yQc Z D cl tys A ad K args s (.returned v) t := fun v r t h1 h2 ht => by
    have hS2 := hS
    rw [hH0] at hS2
    exact ⟨hS2.F ht, v, ws, r, g, rfl, by rw [ht]; exact hP, hD, hM, h1, h2⟩
  unfold yi_ret at h
  split at h
  · obtain ⟨h1, h2⟩ := ybif h
    rw [Bool.and_eq_true] at h1
    have el := ybeq h1.1
    subst el
    match stc, hT with
    | [], _ => exact W.vret hx hb (hr0 (ybeq h1.2)) (fun t ht _ => fin none [] t trivial h2 ht) hS.2.2 (hd0 rfl) hlocks
  · rename_i t x
    match stc, hT with
    | [v], ⟨hv, _⟩ =>
      cases hc : (Nat.beq len 1 && (Nat.beq t 1 && Nat.beq rc 1)) with
      | true =>
        rw [hc] at h
        rw [Bool.and_eq_true, Bool.and_eq_true] at hc
        have el := ybeq hc.1
        subst el
        have et := ybeq hc.2.1
        subst et
        have hv0 : yval Z ad 1 x v := hv
        obtain ⟨y, rfl, -⟩ := yvI' hv
        exact W.iret hx hb (hr1 (ybeq hc.2.2)) (fun t ht _ => fin (some (.int y)) [(1, x)] t ⟨hv0, trivial⟩ h ht) hS.2.2 (hd1 rfl) hlocks
      | false =>
        rw [hc] at h
        obtain ⟨h1, h3, h2⟩ := ybif h
        rw [Bool.and_eq_true, Bool.and_eq_true] at h1
        have el := ybeq h1.1
        subst el
        have et := ybeq h1.2.1
        subst et
        have hv0 : yval Z ad 1 x v := hv
        obtain ⟨y, rfl, hy⟩ := yvI' hv
        have hy : y.toInt = x := hy
        have hn : narrow .boolean (.int y) = .int y := by
          rcases (show y.toInt = 0 ∨ y.toInt = 1 by omega) with e | e
          · have : y = 0 := Int32.toInt_inj.mp (by rw [e]; rfl)
            subst this
            decide
          · have : y = 1 := Int32.toInt_inj.mp (by rw [e]; rfl)
            subst this
            decide
        exact W.zret hx hb (hr2 (ybeq h1.2.2)) hn (fun t ht _ => fin (some (.int y)) [(1, x)] t ⟨hv0, trivial⟩ h2 ht) hS.2.2 (hd1 rfl) hlocks
  · rename_i t x
    obtain ⟨h1, h2⟩ := ybif h
    rw [Bool.and_eq_true, Bool.and_eq_true] at h1
    have el := ybeq h1.1
    subst el
    have et := ybeq h1.2.1
    subst et
    match stc, hT with
    | [v], ⟨hv, _⟩ =>
      have hv0 : yval Z ad 2 x v := hv
      obtain ⟨y, rfl, -⟩ := yvL' hv
      exact W.lret hx hb (hr3 (ybeq h1.2.2)) (fun t ht _ => fin (some (.long y)) [(2, x)] t ⟨hv0, trivial⟩ h2 ht) hS.2.2 (hd2 rfl) hlocks
  · exact h.elim
end YA
/-- what a method's walk rests on -/
def yCtx (p : Program) (l : Launch) (e : Env) (R : Room) (s : State) (m : MethodId) (args : Array Value) (below : List Frame) (meth : Method) (c : Code) (cc : ByteArray) (own : String) (nL : Nat) (Ts : List Cond) (RO : zRO) (cl : List vw_C) (X : yX) (D : va_G) (tys : List (ClassId × FieldType)) (A : Nat → Prop) (ad : Nat → Nat) (H0 : Heap) (ce sl : Nat) (Q : State → Prop) (K : List yV → yM → Prop) : Prop :=
  (p.tables.exec = Jvm.exec ∧ c.code = cc ∧ c.maxLocals = nL ∧ H0 = s.heap ∧ s.vm.findClass own = some m.cls) ∧
  ((∀ w ∈ Ts, w.before args s = true) ∧ (∀ w ∈ Ts, goodWord w = true) ∧ va_K D cl tys s ∧ zROk RO ∧ RO ad A s s.heap ∧ zDj X.1) ∧
  (X.2.2.2.2.2.1.1 ≤ R.frames ∧ X.2.2.2.2.2.1.2 ≤ R.locals) ∧
  ((∀ f ∈ X.2.2.1.1, zFld cl s args own f.1 f.2.1 f.2.2.1) ∧ (∀ f ∈ X.2.2.1.1, f.2.2.2 ≤ 2 → zFldP cl s args own f.1 f.2.1 f.2.2.1 f.2.2.2) ∧ (∀ q ∈ X.2.2.1.2.1, -2147483648 ≤ q.2 ∧ q.2 ≤ 2147483647 ∧ (Jvm.Cond.constant own q.1 (Int32.ofInt q.2)).before args s = true) ∧ (∀ q ∈ X.2.2.1.2.2.1, -9223372036854775808 ≤ q.2 ∧ q.2 ≤ 9223372036854775807 ∧ (Jvm.Cond.constantLong own q.1 (Int64.ofInt q.2)).before args s = true) ∧ (∀ q ∈ X.2.2.1.2.2.2.1, zMLok Ts cl X.2.2.2.1 own s q)) ∧
  (∀ q ∈ X.2.2.1.2.2.2.2.1, ∀ (pc : Nat) (H : Heap) (locs : List Loc) (ls : Array Slot) (rest : List Value), decode cc pc = .ok (.getstatic q.1, 3) → va_S A H0 H locs → W p l e R s m args below meth c H locs ce sl Q (F0 m (pc + 3) ls (.ref (ad q.2) :: rest)) → W p l e R s m args below meth c H locs ce sl Q (F0 m pc ls rest)) ∧
  (∀ (i : Nat) (tb : List Int), X.2.1[i]? = some tb → ∀ (pc : Nat) (H : Heap) (locs : List Loc) (ls : Array Slot) (rest : List Value) (x : Int32), decode cc pc = .ok (.iaload, 1) → va_S A H0 H locs → vp_in x tb.length → W p l e R s m args below meth c H locs ce sl Q (F0 m (pc + 1) ls (.int (Int32.ofInt (tb.getD x.toNatClampNeg 0)) :: rest)) → W p l e R s m args below meth c H locs ce sl Q (F0 m pc ls (.int x :: .ref (ad (1000 + i)) :: rest))) ∧
  (∀ tb ∈ X.2.1, ∀ v ∈ tb, -2147483648 ≤ v ∧ v ≤ 2147483647) ∧ (∀ cn ∈ X.2.2.2.2.1, yMet l Ts cl X.1 RO X.2.2.2.1 cn) ∧ (ce ≤ R.cells ∧ sl ≤ R.slots) ∧
  (∀ (kd pc len : Nat) (L st : List yV) (g : yM), yi_ret X.2.2.2.2.2.2 K st g kd len → (kd = 0 → decode cc pc = .ok (.return_, len)) → (kd = 1 → decode cc pc = .ok (.ireturn, len)) → (kd = 2 → decode cc pc = .ok (.lreturn, len)) → yWP (yG X.1 D cl tys A ad H0 nL) (fun H locs pc ls st => W p l e R s m args below meth c H locs ce sl Q (F0 m pc ls st)) pc L st g)
section YB
variable {p : Program} {l : Launch} {e : Env} {R : Room} {s : State} {m : MethodId} {args : Array Value} {below : List Frame} {meth : Method} {c : Code} {Q : State → Prop} {cc : ByteArray} {pc ce sl : Nat}
variable {Z : zZ} {D : va_G} {cl : List vw_C} {tys : List (ClassId × FieldType)} {A : Nat → Prop} {ad : Nat → Nat} {H0 : Heap} {nL : Nat}
variable {nx : yNx} {L st : List yV} {g : yM} {len : Nat}
variable {own : String} {Ts : List Cond} {RO : zRO} {K : List yV → yM → Prop} {X : yX}
set_option maxHeartbeats 4000000 in
theorem ystep_ok {ins : Instr} (C : yCtx p l e R s m args below meth c cc own nL Ts RO cl X D tys A ad H0 ce sl Q K) (h : ystep X K nx pc L st g ins len) (hd : decode cc pc = .ok (ins, len)) (k : ∀ (pc' : Nat) (L' st' : List yV) (g' : yM), nx pc' L' st' g' → yWP (yG X.1 D cl tys A ad H0 nL) (fun H locs pc ls st => W p l e R s m args below meth c H locs ce sl Q (F0 m pc ls st)) pc' L' st' g') : yWP (yG X.1 D cl tys A ad H0 nL) (fun H locs pc ls st => W p l e R s m args below meth c H locs ce sl Q (F0 m pc ls st)) pc L st g := by
  obtain ⟨⟨hx, hb, hml, hH0, hown⟩, ⟨hts, hTg, hK, hR, hro, hZ⟩, hrm, ⟨hFl, hFp, hI, hJ, hML⟩, hGS, hRS, hRb, hCS, hcs, hret⟩ := C
  cases ins with
  | iconst n => exact yk_cI h (fun a b => zofI a b) (fun e H locs ls rest => by subst e; exact lv_iconst hx hb hd rfl) k
  | bipush n => 
    refine yk_cI (v := (Int8.ofInt n).toInt32) h (fun a b => ?_) (fun e H locs ls rest => by subst e; exact lv_bipush hx hb hd rfl) k
    have a : (-128 : Int) ≤ n := a
    have b : n ≤ 127 := b
    rw [Int8.toInt_toInt32, Int8.toInt_ofInt, show Int8.size = 256 from rfl, Int.bmod_eq_of_le (by omega) (by omega)]
  | sipush n => 
    refine yk_cI (v := (Int16.ofInt n).toInt32) h (fun a b => ?_) (fun e H locs ls rest => by subst e; exact lv_sipush hx hb hd rfl) k
    have a : (-32768 : Int) ≤ n := a
    have b : n ≤ 32767 := b
    rw [Int16.toInt_toInt32, Int16.toInt_ofInt, show Int16.size = 65536 from rfl, Int.bmod_eq_of_le (by omega) (by omega)]
  | lconst n => 
    refine yk_cL (v := Int64.ofNat (n : Nat)) h (fun a b => ?_) (fun e H locs ls rest => by subst e; exact lv_lconst hx hb hd rfl) k
    rw [Int64.toInt_ofNat_of_lt (by omega)]
  | ldc i => exact yk_ldcI h (fun e q hq hi => by subst e; subst hi; exact ⟨_, zofI (hI q hq).1 (hI q hq).2.1, fun H locs ls rest => lv_ldc hx hb hown (hI q hq).2.2 hd⟩) k
  | ldc_w i => exact yk_ldcI h (fun e q hq hi => by subst e; subst hi; exact ⟨_, zofI (hI q hq).1 (hI q hq).2.1, fun H locs ls rest => lv_ldcw hx hb hown (hI q hq).2.2 hd⟩) k
  | ldc2_w i => exact yk_ldcL h (fun e q hq hi => by subst e; subst hi; exact ⟨_, zofL (hJ q hq).1 (hJ q hq).2.1, fun H locs ls rest => lv_ldc2 hx hb hown (hJ q hq).2.2 hd⟩) k
  | iload_n q => exact yk_ldI h (fun e H locs ls rest x hl => by subst e; exact lv_iload_n hx hb hd rfl hl) k
  | iload q => exact yk_ldI h (fun e H locs ls rest x hl => by subst e; exact lv_iload hx hb hd hl) k
  | istore_n q => exact yk_stI h (fun e H locs ls rest x hl hn kk => by subst e; exact lv_istore_n hx hb hd rfl hl hn rfl kk) k
  | istore q => exact yk_stI h (fun e H locs ls rest x hl hn kk => by subst e; exact lv_istore hx hb hd hl hn rfl kk) k
  | lload_n q => exact yk_ldL h (fun e H locs ls rest x hl => by subst e; exact lv_lload_n hx hb hd rfl hl) k
  | lload q => exact yk_ldL h (fun e H locs ls rest x hl => by subst e; exact lv_lload hx hb hd hl) k
  | lstore_n q => exact yk_stL h (fun e H locs ls rest x hl hn kk => by subst e; exact lv_lstore_n hx hb hd rfl hl hn rfl kk) k
  | lstore q => exact yk_stL h (fun e H locs ls rest x hl hn kk => by subst e; exact lv_lstore hx hb hd hl hn rfl kk) k
  | aload_n q => exact yk_ldA h (fun e H locs ls rest x hl => by subst e; exact lv_aload_n hx hb hd rfl hl) k
  | aload q => exact yk_ldA h (fun e H locs ls rest x hl => by subst e; exact lv_aload hx hb hd hl) k
  | astore_n q => exact yk_stA h (fun e H locs ls rest x hl hn kk => by subst e; exact lv_astore_n hx hb hd rfl hl hn rfl kk) k
  | astore q => exact yk_stA h (fun e H locs ls rest x hl hn kk => by subst e; exact lv_astore hx hb hd hl hn rfl kk) k
  | iinc i d => exact yk_iinc hx hb h hd k
  | iadd => exact yk_bin (w := fun x y => x + y) h (fun x y => by rw [Int32.toInt_add]; rfl) (fun e H locs ls rest x y kk => by subst e; exact lv_iadd hx hb hd kk) k
  | isub => exact yk_bin (w := fun x y => x - y) h (fun x y => by rw [Int32.toInt_sub]; rfl) (fun e H locs ls rest x y kk => by subst e; exact lv_isub hx hb hd kk) k
  | imul => exact yk_bin (w := fun x y => x * y) h (fun x y => by rw [Int32.toInt_mul]; rfl) (fun e H locs ls rest x y kk => by subst e; exact lv_imul hx hb hd kk) k
  | iand => exact yk_bin (w := fun x y => x &&& y) h (fun x y => by unfold yb; rw [yofI, yofI]) (fun e H locs ls rest x y kk => by subst e; exact lv_iand hx hb hd kk) k
  | ior => exact yk_bin (w := fun x y => x ||| y) h (fun x y => by unfold yb; rw [yofI, yofI]) (fun e H locs ls rest x y kk => by subst e; exact lv_ior hx hb hd kk) k
  | ixor => exact yk_bin (w := fun x y => x ^^^ y) h (fun x y => by unfold yb; rw [yofI, yofI]) (fun e H locs ls rest x y kk => by subst e; exact lv_ixor hx hb hd kk) k
  | ishl => exact yk_bin (w := fun x y => x <<< (y &&& 31)) h (fun x y => by unfold yb; rw [yofI, yofI]) (fun e H locs ls rest x y kk => by subst e; exact lv_ishl hx hb hd kk) k
  | ishr => exact yk_bin (w := fun x y => x >>> (y &&& 31)) h (fun x y => by unfold yb; rw [yofI, yofI]) (fun e H locs ls rest x y kk => by subst e; exact lv_ishr hx hb hd kk) k
  | iushr => exact yk_bin (w := fun x y => (x.toUInt32 >>> (y.toUInt32 &&& Int32.toUInt32 31)).toInt32) h (fun x y => by unfold yb; rw [yofI, yofI]) (fun e H locs ls rest x y kk => by subst e; exact lv_iushr hx hb hd rfl kk) k
  | idiv => exact yk_dr (w := fun x y => x / y) h (fun x y => by unfold yb; rw [yofI, yofI]) (fun e H locs ls rest x y hy kk => by subst e; exact lv_idiv hx hb hd hy kk) k
  | irem => exact yk_dr (w := fun x y => x - x / y * y) h (fun x y => by unfold yb; rw [yofI, yofI]) (fun e H locs ls rest x y hy kk => by subst e; exact lv_irem hx hb hd hy kk) k
  | ineg => exact yk_una (w := fun x => -x) h (fun x => by rw [Int32.toInt_neg]; rfl) (fun e H locs ls rest x kk => by subst e; exact lv_ineg hx hb hd kk) k
  | i2b => exact yk_una (w := fun x => x.toInt8.toInt32) h (fun x => by rw [Int8.toInt_toInt32, Int32.toInt_toInt8]) (fun e H locs ls rest x kk => by subst e; exact lv_i2b hx hb hd rfl kk) k
  | i2s => exact yk_una (w := fun x => x.toInt16.toInt32) h (fun x => by rw [Int16.toInt_toInt32, Int32.toInt_toInt16]) (fun e H locs ls rest x kk => by subst e; exact lv_i2s hx hb hd rfl kk) k
  | i2c => exact yk_una (w := fun x => (x.toUInt32 % 65536).toInt32) h (fun x => by unfold yu; rw [yofI]) (fun e H locs ls rest x kk => by subst e; exact lv_i2c hx hb hd rfl kk) k
  | i2l => exact yk_i2l hx hb h hd k
  | l2i => exact yk_l2i hx hb h hd k
  | lcmp => exact yk_lcmp hx hb h hd k
  | ladd => exact yk_binL (w := fun x y => x + y) h (fun x y => by rw [Int64.toInt_add]; rfl) (fun e H locs ls rest x y kk => by subst e; exact lv_ladd hx hb hd kk) k
  | land => exact yk_binL (w := fun x y => x &&& y) h (fun x y => by unfold ybl; rw [yofL, yofL]) (fun e H locs ls rest x y kk => by subst e; exact lv_land hx hb hd kk) k
  | lor => exact yk_binL (w := fun x y => x ||| y) h (fun x y => by unfold ybl; rw [yofL, yofL]) (fun e H locs ls rest x y kk => by subst e; exact lv_lor hx hb hd kk) k
  | lshl => exact yk_shL (w := fun x y => x <<< (y.toInt64 &&& 63)) h (fun x y => by unfold ysh; rw [yofI, yofL]) (fun e H locs ls rest x y kk => by subst e; exact lv_lshl hx hb hd rfl kk) k
  | lshr => exact yk_shL (w := fun x y => x >>> (y.toInt64 &&& 63)) h (fun x y => by unfold ysh; rw [yofI, yofL]) (fun e H locs ls rest x y kk => by subst e; exact lv_lshr hx hb hd rfl kk) k
  | lushr => exact yk_shL (w := fun x y => (x.toUInt64 >>> (y.toInt64.toUInt64 &&& Int64.toUInt64 63)).toInt64) h (fun x y => by unfold ysh; rw [yofI, yofL]) (fun e H locs ls rest x y kk => by subst e; exact lv_lushr hx hb hd rfl kk) k
  | dup => exact yk_dup hx hb h hd k
  | pop => exact yk_pop hx hb h hd k
  | pop2 => exact yk_pop2 hx hb h hd k
  | goto off => exact yk_goto hx hb h hd k
  | tableswitch d lo hi offs => exact yk_tsw hx hb h hd k
  | lookupswitch d ps => exact yk_lsw hx hb h hd k
  | getfield i => exact yk_get hx hb hown hK hFl h hd k
  | putfield i => exact yk_put hx hb hown hK hZ hFp h hd k
  | getstatic i => exact yk_cell h (fun e q hq hi H locs ls rest hS => by subst e; subst hi; exact hGS q hq pc H locs ls rest hd hS) k
  | iaload => exact yk_iald hx hb hK (fun i tb hi H locs ls rest x hd1 hS hin => hRS i tb hi pc H locs ls rest x hd1 hS hin) hRb h hd k
  | baload => exact yk_bald hx hb hK h hd k
  | laload => exact yk_lald hx hb hK h hd k
  | aaload => exact yk_aald hx hb hK h hd k
  | iastore => exact yk_iast hx hb hK hZ h hd k
  | bastore => exact yk_bast hx hb hK hZ h hd k
  | lastore => exact yk_last hx hb hK hZ h hd k
  | invokevirtual i => exact yk_call hx hb hcs hml hH0 hown hts hTg hK hR hro hZ hCS hML hrm h (fun _ => hd) (fun e => by cases e) k
  | invokestatic i => exact yk_call hx hb hcs hml hH0 hown hts hTg hK hR hro hZ hCS hML hrm h (fun e => by cases e) (fun _ => hd) k
  | return_ => exact hret _ _ _ _ _ _ h (fun _ => hd) (fun e => by cases e) (fun e => by cases e)
  | ireturn => exact hret _ _ _ _ _ _ h (fun e => by cases e) (fun _ => hd) (fun e => by cases e)
  | lreturn => exact hret _ _ _ _ _ _ h (fun e => by cases e) (fun e => by cases e) (fun _ => hd)
  | if_icmp cnd off =>
    cases cnd with
    | eq => exact yk_icmp (P := fun x y => x = y) h (fun x y => Int32.toInt_inj.symm) (fun e tgt et H locs ls rest x y kt kf => by subst e; exact lv_icmp_eq hx hb hd et kt kf) k
    | ne => exact yk_icmp (P := fun x y => ¬ x = y) h (fun x y => not_congr Int32.toInt_inj.symm) (fun e tgt et H locs ls rest x y kt kf => by subst e; exact lv_icmp_ne hx hb hd et kt (fun z => kf (fun w => w z))) k
    | lt => exact yk_icmp (P := fun x y => x < y) h (fun x y => Int32.lt_iff_toInt_lt) (fun e tgt et H locs ls rest x y kt kf => by subst e; exact lv_icmp_lt hx hb hd et kt kf) k
    | ge => exact yk_icmp (P := fun x y => y ≤ x) h (fun x y => Int32.le_iff_toInt_le) (fun e tgt et H locs ls rest x y kt kf => by subst e; exact lv_icmp_ge hx hb hd et kt kf) k
    | gt => exact yk_icmp (P := fun x y => y < x) h (fun x y => Int32.lt_iff_toInt_lt) (fun e tgt et H locs ls rest x y kt kf => by subst e; exact lv_icmp_gt hx hb hd et kt kf) k
    | le => exact yk_icmp (P := fun x y => x ≤ y) h (fun x y => Int32.le_iff_toInt_le) (fun e tgt et H locs ls rest x y kt kf => by subst e; exact lv_icmp_le hx hb hd et kt kf) k
  | ifCond cnd off =>
    cases cnd with
    | eq => exact yk_if (P := fun x => x = 0) h (fun x => zeq0) (fun e tgt et H locs ls rest x kt kf => by subst e; exact lv_if_eq hx hb hd et kt kf) k
    | ne => exact yk_if (P := fun x => ¬ x = 0) h (fun x => not_congr zeq0) (fun e tgt et H locs ls rest x kt kf => by subst e; exact lv_if_ne hx hb hd et kt (fun z => kf (fun w => w z))) k
    | lt => exact yk_if (P := fun x => x < 0) h (fun x => zlt0) (fun e tgt et H locs ls rest x kt kf => by subst e; exact lv_if_lt hx hb hd et kt kf) k
    | ge => exact yk_if (cn := fun x y => y ≤ x) (P := fun x => 0 ≤ x) h (fun x => zge0) (fun e tgt et H locs ls rest x kt kf => by subst e; exact lv_if_ge hx hb hd et kt kf) k
    | gt => exact yk_if (cn := fun x y => y < x) (P := fun x => 0 < x) h (fun x => zgt0) (fun e tgt et H locs ls rest x kt kf => by subst e; exact lv_if_gt hx hb hd et kt kf) k
    | le => exact yk_if (P := fun x => x ≤ 0) h (fun x => zle0) (fun e tgt et H locs ls rest x kt kf => by subst e; exact lv_if_le hx hb hd et kt kf) k
  | _ => exact (show False from h).elim
end YB
theorem ymet_of {l : Launch} {Ts : List Cond} {cl : List vw_C} {Z : zZ} {RO : zRO} {RS : List (List Int)} {MT : zMT} {CS : List yC} {cn : yC} {P : zPool} {rc : Nat} (hTg : ∀ w ∈ Ts, goodWord w = true) (hR : zROk RO) (hZ : zDj Z) (hRS : zRowT RO RS) (hRb : ∀ tb ∈ RS, ∀ v ∈ tb, -2147483648 ≤ v ∧ v ≤ 2147483647) (hPk : zPok Ts cl RO MT (MT cn.1).1.cls P) (hCS : ∀ c' ∈ CS, yMet l Ts cl Z RO MT c') (hrc : zrcOk rc (MT cn.1).2.2.2) (hy : plainFor (MT cn.1).1 = true)
    {t : Nat → Option (Instr × Nat)} (ht : ∀ (pc : Nat) (q : Instr × Nat), t pc = some q → decode (MT cn.1).2.1 pc = .ok q)
    (hand : ∀ (as : List yV) (g : yM) (K : List yV → yM → Prop) (Y : yNx), cn.2.2 as g K → yCl t (Z, RS, P, MT, CS, cn.2.1, rc) K Y → Y 0 (ylayP as (MT cn.1).2.2.1) [] g) : yMet l Ts cl Z RO MT cn := by
  intro D tys A ad ws g as As K hMem hSA hlen hD hK0
  refine zofWF (cc := (MT cn.1).2.1) (maxL := (MT cn.1).2.2.1) (ret := (MT cn.1).2.2.2) hy rfl ?_
  intro p e s m args below meth c s₁ B hml hv
  obtain ⟨rfl, hP, hK, hro⟩ := hv
  have hx := B.exec
  have hb := B.bytes
  have hr := B.returns
  have hts0 := atoms_spec (ws := Cond.code (MT cn.1).1 (MT cn.1).2.1 (MT cn.1).2.2.1 (MT cn.1).2.2.2 :: Ts) B.pre
  have hts : ∀ w ∈ Ts, w.before As.toArray s = true := fun w hw => hts0 w (List.mem_cons_of_mem _ hw)
  have hown : s.vm.findClass (MT cn.1).1.cls = some m.cls := findClass_of_methodNamed B.named
  have hlocks := B.notSynchronized
  obtain ⟨q1, q2, q3, q4, q5, q6⟩ := hPk
  have C : yCtx p l e (headSpec (Cond.code (MT cn.1).1 (MT cn.1).2.1 (MT cn.1).2.2.1 (MT cn.1).2.2.2 :: Ts) (yrm cn.2.1)).room s m As.toArray below meth c (MT cn.1).2.1 (MT cn.1).1.cls (MT cn.1).2.2.1 Ts RO cl (Z, RS, P, MT, CS, cn.2.1, rc) D tys A ad s.heap 0 0 (MQ below (yQc Z D cl tys A ad K) As.toArray s 0 0 A) K := by
    refine ⟨⟨hx, hb, hml, rfl, hown⟩, ⟨hts, hTg, hK, hR, hro, hZ⟩, ⟨Nat.le_refl _, Nat.le_refl _⟩, ⟨fun f hf => ?_, fun f hf h2 => ?_, fun q hq => ⟨(q2 q hq).1, (q2 q hq).2.1, hts _ (q2 q hq).2.2⟩, fun q hq => ⟨(q3 q hq).1, (q3 q hq).2.1, hts _ (q3 q hq).2.2⟩, fun q hq => ?_⟩, fun q hq pc H locs ls rest hd hS kk => ?_, fun i tb hi pc H locs ls rest x hd hS hin kk => ?_, hRb, hCS, ⟨Nat.zero_le _, Nat.zero_le _⟩, fun kd pc len L st g hz d0 d1 d2 => yk_ret hx hb rfl hlocks (fun q => hr.trans (hrc.1 q)) (fun q => hr.trans (hrc.2.1 q)) (fun q => hr.trans (hrc.2.2.1 q)) (fun q => hr.trans (hrc.2.2.2 q)) hz d0 d1 d2⟩
    · obtain ⟨Cn, T, N, ty0, f1, f2, f3, f4, f5, f6, -⟩ := q1 f hf
      exact ⟨Cn, T, N, ty0, f1, f2, fun w hw => hts w (f3 w hw), f4, f5, Or.inl (hts _ f6)⟩
    · obtain ⟨Cn, T, N, ty0, f1, f2, f3, f4, f5, f6, f7, f8, f9, f10⟩ := q1 f hf
      exact ⟨Cn, T, N, ty0, f1, f2, fun w hw => hts w (f3 w hw), f4, f5, Or.inl (hts _ f6), f7 h2, f8, f9, f10⟩
    · obtain ⟨g1, g2, g3, -, g4⟩ := q4 q hq
      refine ⟨g1, g2, fun z Cc hCc => ?_, g4⟩
      obtain ⟨k1, host, k2⟩ := g3 z Cc hCc
      exact ⟨k1, host, k2 ad A s s.heap hro⟩
    · exact q5 q hq p l e _ s m _ below meth c _ _ A ad pc H locs ls rest 0 0 hx hb hown hts hro hd hS kk
    · exact hRS i tb hi p l e _ s m _ below meth c _ _ A ad pc H locs ls rest 0 0 x hx hb hro hd hS hin kk
  rw [lg_entry_eq]
  refine hand as g K (fun pc L st g => yWP (yG Z D cl tys A ad s.heap (MT cn.1).2.2.1) (fun H locs pc ls st => W p l e _ s m As.toArray below meth c H locs 0 0 (MQ below (yQc Z D cl tys A ad K) As.toArray s 0 0 A) (F0 m pc ls st)) pc L st g) hK0 (fun nx pc L st g q hq h hk => ystep_ok C h (ht pc q hq) hk) _ [] ws s.heap [] ?_
  exact ⟨hP, hD, va_S.rf, hMem, ylayP_ok hSA hlen, trivial⟩
end
section
/-! NUMBERS WITH THEIR ENDS: OUT OF THE TYPED WORLD AND BACK -/
def yft (gh : Nat → Int) (cb : Int) (q : Nat) (ft : zFT) (z : Int) : Prop := match ft with
  | (0, lo, hi) => lo ≤ z ∧ z ≤ hi
  | (1, _, _) => True
  | (2, lo, hi) => lo ≤ z ∧ z ≤ hi
  | (3, g, _) => z = gh g.toNat
  | (4, _, _) => True
  | (5, lo, hi) => (q : Int) < cb + gh 1 → lo ≤ z ∧ z ≤ hi
  | (7, lo, hi) => lo ≤ z ∧ z ≤ hi
  | (8, lo, hi) => (lo ≤ z ∧ z ≤ hi) ∧ ((q : Int) = gh 3 → gh 2 < z)
  | _ => False
def yTI (a b : Int) : Prop := (a = 78 → 0 ≤ b ∧ b ≤ 7) ∧ (a = 63 → 0 ≤ b)
def ycty (gh : Nat → Int) (cb : Int) (g : yM) (q : Nat) (ct : zCT) : Prop := match ct with
  | (0, _, _, fts) => ∀ (j : Nat) (ft : zFT), fts[j]? = some ft → yft gh cb q ft (g q j)
  | (1, _, len, fts) => ∀ (j : Nat) (ft : zFT), j < len → fts[0]? = some ft → yft gh cb q ft (g q j)
  | (2, _, len, fts) => ∀ (j : Nat) (ft : zFT), j < len → fts[0]? = some ft → yft gh cb q ft (g q j)
  | (6, _, len, fts) => (∀ j : Nat, j < len → yTI (g q j) (g (q + (fts.headD (0, 0, 0)).1) j)) ∧ ((q : Int) = gh 3 + (fts.headD (0, 0, 0)).2.1 → 0 ≤ gh 2 → gh 2 < len ∧ g q (gh 2).toNat = 63)
  | _ => True
def yT (Z : zZ) (gh : Nat → Int) (g : yM) : Prop := ∀ e ∈ Z.1, ∀ q : Nat, e.1 ≤ q → q ≤ e.2.1 → ycty gh Z.2.1 g q e.2.2
theorem yft_of {ad : Nat → Nat} {gh : Nat → Int} {cb : Int} {q : Nat} {ft : zFT} {z : Int} {v : Value} (h : zft ad gh cb q ft v) (hv : yfv ad q ft z v) : yft gh cb q ft z := by
  obtain ⟨tg, lo, hi⟩ := ft
  match tg, h, hv with
  | 0, ⟨x, h1, h2⟩, ⟨y, g1, g2⟩ => subst h1; cases g1; subst g2; exact h2
  | 1, _, _ => trivial
  | 2, _, ⟨r, g1, g2, g3, g4⟩ => exact ⟨by omega, by omega⟩
  | 3, ⟨x, h1, h2⟩, ⟨y, g1, g2⟩ => subst h1; cases g1; subst g2; exact h2
  | 4, _, _ => trivial
  | 5, ⟨x, h1, h2⟩, ⟨y, g1, g2⟩ => subst h1; cases g1; subst g2; exact h2
  | 7, ⟨x, h1, h2⟩, ⟨y, g1, g2⟩ => subst h1; cases g1; subst g2; exact h2
  | 8, ⟨x, h1, h2⟩, ⟨y, g1, g2⟩ => subst h1; cases g1; subst g2; exact h2
theorem zft_of {ad : Nat → Nat} {gh : Nat → Int} {cb : Int} {q : Nat} {ft : zFT} {z : Int} {v : Value} (h : yft gh cb q ft z) (hv : yfv ad q ft z v) : zft ad gh cb q ft v := by
  obtain ⟨tg, lo, hi⟩ := ft
  match tg, h, hv with
  | 0, h, ⟨y, g1, g2⟩ => subst g2; exact ⟨y, g1, h⟩
  | 1, _, ⟨y, g1, _⟩ => exact ⟨y, g1⟩
  | 2, _, ⟨r, g1, g2, g3, _⟩ => exact ⟨r, g1, g2, g3⟩
  | 3, h, ⟨y, g1, g2⟩ => subst g2; exact ⟨y, g1, h⟩
  | 4, _, hv => exact hv
  | 5, h, ⟨y, g1, g2⟩ => subst g2; exact ⟨y, g1, h⟩
  | 7, h, ⟨y, g1, g2⟩ => subst g2; exact ⟨y, g1, h⟩
  | 8, h, ⟨y, g1, g2⟩ => subst g2; exact ⟨y, g1, h⟩
theorem yTI_iff {a b : Int32} : zTI a b ↔ yTI a.toInt b.toInt := Iff.rfl
/-- what the cells' table must be like -/
def yZok (Z : zZ) : Prop := (∀ e ∈ Z.1, (e.2.2.1 = 1 ∨ e.2.2.1 = 2) → ∀ ft : zFT, e.2.2.2.2.2[0]? = some ft → ft.1 = 0) ∧ (∀ e ∈ Z.1, e.2.2.1 = 6 → ∀ q : Nat, e.1 ≤ q → q ≤ e.2.1 → ∃ e' ∈ Z.1, e'.1 ≤ q + (e.2.2.2.2.2.headD (0, 0, 0)).1 ∧ q + (e.2.2.2.2.2.headD (0, 0, 0)).1 ≤ e'.2.1 ∧ e'.2.2.1 = 7 ∧ e'.2.2.2.2.1 = e.2.2.2.2.1) ∧ ∀ e ∈ Z.1, e.2.2.1 ≤ 7
theorem yT_of {Z : zZ} {ad : Nat → Nat} {gh : Nat → Int} {tys : List (ClassId × FieldType)} {ws : va_W} {g : yM} (hZ : yZok Z) (hW : zW Z ad gh tys ws) (hM : yMem Z ad tys ws g) : yT Z gh g := by
  intro e he q h1 h2
  have hw := hW e he q h1 h2
  have hm := hM e he q h1 h2
  have z1 := hZ.1 e he
  have z6 := hZ.2.1 e he
  generalize e.2.2 = ct at hw hm z1 z6 ⊢
  obtain ⟨tg, ci, len, fts⟩ := ct
  match tg, hw, hm with
  | 0, ⟨fs, a1, a2, a3⟩, ⟨fs', b1, b2, b3⟩ =>
    rw [a1] at b1
    cases b1
    intro j ft hj
    have hl : j < fs.length := by rw [a2]; exact (List.getElem?_eq_some_iff.mp hj).1
    exact yft_of (a3 j ft _ hj (List.getElem?_eq_getElem hl)) (b3 j ft _ hj (List.getElem?_eq_getElem hl))
  | 1, ⟨cA, f, a1, a2, a3⟩, ⟨cA', f', b1, b2, b3⟩ =>
    rw [a1] at b1
    cases b1
    intro j ft hj h0
    have := z1 (Or.inl rfl) ft h0
    obtain ⟨tf, lo, hi⟩ := ft
    have : tf = 0 := this
    subst this
    exact yft_of (a3 j _ hj h0) ⟨f j, rfl, b3 j hj⟩
  | 2, ⟨cA, f, a1, a2, a3⟩, ⟨cA', f', b1, b2, b3⟩ =>
    rw [a1] at b1
    cases b1
    intro j ft hj h0
    have := z1 (Or.inr rfl) ft h0
    obtain ⟨tf, lo, hi⟩ := ft
    have : tf = 0 := this
    subst this
    exact yft_of (a3 j _ hj h0) ⟨f j, rfl, b3 j hj⟩
  | 3, _, _ => trivial
  | 4, _, _ => trivial
  | 5, _, _ => trivial
  | 6, ⟨cA, cB, f, k, a1, a2, a3, a4, a5⟩, ⟨cA', f', b1, b2, b3⟩ =>
    rw [a1] at b1
    cases b1
    obtain ⟨e', he', c1, c2, c3, c4⟩ := z6 rfl q h1 h2
    have hm' := hM e' he' _ c1 c2
    generalize e'.2.2 = ct' at hm' c3 c4
    obtain ⟨tg', ci', len', fts'⟩ := ct'
    have c3 : tg' = 7 := c3
    subst c3
    have c4 : len' = len := c4
    subst c4
    obtain ⟨cC, f', d1, d2, d3⟩ := hm'
    have d1 : ws[q + (fts.headD (0, 0, 0)).1]? = _ := d1
    rw [a3] at d1
    cases d1
    refine ⟨fun j hj => ?_, fun hq h0 => ?_⟩
    · rw [← b3 j hj, ← d3 j hj]
      exact a4 j hj
    · have h9 := a5 hq h0
      refine ⟨h9.1, ?_⟩
      rw [← b3 _ (by omega)]
      exact h9.2
  | 7, _, _ => trivial
theorem zW_of {Z : zZ} {ad : Nat → Nat} {gh : Nat → Int} {tys : List (ClassId × FieldType)} {ws : va_W} {g : yM} (hZ : yZok Z) (hT : yT Z gh g) (hM : yMem Z ad tys ws g) : zW Z ad gh tys ws := by
  intro e he q h1 h2
  have ht := hT e he q h1 h2
  have hm := hM e he q h1 h2
  have z1 := hZ.1 e he
  have z6 := hZ.2.1 e he
  generalize e.2.2 = ct at ht hm z1 z6 ⊢
  obtain ⟨tg, ci, len, fts⟩ := ct
  match tg, ht, hm with
  | 0, ht, ⟨fs, b1, b2, b3⟩ => exact ⟨fs, b1, b2, fun j ft v hj hv => zft_of (ht j ft hj) (b3 j ft v hj hv)⟩
  | 1, ht, ⟨cA, f, b1, b2, b3⟩ =>
    refine ⟨cA, f, b1, b2, fun j ft hj h0 => ?_⟩
    have h9 := ht j ft hj h0
    have := z1 (Or.inl rfl) ft h0
    obtain ⟨tf, lo, hi⟩ := ft
    have : tf = 0 := this
    subst this
    exact zft_of h9 ⟨f j, rfl, b3 j hj⟩
  | 2, ht, ⟨cA, f, b1, b2, b3⟩ =>
    refine ⟨cA, f, b1, b2, fun j ft hj h0 => ?_⟩
    have h9 := ht j ft hj h0
    have := z1 (Or.inr rfl) ft h0
    obtain ⟨tf, lo, hi⟩ := ft
    have : tf = 0 := this
    subst this
    exact zft_of h9 ⟨f j, rfl, b3 j hj⟩
  | 3, _, ⟨cA, f, b1, b2, _⟩ => exact ⟨cA, f, b1, b2⟩
  | 4, _, hm => exact hm
  | 5, _, hm => exact hm
  | 6, ⟨t1, t2⟩, ⟨cA, f, b1, b2, b3⟩ =>
    obtain ⟨e', he', c1, c2, c3, c4⟩ := z6 rfl q h1 h2
    have hm' := hM e' he' _ c1 c2
    generalize e'.2.2 = ct' at hm' c3 c4
    obtain ⟨tg', ci', len', fts'⟩ := ct'
    have c3 : tg' = 7 := c3
    subst c3
    have c4 : len' = len := c4
    subst c4
    obtain ⟨cC, f', d1, d2, d3⟩ := hm'
    refine ⟨cA, cC, f, f', b1, b2, d1, fun j hj => ?_, fun hq h0 => ?_⟩
    · rw [yTI_iff, b3 j hj, d3 j hj]
      exact t1 j hj
    · have h9 := t2 hq h0
      refine ⟨h9.1, ?_⟩
      rw [b3 _ (by omega)]
      exact h9.2
  | 7, _, ⟨cA, f, b1, b2, _⟩ => exact ⟨cA, f, b1, b2⟩
/-- a number is a place's -/
def ynum (ad : Nat → Nat) (ct : zCT) (q j : Nat) (o : Option Value) (z : Int) : Prop := match ct with
  | (0, _, _, fts) => ∀ (ft : zFT) (v : Value), fts[j]? = some ft → o = some v → yfv ad q ft z v
  | (3, _, len, _) => ∀ x : Int64, j < len → o = some (.long x) → x.toInt = z
  | (4, _, _, _) => True
  | (5, _, _, _) => True
  | (_, _, len, _) => ∀ x : Int32, j < len → o = some (.int x) → x.toInt = z
theorem ynum_ex {ad : Nat → Nat} {gh : Nat → Int} {cb : Int} {tys : List (ClassId × FieldType)} {ws : va_W} {q : Nat} {ct : zCT} (h : zcell ad gh cb tys ws q ct) (j : Nat) : ∃ z, ynum ad ct q j (zfv ws q j) z := by
  obtain ⟨tg, ci, len, fts⟩ := ct
  have ki : ∀ (cA : ClassId) (n : Nat) (f : Nat → Int32), ws[q]? = some (ad q, .inl (cA, n, .inl f)) → ∃ z, ∀ x : Int32, j < n → zfv ws q j = some (.int x) → x.toInt = z := fun cA n f h1 => ⟨(f j).toInt, fun x hj hx => by
    unfold zfv at hx
    rw [h1] at hx
    simp only [if_pos hj] at hx
    cases hx
    rfl⟩
  match tg, h with
  | 0, ⟨fs, h1, h2, h3⟩ =>
    have e : zfv ws q j = fs[j]? := by
      unfold zfv
      rw [h1]
    cases hf : fts[j]? with
    | none => exact ⟨0, fun ft v a _ => by rw [hf] at a; cases a⟩
    | some ft =>
      have hl : j < fs.length := by rw [h2]; exact (List.getElem?_eq_some_iff.mp hf).1
      have hv : fs[j]? = some fs[j] := List.getElem?_eq_getElem hl
      have h4 := h3 j ft _ hf hv
      have key : ∃ z, yfv ad q ft z fs[j] := by
        generalize fs[j] = v at h4
        obtain ⟨t, lo, hi⟩ := ft
        match t, h4 with
        | 0, ⟨x, h5, _⟩ => exact ⟨_, x, h5, rfl⟩
        | 1, ⟨x, h5⟩ => exact ⟨_, x, h5, rfl⟩
        | 2, ⟨r, h5, h6, h7⟩ => exact ⟨_, r, h5, h6, h7, rfl⟩
        | 3, ⟨x, h5, _⟩ => exact ⟨_, x, h5, rfl⟩
        | 4, h5 => exact ⟨0, h5⟩
        | 5, ⟨x, h5, _⟩ => exact ⟨_, x, h5, rfl⟩
        | 7, ⟨x, h5, _⟩ => exact ⟨_, x, h5, rfl⟩
        | 8, ⟨x, h5, _⟩ => exact ⟨_, x, h5, rfl⟩
      obtain ⟨z, hz⟩ := key
      refine ⟨z, fun ft' v a b => ?_⟩
      rw [hf] at a
      cases a
      rw [e, hv] at b
      cases b
      exact hz
  | 1, ⟨cA, f, h1, _⟩ => exact ki cA len f h1
  | 2, ⟨cA, f, h1, _⟩ => exact ki cA len f h1
  | 3, ⟨cA, f, h1, _⟩ =>
    refine ⟨(f j).toInt, fun x hj hx => ?_⟩
    unfold zfv at hx
    rw [h1] at hx
    simp only [if_pos hj] at hx
    cases hx
    rfl
  | 4, _ => exact ⟨0, trivial⟩
  | 5, _ => exact ⟨0, trivial⟩
  | 6, ⟨cA, cB, f, k, h1, _⟩ => exact ki cA len f h1
  | 7, ⟨cA, f, h1, _⟩ => exact ki cA len f h1
theorem ynum_of {ad : Nat → Nat} {tys : List (ClassId × FieldType)} {ws : va_W} {g : yM} {q : Nat} {ct : zCT} (h : ycell ad tys ws g q ct) (j : Nat) : ynum ad ct q j (zfv ws q j) (g q j) := by
  obtain ⟨tg, ci, len, fts⟩ := ct
  have ki : ∀ (cA : ClassId) (n : Nat) (f : Nat → Int32), ws[q]? = some (ad q, .inl (cA, n, .inl f)) → (∀ j : Nat, j < n → (f j).toInt = g q j) → ∀ x : Int32, j < n → zfv ws q j = some (.int x) → x.toInt = g q j := fun cA n f h1 h3 x hj hx => by
    unfold zfv at hx
    rw [h1] at hx
    simp only [if_pos hj] at hx
    cases hx
    exact h3 j hj
  match tg, h with
  | 0, ⟨fs, h1, h2, h3⟩ =>
    intro ft v a b
    have e : zfv ws q j = fs[j]? := by
      unfold zfv
      rw [h1]
    rw [e] at b
    exact h3 j ft v a b
  | 1, ⟨cA, f, h1, _, h3⟩ => exact ki cA len f h1 h3
  | 2, ⟨cA, f, h1, _, h3⟩ => exact ki cA len f h1 h3
  | 3, ⟨cA, f, h1, _, h3⟩ =>
    intro x hj hx
    unfold zfv at hx
    rw [h1] at hx
    simp only [if_pos hj] at hx
    cases hx
    exact h3 j hj
  | 4, _ => trivial
  | 5, _ => trivial
  | 6, ⟨cA, f, h1, _, h3⟩ => exact ki cA len f h1 h3
  | 7, ⟨cA, f, h1, _, h3⟩ => exact ki cA len f h1 h3
theorem ycell_of {ad : Nat → Nat} {gh : Nat → Int} {cb : Int} {tys : List (ClassId × FieldType)} {ws : va_W} {g : yM} {q : Nat} {ct : zCT} (h : zcell ad gh cb tys ws q ct) (hn : ∀ j : Nat, ynum ad ct q j (zfv ws q j) (g q j)) : ycell ad tys ws g q ct := by
  obtain ⟨tg, ci, len, fts⟩ := ct
  have ki : ∀ (cA : ClassId) (n : Nat) (f : Nat → Int32), ws[q]? = some (ad q, .inl (cA, n, .inl f)) → (∀ (j : Nat) (x : Int32), j < n → zfv ws q j = some (.int x) → x.toInt = g q j) → ∀ j : Nat, j < n → (f j).toInt = g q j := fun cA n f h1 h3 j hj => h3 j (f j) hj (by
    unfold zfv
    rw [h1]
    exact if_pos hj)
  match tg, h, hn with
  | 0, ⟨fs, h1, h2, h3⟩, hn => exact ⟨fs, h1, h2, fun j ft v a b => hn j ft v a (by unfold zfv; rw [h1]; exact b)⟩
  | 1, ⟨cA, f, h1, h2, _⟩, hn => exact ⟨cA, f, h1, h2, ki cA len f h1 (fun j x => hn j x)⟩
  | 2, ⟨cA, f, h1, h2, _⟩, hn => exact ⟨cA, f, h1, h2, ki cA len f h1 (fun j x => hn j x)⟩
  | 3, ⟨cA, f, h1, h2⟩, hn => exact ⟨cA, f, h1, h2, fun j hj => hn j (f j) hj (by
      unfold zfv
      rw [h1]
      exact if_pos hj)⟩
  | 4, h, _ => exact h
  | 5, h, _ => exact h
  | 6, ⟨cA, cB, f, k, h1, h2, _⟩, hn => exact ⟨cA, f, h1, h2, ki cA len f h1 (fun j x => hn j x)⟩
  | 7, ⟨cA, f, h1, h2⟩, hn => exact ⟨cA, f, h1, h2, ki cA len f h1 (fun j x => hn j x)⟩
/-- a world's numbers: what is the same as before keeps its number -/
theorem ynew {Z : zZ} {ad : Nat → Nat} {gh : Nat → Int} {tys : List (ClassId × FieldType)} {ws ws' : va_W} {g : yM} (hZ : zDj Z) (hW : zW Z ad gh tys ws') (hM : yMem Z ad tys ws g) : ∃ g' : yM, yMem Z ad tys ws' g' ∧ ∀ q j : Nat, zfv ws' q j = zfv ws q j → g' q j = g q j := by
  have key : ∀ q j : Nat, ∃ z : Int, (zfv ws' q j = zfv ws q j → z = g q j) ∧ ∀ e ∈ Z.1, e.1 ≤ q → q ≤ e.2.1 → ynum ad e.2.2 q j (zfv ws' q j) z := fun q j => by
    by_cases heq : zfv ws' q j = zfv ws q j
    · refine ⟨g q j, fun _ => rfl, fun e he h1 h2 => ?_⟩
      rw [heq]
      exact ynum_of (hM e he q h1 h2) j
    · by_cases hex : ∃ e ∈ Z.1, e.1 ≤ q ∧ q ≤ e.2.1
      · obtain ⟨e0, he0, h1, h2⟩ := hex
        obtain ⟨z, hz⟩ := ynum_ex (hW e0 he0 q h1 h2) j
        refine ⟨z, fun h => absurd h heq, fun e he g1 g2 => ?_⟩
        rw [hZ.1 e he e0 he0 q g1 g2 h1 h2]
        exact hz
      · exact ⟨0, fun h => absurd h heq, fun e he g1 g2 => absurd ⟨e, he, g1, g2⟩ hex⟩
  obtain ⟨G, hG⟩ := Classical.axiomOfChoice (fun q => Classical.axiomOfChoice (key q))
  exact ⟨G, fun e he q h1 h2 => ycell_of (hW e he q h1 h2) (fun j => (hG q j).2 e he h1 h2), fun q j => (hG q j).1⟩
theorem ynew0 {Z : zZ} {ad : Nat → Nat} {gh : Nat → Int} {tys : List (ClassId × FieldType)} {ws' : va_W} (hZ : zDj Z) (hW : zW Z ad gh tys ws') : ∃ g' : yM, yMem Z ad tys ws' g' := by
  have key : ∀ q j : Nat, ∃ z : Int, ∀ e ∈ Z.1, e.1 ≤ q → q ≤ e.2.1 → ynum ad e.2.2 q j (zfv ws' q j) z := fun q j => by
    by_cases hex : ∃ e ∈ Z.1, e.1 ≤ q ∧ q ≤ e.2.1
    · obtain ⟨e0, he0, h1, h2⟩ := hex
      obtain ⟨z, hz⟩ := ynum_ex (hW e0 he0 q h1 h2) j
      refine ⟨z, fun e he g1 g2 => ?_⟩
      rw [hZ.1 e he e0 he0 q g1 g2 h1 h2]
      exact hz
    · exact ⟨0, fun e he g1 g2 => absurd ⟨e, he, g1, g2⟩ hex⟩
  obtain ⟨G, hG⟩ := Classical.axiomOfChoice (fun q => Classical.axiomOfChoice (key q))
  exact ⟨G, fun e he q h1 h2 => ycell_of (hW e he q h1 h2) (fun j => hG q j e he h1 h2)⟩
/-- a place written -/
theorem yT.set {Z : zZ} {gh : Nat → Int} {g : yM} (hZ : zDj Z) (h : yT Z gh g) {e0 : Nat × Nat × zCT} {q j : Nat} {v : Int} (he : e0 ∈ Z.1) (h1 : e0.1 ≤ q) (h2 : q ≤ e0.2.1) (h67 : e0.2.2.1 ≠ 6 ∧ ∀ e ∈ Z.1, e.2.2.1 = 6 → ∀ q' : Nat, e.1 ≤ q' → q' ≤ e.2.1 → q' + (e.2.2.2.2.2.headD (0, 0, 0)).1 ≠ q)
    (hv : (∀ ci ln fts ft, e0.2.2 = (0, ci, ln, fts) → fts[j]? = some ft → yft gh Z.2.1 q ft v) ∧ (∀ k t0 len fts ft, e0.2.2 = (k, t0, len, fts) → (k = 1 ∨ k = 2) → fts[0]? = some ft → yft gh Z.2.1 q ft v)) : yT Z gh (yset g q j v) := by
  intro e hem q' g1 g2
  have ht := h e hem q' g1 g2
  by_cases hqq : q' = q
  · subst hqq
    have ee := hZ.1 e0 he e hem q' h1 h2 g1 g2
    rw [← ee] at ht ⊢
    obtain ⟨v1, v2⟩ := hv
    have n6 := h67.1
    generalize e0.2.2 = ct at ht v1 v2 n6 ⊢
    obtain ⟨tg, ci, len, fts⟩ := ct
    match tg, ht with
    | 0, ht =>
      intro j' ft hj
      by_cases hjj : j' = j
      · subst hjj
        rw [yset_eq]
        exact v1 _ _ _ ft rfl hj
      · rw [yset_ne (fun z => hjj z.2)]
        exact ht j' ft hj
    | 1, ht =>
      intro j' ft hj h0
      by_cases hjj : j' = j
      · subst hjj
        rw [yset_eq]
        exact v2 _ _ _ _ ft rfl (Or.inl rfl) h0
      · rw [yset_ne (fun z => hjj z.2)]
        exact ht j' ft hj h0
    | 2, ht =>
      intro j' ft hj h0
      by_cases hjj : j' = j
      · subst hjj
        rw [yset_eq]
        exact v2 _ _ _ _ ft rfl (Or.inr rfl) h0
      · rw [yset_ne (fun z => hjj z.2)]
        exact ht j' ft hj h0
    | 3, _ => trivial
    | 4, _ => trivial
    | 5, _ => trivial
    | 6, _ => exact absurd rfl n6
    | n + 7, _ => trivial
  · have h6 := h67.2 e hem
    generalize e.2.2 = ct at ht h6 ⊢
    obtain ⟨tg, ci, len, fts⟩ := ct
    match tg, ht with
    | 0, ht => exact fun j' ft hj => by rw [yset_ne (fun z => hqq z.1)]; exact ht j' ft hj
    | 1, ht => exact fun j' ft hj h0 => by rw [yset_ne (fun z => hqq z.1)]; exact ht j' ft hj h0
    | 2, ht => exact fun j' ft hj h0 => by rw [yset_ne (fun z => hqq z.1)]; exact ht j' ft hj h0
    | 3, _ => trivial
    | 4, _ => trivial
    | 5, _ => trivial
    | 6, ⟨t1, t2⟩ =>
      have h9 := h6 rfl q' g1 g2
      exact ⟨fun j' hj => by rw [yset_ne (fun z => hqq z.1), yset_ne (fun z => h9 z.1)]; exact t1 j' hj, fun a b => ⟨(t2 a b).1, by rw [yset_ne (fun z => hqq z.1)]; exact (t2 a b).2⟩⟩
    | n + 7, _ => trivial
end
section
/-! A CONTRACT OF THE CHECKER AS ONE OF THE PURE MACHINE: what it may write becomes anything that is typed -/
def yav : List Nat → Nat → List zAV
  | [], _ => []
  | k :: ks, n => (k, n, 0, 0, 0) :: yav ks (n + 1)
def yfl (k : Nat) : zIv := if k = 1 then [(-2147483648, 2147483647)] else [(-9223372036854775808, 9223372036854775807)]
def ygok (gh : Nat → Int) : Prop := gh 0 = 0 ∧ (0 ≤ gh 1 ∧ gh 1 ≤ 40) ∧ gh 2 = -1 ∧ gh 3 = 10
def yhR (rt : Nat) (r : List yV) : Prop := if rt = 0 then r = [] else ∃ z : Int, r = [(rt, z)]
def yhB (C : zC) (q0 : Nat) (ks : List Nat) (nLoc rt : Nat) : Bool :=
  decide (C.2.2.1.2.1.drop 4 = ks.map yfl) && ((decide (C.2.2.1.2.1.take 4 = [[(0, 0)], [(0, 40)], [(-1, 60)], [(10, 11)]]) || decide (C.2.2.1.2.1.take 4 = [[(0, 0)], [(0, 40)], [(-1, -1)], [(10, 10)]])) && (decide (C.2.2.1.2.2.1 = []) && (decide (C.2.2.1.2.2.2.1 = zlayP ((3, 0, (q0 : Int), 0, 0) :: yav ks 4) nLoc) && (decide (C.2.2.1.2.2.2.2.1 = []) && (decide (C.2.2.1.2.2.2.2.2.1 = []) && (decide (C.2.2.1.2.2.2.2.2.2 = []) && (decide ((zlay ((3, 0, (q0 : Int), 0, 0) :: yav ks 4)).length ≤ nLoc) && (ks.all (fun k => k == 1 || k == 2) && (decide (rt ≤ 2) && C.2.2.2.1.all (fun t => match t.2.2.2.2.1 with
    | [] => rt == 0
    | [a] => a.1 == rt && !(rt == 0)
    | _ => false))))))))))
def yPh (Z : zZ) (C : zC) (q0 : Nat) (ks : List Nat) (rt : Nat) : yPT := fun as g K => (∃ args : List yV, as = (3, (q0 : Int)) :: args ∧ args.map Prod.fst = ks) ∧ ∃ gh : Nat → Int, ygok gh ∧ yT Z gh g ∧ ∀ (r : List yV) (g' : yM), yhR rt r → yT Z gh g' → (∀ q j : Nat, (∀ w ∈ C.2.2.2.2, ¬ zcov w q j) → g' q j = g q j) → K r g'
theorem Met_post {l : Launch} {y : MethodName} {ws : List Cond} {rm : Room} {Pc : Array Value → State → Prop} {Q1 Q2 : Array Value → State → Outcome → State → Prop} {mc ms : Nat} {free : Addr → Prop} (h : Met l y ws rm Pc Q1 mc ms free) (hQ : ∀ a st o t, Q1 a st o t → Q2 a st o t) : Met l y ws rm Pc Q2 mc ms free := by
  intro p e ha hf hc s m args below hfr happ hP hK
  obtain ⟨n, o, h1, h2, h3, h4, h5⟩ := h p e ha hf hc s m args below hfr happ hP hK
  exact ⟨n, o, h1, h2, h3, hQ _ _ _ _ h4, h5⟩
theorem yavs_ok {Z : zZ} {ad : Nat → Nat} : ∀ {ks : List Nat} {args : List yV} {As : List Value} {nu : List Int} {n : Nat}, args.map Prod.fst = ks → (∀ k ∈ ks, k = 1 ∨ k = 2) → yS Z ad args As → (∀ (i : Nat) (a : yV), args[i]? = some a → nu[n + i]? = some a.2) → zall (zm ad nu) (yav ks n) As ∧ ∀ a ∈ args, zInIv a.2 (yfl a.1)
  | [], [], [], nu, n, _, _, _, _ => ⟨trivial, fun a ha => by cases ha⟩
  | [], a :: args, _, _, _, h, _, _, _ => by cases h
  | k :: ks, [], _, _, _, h, _, _, _ => by cases h
  | k :: ks, (t, z) :: args, v :: As, nu, n, h, hk, hS, hnu => by
    have h := List.cons.inj h
    have e1 : t = k := h.1
    subst e1
    obtain ⟨i1, i2⟩ := yavs_ok (nu := nu) (n := n + 1) h.2 (fun k' hk' => hk k' (List.mem_cons_of_mem _ hk')) hS.2 (fun i a ha => by
      have := hnu (i + 1) a (by rw [List.getElem?_cons_succ]; exact ha)
      rw [show n + 1 + i = n + (i + 1) by omega]
      exact this)
    have h0 := hnu 0 (t, z) rfl
    have hv : yval Z ad t z v := hS.1
    rcases hk t List.mem_cons_self with e | e
    · subst e
      obtain ⟨x, rfl, hx⟩ := yvI' hv
      refine ⟨⟨⟨x, rfl, z, h0, by omega⟩, i1⟩, fun a ha => ?_⟩
      rcases List.mem_cons.mp ha with rfl | ha
      · have := Int32.le_toInt x
        have := Int32.toInt_lt x
        exact ⟨(-2147483648, 2147483647), List.mem_cons_self, by show -2147483648 ≤ z; omega, by show z ≤ 2147483647; omega⟩
      · exact i2 a ha
    · subst e
      obtain ⟨x, rfl, hx⟩ := yvL' hv
      refine ⟨⟨⟨x, rfl, z, h0, by omega⟩, i1⟩, fun a ha => ?_⟩
      rcases List.mem_cons.mp ha with rfl | ha
      · have := Int64.le_toInt x
        have := Int64.toInt_lt x
        exact ⟨(-9223372036854775808, 9223372036854775807), List.mem_cons_self, by show -9223372036854775808 ≤ z; omega, by show z ≤ 9223372036854775807; omega⟩
      · exact i2 a ha
theorem yav_tags : ∀ (ks : List Nat) (n : Nat), ∀ a ∈ yav ks n, a.1 ∈ ks
  | [], _, a, h => by cases h
  | k :: ks, n, a, h => by
    rcases List.mem_cons.mp h with rfl | h
    · exact List.mem_cons_self
    · exact List.mem_cons_of_mem _ (yav_tags ks (n + 1) a h)
theorem yhav {l : Launch} {Ts : List Cond} {cl : List vw_C} {Z : zZ} {RO : zRO} {MT : zMT} {C : zC} {q0 rt : Nat} {ks : List Nat} (hZ : zDj Z) (hZk : yZok Z) (h4 : Z.2.2 = 4) (hB : yhB C q0 ks (MT C.1).2.2.1 rt = true) (hM0 : zMet l Ts cl Z RO (zKof MT C)) : yMet l Ts cl Z RO MT (C.1, C.2.1, yPh Z C q0 ks rt) := by
  intro D tys A ad ws g as As K hMem hSA hlen hD hK0
  obtain ⟨⟨args, rfl, hks⟩, gh, hg, hT, hK⟩ := hK0
  obtain ⟨g0, g1, g2, g3⟩ := id hg
  unfold yhB at hB
  simp only [Bool.and_eq_true, decide_eq_true_eq] at hB
  obtain ⟨b1, b2, b3, b4, b5, b6, b7, b8, b9, b10, b11⟩ := hB
  match As, hSA with
  | v0 :: As, ⟨hv0, hSA⟩ =>
    have hv0 : yval Z ad 3 (q0 : Int) v0 := hv0
    have hk12 : ∀ k ∈ ks, k = 1 ∨ k = 2 := fun k hk => by
      have := List.all_eq_true.mp b9 k hk
      rcases Bool.or_eq_true_iff.mp this with h | h
      · exact Or.inl (by simpa using h)
      · exact Or.inr (by simpa using h)
    have hnuA : ∀ (i : Nat) (a : yV), args[i]? = some a → ([gh 0, gh 1, gh 2, gh 3] ++ args.map Prod.snd)[4 + i]? = some a.2 := fun i a ha => by
      rw [List.getElem?_append_right (by simp), List.getElem?_map]
      simp [ha]
    obtain ⟨z1, z2⟩ := yavs_ok hks hk12 hSA hnuA
    have hW := zW_of hZk hT hMem
    have hlen4 : C.2.2.1.2.1 = C.2.2.1.2.1.take 4 ++ ks.map yfl := by rw [← b1, List.take_append_drop]
    have hk4 : (C.2.2.1.2.1.take 4).length = 4 := by
      rcases Bool.or_eq_true_iff.mp b2 with h | h
      · rw [of_decide_eq_true h]; rfl
      · rw [of_decide_eq_true h]; rfl
    have hEnv : zEnv C.2.2.1.2.1 ([gh 0, gh 1, gh 2, gh 3] ++ args.map Prod.snd) := by
      rw [hlen4]
      refine ⟨by rw [List.length_append, List.length_append, hk4, List.length_map, List.length_map, ← hks, List.length_map]; rfl, fun j iv hj => ?_⟩
      by_cases hj4 : j < 4
      · rw [List.getElem?_append_left (by omega)] at hj
        rcases Bool.or_eq_true_iff.mp b2 with h | h
        · rw [of_decide_eq_true h] at hj
          match j, hj with
          | 0, hj => cases hj; exact ⟨_, rfl, (0, 0), List.mem_cons_self, by show 0 ≤ gh 0; omega, by show gh 0 ≤ 0; omega⟩
          | 1, hj => cases hj; exact ⟨_, rfl, (0, 40), List.mem_cons_self, by show 0 ≤ gh 1; omega, by show gh 1 ≤ 40; omega⟩
          | 2, hj => cases hj; exact ⟨_, rfl, (-1, 60), List.mem_cons_self, by show -1 ≤ gh 2; omega, by show gh 2 ≤ 60; omega⟩
          | 3, hj => cases hj; exact ⟨_, rfl, (10, 11), List.mem_cons_self, by show 10 ≤ gh 3; omega, by show gh 3 ≤ 11; omega⟩
          | n + 4, hj => cases hj
        · rw [of_decide_eq_true h] at hj
          match j, hj with
          | 0, hj => cases hj; exact ⟨_, rfl, (0, 0), List.mem_cons_self, by show 0 ≤ gh 0; omega, by show gh 0 ≤ 0; omega⟩
          | 1, hj => cases hj; exact ⟨_, rfl, (0, 40), List.mem_cons_self, by show 0 ≤ gh 1; omega, by show gh 1 ≤ 40; omega⟩
          | 2, hj => cases hj; exact ⟨_, rfl, (-1, -1), List.mem_cons_self, by show -1 ≤ gh 2; omega, by show gh 2 ≤ -1; omega⟩
          | 3, hj => cases hj; exact ⟨_, rfl, (10, 10), List.mem_cons_self, by show 10 ≤ gh 3; omega, by show gh 3 ≤ 10; omega⟩
          | n + 4, hj => cases hj
      · rw [List.getElem?_append_right (by omega), hk4, List.getElem?_map] at hj
        obtain ⟨k, k1, k2⟩ := Option.map_eq_some_iff.mp hj
        rw [← hks, List.getElem?_map] at k1
        obtain ⟨a, a1, a2⟩ := Option.map_eq_some_iff.mp k1
        have h9 := hnuA (j - 4) a a1
        rw [show 4 + (j - 4) = j by omega] at h9
        refine ⟨a.2, h9, ?_⟩
        rw [← k2, ← a2]
        exact z2 a (List.mem_of_getElem? a1)
    have hgn : ∀ k, k < Z.2.2 → ([gh 0, gh 1, gh 2, gh 3] ++ args.map Prod.snd)[k]? = some (gh k) := fun k hk => by
      rw [h4] at hk
      match k, hk with
      | 0, _ => rfl
      | 1, _ => rfl
      | 2, _ => rfl
      | 3, _ => rfl
    have hEnt : zEnt Z ad gh tys (zKof MT C) ws ([gh 0, gh 1, gh 2, gh 3] ++ args.map Prod.snd) (v0 :: As) := by
      refine ⟨hW, hEnv, ?_, hgn, ?_, b5, ?_, b7⟩
      · show zCds C.2.2.1.2.2.1 _
        rw [b3]
        exact fun q hq => by cases hq
      · show zL ad _ (MT C.1).2.2.1 (zels (v0 :: As) (MT C.1).2.2.1) C.2.2.1.2.2.2.1
        rw [b4]
        refine zlayP_ok ⟨?_, z1⟩ (fun a ha => ?_) b8
        · have hv := yvR' hv0 (Or.inl rfl)
          exact ⟨q0, hv, gh 0, rfl, by omega⟩
        · rcases List.mem_cons.mp ha with rfl | ha
          · show 3 ≠ 0
            omega
          · have := hk12 _ (yav_tags ks 4 a ha)
            omega
      · show zF ad _ ws C.2.2.1.2.2.2.2.2.1
        rw [b6]
        exact fun f hf => by cases hf
    refine Met_post (hM0 D tys A ad gh ws _ (v0 :: As) ⟨by omega, g0⟩ hEnt hD) (fun a st o t hq => ?_)
    obtain ⟨c1, alt, v, ws', c2, rfl, c3, c4, c5, c6, t', c7, c8, c9, c10⟩ := hq
    obtain ⟨g', d1, d2⟩ := ynew hZ c5 hMem
    have c2 : alt ∈ C.2.2.2.1 := c2
    have halt := List.all_eq_true.mp b11 alt c2
    have key : ∃ r, yhR rt r ∧ yS Z ad r v.toList := by
      have c9 : zall (zm ad (([gh 0, gh 1, gh 2, gh 3] ++ args.map Prod.snd) ++ t')) alt.2.2.2.2.1 v.toList := c9
      generalize alt.2.2.2.2.1 = s at halt c9
      match s, halt, c9 with
      | [], halt, c9 =>
        have e0 : rt = 0 := by simpa using halt
        cases v with
        | none => exact ⟨[], by unfold yhR; rw [if_pos e0], trivial⟩
        | some w => exact c9.elim
      | [a], halt, c9 =>
        simp only [Bool.and_eq_true, beq_iff_eq, Bool.not_eq_true', beq_eq_false_iff_ne] at halt
        cases v with
        | none => exact c9.elim
        | some w =>
          obtain ⟨tg, n, k, n2, k2⟩ := a
          have e1 : tg = rt := halt.1
          subst e1
          have h3 : tg = 1 ∨ tg = 2 := by have := halt.2; omega
          rcases h3 with e | e
          · subst e
            obtain ⟨⟨x, hx, _⟩, _⟩ := c9
            subst hx
            exact ⟨[(1, x.toInt)], by unfold yhR; rw [if_neg (by omega)]; exact ⟨_, rfl⟩, yvI rfl, trivial⟩
          · subst e
            obtain ⟨⟨x, hx, _⟩, _⟩ := c9
            subst hx
            exact ⟨[(2, x.toInt)], by unfold yhR; rw [if_neg (by omega)]; exact ⟨_, rfl⟩, yvL rfl, trivial⟩
    obtain ⟨r, r1, r2⟩ := key
    exact ⟨c1, v, ws', r, g', rfl, c3, c4, d1, r2, hK r g' r1 (yT_of hZk c5 d1) (fun q j hqj => d2 q j (c6 q j hqj))⟩
end
