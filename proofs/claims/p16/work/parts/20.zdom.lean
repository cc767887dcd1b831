/-! THE ABSTRACT DOMAIN: names with sets of intervals, differences of names, values by names, facts on cells. Pure. -/
abbrev zAV : Type := Nat × Nat × Int × Nat × Int
abbrev zIv : Type := List (Int × Int)
abbrev zCd : Type := Nat × Nat × Int
abbrev zFa : Type := Nat × Int × Nat × zAV
/-- a quotient or a rest that was worked out: which, of what, by what, and its name -/
abbrev zMe : Type := Nat × Nat × Int × Int × Nat × Int
abbrev zS : Type := List zIv × List zCd × List zAV × List zAV × List zFa × List zMe
def zpure (op : Nat) (z c : Int) : Int := if op = 0 then z.tdiv c else z.tmod c
def zInIv (z : Int) (iv : zIv) : Prop := ∃ p ∈ iv, p.1 ≤ z ∧ z ≤ p.2
/-- less than: by their Nats, for the kernel's sake -/
def zltI (a b : Int) : Bool := match a, b with
  | .ofNat m, .ofNat n => Nat.ble (m + 1) n
  | .negSucc m, .negSucc n => Nat.ble (n + 1) m
  | .negSucc _, .ofNat _ => true
  | .ofNat _, .negSucc _ => false
theorem zltI_ok {a b : Int} (h : zltI a b = true) : a < b := by
  unfold zltI at h
  split at h
  · rename_i m n
    have h1 := Nat.le_of_ble_eq_true h
    show (m : Int) < (n : Int)
    omega
  · rename_i m n
    have h1 := Nat.le_of_ble_eq_true h
    rw [Int.negSucc_eq, Int.negSucc_eq]
    omega
  · rename_i m n
    rw [Int.negSucc_eq]
    show -((m : Int) + 1) < (n : Int)
    omega
  · cases h
theorem zltI_no {a b : Int} (h : zltI a b = false) : b ≤ a := by
  unfold zltI at h
  split at h
  · rename_i m n
    have h1 : ¬ m + 1 ≤ n := fun q => by rw [Nat.ble_eq_true_of_le q] at h; cases h
    show (n : Int) ≤ (m : Int)
    omega
  · rename_i m n
    have h1 : ¬ n + 1 ≤ m := fun q => by rw [Nat.ble_eq_true_of_le q] at h; cases h
    rw [Int.negSucc_eq, Int.negSucc_eq]
    omega
  · cases h
  · rename_i m n
    rw [Int.negSucc_eq]
    show -((n : Int) + 1) ≤ (m : Int)
    omega
def zLoA : Int → zIv → Int
  | a, [] => a
  | a, p :: r => bif zltI p.1 a then zLoA p.1 r else zLoA a r
theorem zLoA_le : ∀ (r : zIv) (a : Int), zLoA a r ≤ a ∧ ∀ p ∈ r, zLoA a r ≤ p.1
  | [], a => ⟨Int.le_refl _, fun p hp => by cases hp⟩
  | q :: r, a => by
    unfold zLoA
    cases h : zltI q.1 a with
    | true =>
      have h1 := zltI_ok h
      obtain ⟨g1, g2⟩ := zLoA_le r q.1
      refine ⟨?_, fun p hp => ?_⟩
      · show zLoA q.1 r ≤ a
        omega
      · show zLoA q.1 r ≤ p.1
        rcases List.mem_cons.mp hp with rfl | hp
        · exact g1
        · exact g2 p hp
    | false =>
      have h1 := zltI_no h
      obtain ⟨g1, g2⟩ := zLoA_le r a
      refine ⟨g1, fun p hp => ?_⟩
      show zLoA a r ≤ p.1
      rcases List.mem_cons.mp hp with rfl | hp
      · omega
      · exact g2 p hp
def zLo : zIv → Int
  | [] => 0
  | p :: r => zLoA p.1 r
def zHiA : Int → zIv → Int
  | a, [] => a
  | a, p :: r => bif zltI a p.2 then zHiA p.2 r else zHiA a r
theorem zHiA_ge : ∀ (r : zIv) (a : Int), a ≤ zHiA a r ∧ ∀ p ∈ r, p.2 ≤ zHiA a r
  | [], a => ⟨Int.le_refl _, fun p hp => by cases hp⟩
  | q :: r, a => by
    unfold zHiA
    cases h : zltI a q.2 with
    | true =>
      have h1 := zltI_ok h
      obtain ⟨g1, g2⟩ := zHiA_ge r q.2
      refine ⟨?_, fun p hp => ?_⟩
      · show a ≤ zHiA q.2 r
        omega
      · show p.2 ≤ zHiA q.2 r
        rcases List.mem_cons.mp hp with rfl | hp
        · exact g1
        · exact g2 p hp
    | false =>
      have h1 := zltI_no h
      obtain ⟨g1, g2⟩ := zHiA_ge r a
      refine ⟨g1, fun p hp => ?_⟩
      show p.2 ≤ zHiA a r
      rcases List.mem_cons.mp hp with rfl | hp
      · omega
      · exact g2 p hp
def zHi : zIv → Int
  | [] => 0
  | p :: r => zHiA p.2 r
theorem zLo_le : ∀ {iv : zIv} {z : Int}, zInIv z iv → zLo iv ≤ z
  | [], z, h => by obtain ⟨p, hp, -⟩ := h; cases hp
  | p :: r, z, h => by
    obtain ⟨x, hx, h1, h2⟩ := h
    obtain ⟨g1, g2⟩ := zLoA_le r p.1
    show zLoA p.1 r ≤ z
    rcases List.mem_cons.mp hx with rfl | hx
    · omega
    · have g3 := g2 x hx
      omega
theorem zHi_ge : ∀ {iv : zIv} {z : Int}, zInIv z iv → z ≤ zHi iv
  | [], z, h => by obtain ⟨p, hp, -⟩ := h; cases hp
  | p :: r, z, h => by
    obtain ⟨x, hx, h1, h2⟩ := h
    obtain ⟨g1, g2⟩ := zHiA_ge r p.2
    show z ≤ zHiA p.2 r
    rcases List.mem_cons.mp hx with rfl | hx
    · omega
    · have g3 := g2 x hx
      omega
def zE (env : List zIv) (n : Nat) : zIv := (env[n]?).getD []
def zlo (env : List zIv) (n : Nat) : Int := zLo (zE env n)
def zhi (env : List zIv) (n : Nat) : Int := zHi (zE env n)
/-- the number that a name with an offset stands for -/
def zV (nu : List Int) (n : Nat) (k z : Int) : Prop := ∃ a, nu[n]? = some a ∧ z = a + k
def zEnv (env : List zIv) (nu : List Int) : Prop := nu.length = env.length ∧ ∀ (n : Nat) (iv : zIv), env[n]? = some iv → ∃ a, nu[n]? = some a ∧ zInIv a iv
def zCds (cd : List zCd) (nu : List Int) : Prop := ∀ q ∈ cd, ∃ x y, nu[q.1]? = some x ∧ nu[q.2.1]? = some y ∧ x ≤ y + q.2.2
theorem zV.eq {nu : List Int} {n : Nat} {k z z' : Int} (h : zV nu n k z) (h' : zV nu n k z') : z = z' := by
  obtain ⟨a, h1, rfl⟩ := h
  obtain ⟨b, h2, rfl⟩ := h'
  rw [h1] at h2
  cases h2
  rfl
theorem zV.app {nu t : List Int} {n : Nat} {k z : Int} (h : zV nu n k z) : zV (nu ++ t) n k z := by
  obtain ⟨a, h1, h2⟩ := h
  refine ⟨a, ?_, h2⟩
  rw [List.getElem?_append_left (List.getElem?_eq_some_iff.mp h1).1]
  exact h1
theorem zEnv.at {env : List zIv} {nu : List Int} (h : zEnv env nu) {n : Nat} {a : Int} (ha : nu[n]? = some a) : zInIv a (zE env n) := by
  have hl : n < env.length := by rw [← h.1]; exact (List.getElem?_eq_some_iff.mp ha).1
  have he : env[n]? = some env[n] := List.getElem?_eq_getElem hl
  obtain ⟨b, hb, hi⟩ := h.2 n _ he
  rw [ha] at hb
  cases hb
  unfold zE
  rw [he]
  exact hi
theorem zV.bd {env : List zIv} {nu : List Int} {n : Nat} {k z : Int} (h : zV nu n k z) (he : zEnv env nu) : zlo env n + k ≤ z ∧ z ≤ zhi env n + k := by
  obtain ⟨a, h1, rfl⟩ := h
  have hi := he.at h1
  have h2 := zLo_le hi
  have h3 := zHi_ge hi
  unfold zlo zhi
  omega
def zleI (a b : Int) : Bool := bif zltI b a then false else true
theorem zleI_ok {a b : Int} (h : zleI a b = true) : a ≤ b := by
  unfold zleI at h
  cases g : zltI b a with
  | false => exact zltI_no g
  | true =>
    rw [g] at h
    cases h
def zle1 (env : List zIv) (cd : List zCd) (a b : Nat × Int) : Bool := (a.1 == b.1 && zleI a.2 b.2) || (zleI (zhi env a.1 + a.2) (zlo env b.1 + b.2) || cd.any (fun q => q.1 == a.1 && (q.2.1 == b.1 && zleI (q.2.2 + a.2) b.2)))
def zle (env : List zIv) (cd : List zCd) (a b : Nat × Int) : Bool := zle1 env cd a b || cd.any (fun q => q.1 == a.1 && zle1 env cd (q.2.1, q.2.2 + a.2) b)
theorem zle1_ok {env : List zIv} {cd : List zCd} {a b : Nat × Int} {nu : List Int} {x y : Int} (h : zle1 env cd a b = true) (he : zEnv env nu) (hc : zCds cd nu) (hx : zV nu a.1 a.2 x) (hy : zV nu b.1 b.2 y) : x ≤ y := by
  have bx := hx.bd he
  have by' := hy.bd he
  obtain ⟨u, hu, rfl⟩ := hx
  obtain ⟨v, hv, rfl⟩ := hy
  unfold zle1 at h
  rcases Bool.or_eq_true_iff.mp h with h | h
  · rw [Bool.and_eq_true, beq_iff_eq] at h
    have h2 := zleI_ok h.2
    rw [h.1, hv] at hu
    cases hu
    omega
  · rcases Bool.or_eq_true_iff.mp h with h | h
    · have h2 := zleI_ok h
      omega
    · obtain ⟨q, hq, h⟩ := List.any_eq_true.mp h
      rw [Bool.and_eq_true, Bool.and_eq_true, beq_iff_eq, beq_iff_eq] at h
      have h9 := zleI_ok h.2.2
      obtain ⟨x1, y1, h1, h2, h3⟩ := hc q hq
      rw [h.1, hu] at h1
      rw [h.2.1, hv] at h2
      cases h1
      cases h2
      omega
theorem zle_ok {env : List zIv} {cd : List zCd} {a b : Nat × Int} {nu : List Int} {x y : Int} (h : zle env cd a b = true) (he : zEnv env nu) (hc : zCds cd nu) (hx : zV nu a.1 a.2 x) (hy : zV nu b.1 b.2 y) : x ≤ y := by
  unfold zle at h
  rcases Bool.or_eq_true_iff.mp h with h | h
  · exact zle1_ok h he hc hx hy
  · obtain ⟨q, hq, h⟩ := List.any_eq_true.mp h
    rw [Bool.and_eq_true, beq_iff_eq] at h
    obtain ⟨x1, y1, h1, h2, h3⟩ := hc q hq
    obtain ⟨u, hu, rfl⟩ := hx
    rw [h.1, hu] at h1
    cases h1
    have := zle1_ok (x := y1 + (q.2.2 + a.2)) h.2 he hc ⟨y1, h2, rfl⟩ hy
    omega
/-- a name with an offset lies in a set of intervals -/
def zin (env : List zIv) (a : Nat × Int) (iv : zIv) : Bool := (zE env a.1).all (fun p => iv.any (fun q => zleI q.1 (p.1 + a.2) && zleI (p.2 + a.2) q.2))
theorem zin_ok {env : List zIv} {a : Nat × Int} {iv : zIv} {nu : List Int} {x : Int} (h : zin env a iv = true) (he : zEnv env nu) (hx : zV nu a.1 a.2 x) : zInIv x iv := by
  obtain ⟨u, hu, rfl⟩ := hx
  obtain ⟨p, hp, h1, h2⟩ := he.at hu
  have h3 := List.all_eq_true.mp h p hp
  obtain ⟨q, hq, h4⟩ := List.any_eq_true.mp h3
  rw [Bool.and_eq_true] at h4
  have h5 := zleI_ok h4.1
  have h6 := zleI_ok h4.2
  exact ⟨q, hq, by omega, by omega⟩
def zclipHi (iv : zIv) (h : Int) : zIv := iv.filterMap (fun p => if p.1 ≤ h then some (p.1, if p.2 ≤ h then p.2 else h) else none)
def zclipLo (iv : zIv) (l : Int) : zIv := iv.filterMap (fun p => if l ≤ p.2 then some (if l ≤ p.1 then p.1 else l, p.2) else none)
def zcut (iv : zIv) (c : Int) : zIv := iv.flatMap (fun p => if p.1 ≤ c ∧ c ≤ p.2 then (if p.1 < c then [(p.1, c - 1)] else []) ++ (if c < p.2 then [(c + 1, p.2)] else []) else [p])
theorem zclipHi_ok {iv : zIv} {h z : Int} (hz : zInIv z iv) (hh : z ≤ h) : zInIv z (zclipHi iv h) := by
  obtain ⟨p, hp, h1, h2⟩ := hz
  refine ⟨(p.1, if p.2 ≤ h then p.2 else h), List.mem_filterMap.mpr ⟨p, hp, ?_⟩, h1, ?_⟩
  · rw [if_pos (by omega)]
  · show z ≤ (if p.2 ≤ h then p.2 else h)
    split <;> omega
theorem zclipLo_ok {iv : zIv} {l z : Int} (hz : zInIv z iv) (hh : l ≤ z) : zInIv z (zclipLo iv l) := by
  obtain ⟨p, hp, h1, h2⟩ := hz
  refine ⟨(if l ≤ p.1 then p.1 else l, p.2), List.mem_filterMap.mpr ⟨p, hp, ?_⟩, ?_, h2⟩
  · rw [if_pos (by omega)]
  · show (if l ≤ p.1 then p.1 else l) ≤ z
    split <;> omega
theorem zcut_ok {iv : zIv} {c z : Int} (hz : zInIv z iv) (hh : z ≠ c) : zInIv z (zcut iv c) := by
  obtain ⟨p, hp, h1, h2⟩ := hz
  by_cases hc : p.1 ≤ c ∧ c ≤ p.2
  · rcases Int.lt_or_gt_of_ne hh with q | q
    · refine ⟨(p.1, c - 1), List.mem_flatMap.mpr ⟨p, hp, ?_⟩, h1, by show z ≤ c - 1; omega⟩
      rw [if_pos hc, if_pos (by omega)]
      exact List.mem_append.mpr (Or.inl List.mem_cons_self)
    · refine ⟨(c + 1, p.2), List.mem_flatMap.mpr ⟨p, hp, ?_⟩, by show c + 1 ≤ z; omega, h2⟩
      rw [if_pos hc, if_pos (show c < p.2 by omega)]
      exact List.mem_append.mpr (Or.inr List.mem_cons_self)
  · refine ⟨p, List.mem_flatMap.mpr ⟨p, hp, ?_⟩, h1, h2⟩
    rw [if_neg hc]
    exact List.mem_cons_self
/-- one name's set made smaller -/
theorem zEnv.set {env : List zIv} {nu : List Int} (h : zEnv env nu) {n : Nat} {iv : zIv} (hi : ∀ a, nu[n]? = some a → zInIv a iv) : zEnv (env.set n iv) nu := by
  refine ⟨by rw [List.length_set]; exact h.1, fun j jv hj => ?_⟩
  by_cases hjn : j = n
  · subst hjn
    have hl : j < env.length := by
      have := (List.getElem?_eq_some_iff.mp hj).1
      rw [List.length_set] at this
      exact this
    rw [List.getElem?_set_self hl] at hj
    cases hj
    have hl2 : j < nu.length := by rw [h.1]; exact hl
    exact ⟨nu[j], List.getElem?_eq_getElem hl2, hi _ (List.getElem?_eq_getElem hl2)⟩
  · rw [List.getElem?_set_ne (Ne.symm hjn)] at hj
    exact h.2 j jv hj
theorem zEnv.push {env : List zIv} {nu : List Int} (h : zEnv env nu) {iv : zIv} {z : Int} (hz : zInIv z iv) : zEnv (env ++ [iv]) (nu ++ [z]) := by
  refine ⟨by rw [List.length_append, List.length_append, h.1]; rfl, fun j jv hj => ?_⟩
  by_cases hl : j < env.length
  · rw [List.getElem?_append_left hl] at hj
    obtain ⟨a, h1, h2⟩ := h.2 j jv hj
    exact ⟨a, by rw [List.getElem?_append_left (by rw [h.1]; exact hl)]; exact h1, h2⟩
  · rw [List.getElem?_append_right (by omega)] at hj
    have h0 : j - env.length < 1 := (List.getElem?_eq_some_iff.mp hj).1
    have e : j = env.length := by omega
    subst e
    rw [Nat.sub_self] at hj
    cases hj
    refine ⟨z, ?_, hz⟩
    rw [← h.1, List.getElem?_append_right (Nat.le_refl _), Nat.sub_self]
    rfl
theorem zV.new {env : List zIv} {nu : List Int} (h : zEnv env nu) (z : Int) : zV (nu ++ [z]) env.length 0 z := by
  refine ⟨z, ?_, by omega⟩
  rw [← h.1, List.getElem?_append_right (Nat.le_refl _), Nat.sub_self]
  rfl
theorem zCds.app {cd : List zCd} {nu t : List Int} (h : zCds cd nu) : zCds cd (nu ++ t) := by
  intro q hq
  obtain ⟨x, y, h1, h2, h3⟩ := h q hq
  exact ⟨x, y, by rw [List.getElem?_append_left (List.getElem?_eq_some_iff.mp h1).1]; exact h1, by rw [List.getElem?_append_left (List.getElem?_eq_some_iff.mp h2).1]; exact h2, h3⟩
/-- what is known behind 'a ≤ b' -/
def zasE (env : List zIv) (a b : Nat × Int) : List zIv :=
  (env.set a.1 (zclipHi (zE env a.1) (zhi env b.1 + b.2 - a.2))).set b.1 (zclipLo (zE (env.set a.1 (zclipHi (zE env a.1) (zhi env b.1 + b.2 - a.2))) b.1) (zlo env a.1 + a.2 - b.2))
theorem zasE_ok {env : List zIv} {nu : List Int} {a b : Nat × Int} {x y : Int} (h : zEnv env nu) (hx : zV nu a.1 a.2 x) (hy : zV nu b.1 b.2 y) (hl : x ≤ y) : zEnv (zasE env a b) nu := by
  have b1 := hx.bd h
  have b2 := hy.bd h
  obtain ⟨u, hu, rfl⟩ := hx
  obtain ⟨v, hv, rfl⟩ := hy
  have h1 : zEnv (env.set a.1 (zclipHi (zE env a.1) (zhi env b.1 + b.2 - a.2))) nu := h.set (fun z hz => by
    rw [hu] at hz
    cases hz
    exact zclipHi_ok (h.at hu) (by omega))
  refine h1.set (fun z hz => ?_)
  rw [hv] at hz
  cases hz
  exact zclipLo_ok (h1.at hv) (by omega)
def zasC (cd : List zCd) (a b : Nat × Int) : List zCd := (a.1, b.1, b.2 - a.2) :: cd
theorem zasC_ok {cd : List zCd} {nu : List Int} {a b : Nat × Int} {x y : Int} (h : zCds cd nu) (hx : zV nu a.1 a.2 x) (hy : zV nu b.1 b.2 y) (hl : x ≤ y) : zCds (zasC cd a b) nu := by
  obtain ⟨u, hu, rfl⟩ := hx
  obtain ⟨v, hv, rfl⟩ := hy
  intro q hq
  rcases List.mem_cons.mp hq with rfl | hq
  · exact ⟨u, v, hu, hv, by show u ≤ v + (b.2 - a.2); omega⟩
  · exact h q hq
def zMes (me : List zMe) (nu : List Int) : Prop := ∀ q ∈ me, ∃ z r, zV nu q.2.1 q.2.2.1 z ∧ zV nu q.2.2.2.2.1 q.2.2.2.2.2 r ∧ r = zpure q.1 z q.2.2.2.1
theorem zMes.app {me : List zMe} {nu t : List Int} (h : zMes me nu) : zMes me (nu ++ t) := fun q hq => by
  obtain ⟨z, r, h1, h2, h3⟩ := h q hq
  exact ⟨z, r, h1.app, h2.app, h3⟩
