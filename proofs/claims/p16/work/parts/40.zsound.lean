/-! THE CHECKER'S STEP IS RIGHT -/
section ZK
variable {p : Program} {l : Launch} {e : Env} {R : Room} {s : State} {m : MethodId} {args : Array Value} {below : List Frame} {meth : Method} {c : Code} {Q : State → Prop} {cc : ByteArray} {pc ce sl : Nat}
variable {Z : zZ} {D : va_G} {cl : List vw_C} {tys : List (ClassId × FieldType)} {A : Nat → Prop} {ad : Nat → Nat} {gh : Nat → Int} {wr : zWr} {H0 : Heap} {ws0 : va_W} {nu0 : List Int} {nL : Nat}
variable {env : List zIv} {cd : List zCd} {L st : List zAV} {fa : List zFa} {me : List zMe}
variable {sg : zS} {su : List (Nat × zS)} {len : Nat}
theorem zk_cI (h0 : 0 < Z.2.2 ∧ gh 0 = 0) {n lo hi : Int} {el : Nat} {v : Int32} (hlo : -2147483648 ≤ lo) (hhi : hi ≤ 2147483647) (h : zi_c 1 pc sg n lo hi len el = some su) (hv : lo ≤ n → n ≤ hi → v.toInt = n) (row : len = el → ∀ (H : Heap) (locs : List Loc) (ls : Array Slot) (rest : List Value), W p l e R s m args below meth c H locs ce sl Q (F0 m (pc + el) ls (.int v :: rest)) → W p l e R s m args below meth c H locs ce sl Q (F0 m pc ls rest)) (k : ∀ x ∈ su, zWP (zG Z D cl tys A ad gh wr H0 ws0 nu0 nL) (fun H locs pc ls st => W p l e R s m args below meth c H locs ce sl Q (F0 m pc ls st)) x.1 x.2) : zWP (zG Z D cl tys A ad gh wr H0 ws0 nu0 nL) (fun H locs pc ls st => W p l e R s m args below meth c H locs ce sl Q (F0 m pc ls st)) pc sg := by
  obtain ⟨env, cd, L, st, fa, me⟩ := sg
  unfold zi_c at h
  split at h
  · rename_i hc
    cases h
    exact zs_cI h0 (hv hc.2.1 hc.2.2) (row hc.1) (k _ List.mem_cons_self)
  · cases h
theorem zk_cL (h0 : 0 < Z.2.2 ∧ gh 0 = 0) {n lo hi : Int} {el : Nat} {v : Int64} (h : zi_c 2 pc sg n lo hi len el = some su) (hv : lo ≤ n → n ≤ hi → v.toInt = n) (row : len = el → ∀ (H : Heap) (locs : List Loc) (ls : Array Slot) (rest : List Value), W p l e R s m args below meth c H locs ce sl Q (F0 m (pc + el) ls (.long v :: rest)) → W p l e R s m args below meth c H locs ce sl Q (F0 m pc ls rest)) (k : ∀ x ∈ su, zWP (zG Z D cl tys A ad gh wr H0 ws0 nu0 nL) (fun H locs pc ls st => W p l e R s m args below meth c H locs ce sl Q (F0 m pc ls st)) x.1 x.2) : zWP (zG Z D cl tys A ad gh wr H0 ws0 nu0 nL) (fun H locs pc ls st => W p l e R s m args below meth c H locs ce sl Q (F0 m pc ls st)) pc sg := by
  obtain ⟨env, cd, L, st, fa, me⟩ := sg
  unfold zi_c at h
  split at h
  · rename_i hc
    cases h
    exact zs_cL h0 (hv hc.2.1 hc.2.2) (row hc.1) (k _ List.mem_cons_self)
  · cases h
theorem zk_ldcI (h0 : 0 < Z.2.2 ∧ gh 0 = 0) {tb : List (Nat × Int)} {idx el : Nat} (h : zi_ldc tb 1 pc sg idx len el = some su) (row : len = el → ∀ q ∈ tb, q.1 = idx → ∃ v : Int32, v.toInt = q.2 ∧ ∀ (H : Heap) (locs : List Loc) (ls : Array Slot) (rest : List Value), W p l e R s m args below meth c H locs ce sl Q (F0 m (pc + el) ls (.int v :: rest)) → W p l e R s m args below meth c H locs ce sl Q (F0 m pc ls rest)) (k : ∀ x ∈ su, zWP (zG Z D cl tys A ad gh wr H0 ws0 nu0 nL) (fun H locs pc ls st => W p l e R s m args below meth c H locs ce sl Q (F0 m pc ls st)) x.1 x.2) : zWP (zG Z D cl tys A ad gh wr H0 ws0 nu0 nL) (fun H locs pc ls st => W p l e R s m args below meth c H locs ce sl Q (F0 m pc ls st)) pc sg := by
  obtain ⟨env, cd, L, st, fa, me⟩ := sg
  unfold zi_ldc at h
  split at h
  · rename_i f hf
    split at h
    · rename_i hc
      cases h
      obtain ⟨v, hv, hr⟩ := row hc f (List.mem_of_find?_eq_some hf) (by have := List.find?_some hf; simpa using this)
      exact zs_cI h0 hv hr (k _ List.mem_cons_self)
    · cases h
  · cases h
theorem zk_ldcL (h0 : 0 < Z.2.2 ∧ gh 0 = 0) {tb : List (Nat × Int)} {idx el : Nat} (h : zi_ldc tb 2 pc sg idx len el = some su) (row : len = el → ∀ q ∈ tb, q.1 = idx → ∃ v : Int64, v.toInt = q.2 ∧ ∀ (H : Heap) (locs : List Loc) (ls : Array Slot) (rest : List Value), W p l e R s m args below meth c H locs ce sl Q (F0 m (pc + el) ls (.long v :: rest)) → W p l e R s m args below meth c H locs ce sl Q (F0 m pc ls rest)) (k : ∀ x ∈ su, zWP (zG Z D cl tys A ad gh wr H0 ws0 nu0 nL) (fun H locs pc ls st => W p l e R s m args below meth c H locs ce sl Q (F0 m pc ls st)) x.1 x.2) : zWP (zG Z D cl tys A ad gh wr H0 ws0 nu0 nL) (fun H locs pc ls st => W p l e R s m args below meth c H locs ce sl Q (F0 m pc ls st)) pc sg := by
  obtain ⟨env, cd, L, st, fa, me⟩ := sg
  unfold zi_ldc at h
  split at h
  · rename_i f hf
    split at h
    · rename_i hc
      cases h
      obtain ⟨v, hv, hr⟩ := row hc f (List.mem_of_find?_eq_some hf) (by have := List.find?_some hf; simpa using this)
      exact zs_cL h0 hv hr (k _ List.mem_cons_self)
    · cases h
  · cases h
/-- a static or a text -/
theorem zk_cell (h0 : 0 < Z.2.2 ∧ gh 0 = 0) {tb : List (Nat × Nat)} {idx el : Nat} (h : zi_cell tb pc sg idx len el = some su) (row : len = el → ∀ q ∈ tb, q.1 = idx → ∀ (H : Heap) (locs : List Loc) (ls : Array Slot) (rest : List Value), va_S A H0 H locs → W p l e R s m args below meth c H locs ce sl Q (F0 m (pc + el) ls (.ref (ad q.2) :: rest)) → W p l e R s m args below meth c H locs ce sl Q (F0 m pc ls rest)) (k : ∀ x ∈ su, zWP (zG Z D cl tys A ad gh wr H0 ws0 nu0 nL) (fun H locs pc ls st => W p l e R s m args below meth c H locs ce sl Q (F0 m pc ls st)) x.1 x.2) : zWP (zG Z D cl tys A ad gh wr H0 ws0 nu0 nL) (fun H locs pc ls st => W p l e R s m args below meth c H locs ce sl Q (F0 m pc ls st)) pc sg := by
  obtain ⟨env, cd, L, st, fa, me⟩ := sg
  unfold zi_cell at h
  split at h
  · rename_i f hf
    split at h
    · rename_i hc
      cases h
      have hr := row hc f (List.mem_of_find?_eq_some hf) (by have := List.find?_some hf; simpa using this)
      intro nu ls stc ws H locs hG
      obtain ⟨hH, hN, hL, hS, hF, hM⟩ := hG
      exact hr H locs ls stc hH.2.2.1 (k _ List.mem_cons_self nu ls _ ws H locs ⟨hH, hN, hL, ⟨⟨f.2, rfl, hN.cst h0 _⟩, hS⟩, hF, hM⟩)
    · cases h
  · cases h
theorem zk_ldI {i el : Nat} (h : zi_ld 1 pc sg i len el = some su) (row : len = el → ∀ (H : Heap) (locs : List Loc) (ls : Array Slot) (rest : List Value) (x : Int32), ls[i]? = some (.val (.int x)) → W p l e R s m args below meth c H locs ce sl Q (F0 m (pc + el) ls (.int x :: rest)) → W p l e R s m args below meth c H locs ce sl Q (F0 m pc ls rest)) (k : ∀ x ∈ su, zWP (zG Z D cl tys A ad gh wr H0 ws0 nu0 nL) (fun H locs pc ls st => W p l e R s m args below meth c H locs ce sl Q (F0 m pc ls st)) x.1 x.2) : zWP (zG Z D cl tys A ad gh wr H0 ws0 nu0 nL) (fun H locs pc ls st => W p l e R s m args below meth c H locs ce sl Q (F0 m pc ls st)) pc sg := by
  obtain ⟨env, cd, L, st, fa, me⟩ := sg
  unfold zi_ld at h
  split at h
  · rename_i a ha
    obtain ⟨tg, n, kk, n2, k2⟩ := a
    split at h
    · rename_i hc
      obtain ⟨h1, h2⟩ := hc
      have h2 : tg = 1 := h2
      subst h2
      cases h
      exact zs_ldI ha (row h1) (k _ List.mem_cons_self)
    · cases h
  · cases h
theorem zk_ldL {i el : Nat} (h : zi_ld 2 pc sg i len el = some su) (row : len = el → ∀ (H : Heap) (locs : List Loc) (ls : Array Slot) (rest : List Value) (x : Int64), ls[i]? = some (.val (.long x)) → W p l e R s m args below meth c H locs ce sl Q (F0 m (pc + el) ls (.long x :: rest)) → W p l e R s m args below meth c H locs ce sl Q (F0 m pc ls rest)) (k : ∀ x ∈ su, zWP (zG Z D cl tys A ad gh wr H0 ws0 nu0 nL) (fun H locs pc ls st => W p l e R s m args below meth c H locs ce sl Q (F0 m pc ls st)) x.1 x.2) : zWP (zG Z D cl tys A ad gh wr H0 ws0 nu0 nL) (fun H locs pc ls st => W p l e R s m args below meth c H locs ce sl Q (F0 m pc ls st)) pc sg := by
  obtain ⟨env, cd, L, st, fa, me⟩ := sg
  unfold zi_ld at h
  split at h
  · rename_i a ha
    obtain ⟨tg, n, kk, n2, k2⟩ := a
    split at h
    · rename_i hc
      obtain ⟨h1, h2⟩ := hc
      have h2 : tg = 2 := h2
      subst h2
      cases h
      exact zs_ldL ha (row h1) (k _ List.mem_cons_self)
    · cases h
  · cases h
theorem zk_ldA {i el : Nat} (h : zi_ld 3 pc sg i len el = some su) (row : len = el → ∀ (H : Heap) (locs : List Loc) (ls : Array Slot) (rest : List Value) (x : Nat), ls[i]? = some (.val (.ref x)) → W p l e R s m args below meth c H locs ce sl Q (F0 m (pc + el) ls (.ref x :: rest)) → W p l e R s m args below meth c H locs ce sl Q (F0 m pc ls rest)) (k : ∀ x ∈ su, zWP (zG Z D cl tys A ad gh wr H0 ws0 nu0 nL) (fun H locs pc ls st => W p l e R s m args below meth c H locs ce sl Q (F0 m pc ls st)) x.1 x.2) : zWP (zG Z D cl tys A ad gh wr H0 ws0 nu0 nL) (fun H locs pc ls st => W p l e R s m args below meth c H locs ce sl Q (F0 m pc ls st)) pc sg := by
  obtain ⟨env, cd, L, st, fa, me⟩ := sg
  unfold zi_ld at h
  split at h
  · rename_i a ha
    obtain ⟨tg, n, kk, n2, k2⟩ := a
    split at h
    · rename_i hc
      obtain ⟨h1, h2⟩ := hc
      have h2 : tg = 3 := h2
      subst h2
      cases h
      exact zs_ldA ha (row h1) (k _ List.mem_cons_self)
    · cases h
  · cases h
theorem zk_stI {i el : Nat} (h : zi_st 1 pc sg i len el = some su) (row : len = el → ∀ (H : Heap) (locs : List Loc) (ls : Array Slot) (rest : List Value) (x : Int32), lv_has ls nL (zlv ls) → i < nL → (∀ ls' : Array Slot, lv_has ls' nL ((i, Value.int x) :: (zlv ls).filter (fun q => !(q.1 == i) && !(q.1 + 1 == i && q.2.category == 2))) → W p l e R s m args below meth c H locs ce sl Q (F0 m (pc + el) ls' rest)) → W p l e R s m args below meth c H locs ce sl Q (F0 m pc ls (.int x :: rest))) (k : ∀ x ∈ su, zWP (zG Z D cl tys A ad gh wr H0 ws0 nu0 nL) (fun H locs pc ls st => W p l e R s m args below meth c H locs ce sl Q (F0 m pc ls st)) x.1 x.2) : zWP (zG Z D cl tys A ad gh wr H0 ws0 nu0 nL) (fun H locs pc ls st => W p l e R s m args below meth c H locs ce sl Q (F0 m pc ls st)) pc sg := by
  obtain ⟨env, cd, L, st, fa, me⟩ := sg
  match st, h with
  | (tg, n, kk, n2, k2) :: r, hh =>
    simp only [zi_st] at hh
    split at hh
    · rename_i hc
      obtain ⟨h1, h2, h3⟩ := hc
      subst h2
      cases hh
      exact zs_stI h3 (row h1) (k _ List.mem_cons_self)
    · cases hh
theorem zk_stA {i el : Nat} (h : zi_st 3 pc sg i len el = some su) (row : len = el → ∀ (H : Heap) (locs : List Loc) (ls : Array Slot) (rest : List Value) (x : Nat), lv_has ls nL (zlv ls) → i < nL → (∀ ls' : Array Slot, lv_has ls' nL ((i, Value.ref x) :: (zlv ls).filter (fun q => !(q.1 == i) && !(q.1 + 1 == i && q.2.category == 2))) → W p l e R s m args below meth c H locs ce sl Q (F0 m (pc + el) ls' rest)) → W p l e R s m args below meth c H locs ce sl Q (F0 m pc ls (.ref x :: rest))) (k : ∀ x ∈ su, zWP (zG Z D cl tys A ad gh wr H0 ws0 nu0 nL) (fun H locs pc ls st => W p l e R s m args below meth c H locs ce sl Q (F0 m pc ls st)) x.1 x.2) : zWP (zG Z D cl tys A ad gh wr H0 ws0 nu0 nL) (fun H locs pc ls st => W p l e R s m args below meth c H locs ce sl Q (F0 m pc ls st)) pc sg := by
  obtain ⟨env, cd, L, st, fa, me⟩ := sg
  match st, h with
  | (tg, n, kk, n2, k2) :: r, hh =>
    simp only [zi_st] at hh
    split at hh
    · rename_i hc
      obtain ⟨h1, h2, h3⟩ := hc
      subst h2
      cases hh
      exact zs_stA h3 (row h1) (k _ List.mem_cons_self)
    · cases hh
theorem zk_stL {i el : Nat} (h : zi_stL pc sg i len el = some su) (row : len = el → ∀ (H : Heap) (locs : List Loc) (ls : Array Slot) (rest : List Value) (x : Int64), lv_has ls nL (zlv ls) → i + 1 < nL → (∀ ls' : Array Slot, lv_has ls' nL ((i, Value.long x) :: (zlv ls).filter (fun q => !(q.1 == i) && (!(q.1 == i + 1) && !(q.1 + 1 == i && q.2.category == 2)))) → W p l e R s m args below meth c H locs ce sl Q (F0 m (pc + el) ls' rest)) → W p l e R s m args below meth c H locs ce sl Q (F0 m pc ls (.long x :: rest))) (k : ∀ x ∈ su, zWP (zG Z D cl tys A ad gh wr H0 ws0 nu0 nL) (fun H locs pc ls st => W p l e R s m args below meth c H locs ce sl Q (F0 m pc ls st)) x.1 x.2) : zWP (zG Z D cl tys A ad gh wr H0 ws0 nu0 nL) (fun H locs pc ls st => W p l e R s m args below meth c H locs ce sl Q (F0 m pc ls st)) pc sg := by
  obtain ⟨env, cd, L, st, fa, me⟩ := sg
  match st, h with
  | (tg, n, kk, n2, k2) :: r, hh =>
    simp only [zi_stL] at hh
    split at hh
    · rename_i hc
      obtain ⟨h1, h2, h3⟩ := hc
      subst h2
      cases hh
      exact zs_stL h3 (row h1) (k _ List.mem_cons_self)
    · cases hh
theorem zk_iinc (hx : p.tables.exec = Jvm.exec) (hb : c.code = cc) (h0 : 0 < Z.2.2 ∧ gh 0 = 0) {i : Nat} {d : Int} (h : zi_iinc pc sg i d len = some su) (hd : decode cc pc = .ok (.iinc i d, len)) (k : ∀ x ∈ su, zWP (zG Z D cl tys A ad gh wr H0 ws0 nu0 nL) (fun H locs pc ls st => W p l e R s m args below meth c H locs ce sl Q (F0 m pc ls st)) x.1 x.2) : zWP (zG Z D cl tys A ad gh wr H0 ws0 nu0 nL) (fun H locs pc ls st => W p l e R s m args below meth c H locs ce sl Q (F0 m pc ls st)) pc sg := by
  obtain ⟨env, cd, L, st, fa, me⟩ := sg
  unfold zi_iinc at h
  split at h
  · rename_i a ha
    obtain ⟨tg, n, kk, n2, k2⟩ := a
    split at h
    · rename_i hc
      obtain ⟨h1, h2, h3⟩ := hc
      have h2 : tg = 1 := h2
      subst h2
      subst h1
      cases h
      exact zs_iinc hx hb h0 hd h3 ha (k _ List.mem_cons_self)
    · cases h
  · cases h
theorem zk_bin {f : List zIv → Nat × Int → Nat × Int → zRes} {g : Int32 → Int32 → Int32} (h : zi_bin f pc sg len = some su) (row : len = 1 → ∀ (H : Heap) (locs : List Loc) (ls : Array Slot) (rest : List Value) (x y : Int32), W p l e R s m args below meth c H locs ce sl Q (F0 m (pc + 1) ls (.int (g x y) :: rest)) → W p l e R s m args below meth c H locs ce sl Q (F0 m pc ls (.int y :: .int x :: rest)))
    (hr : ∀ (env : List zIv) (cd : List zCd) (a b : Nat × Int) (nu : List Int) (x y : Int32), zN Z.2.2 gh nu0 nu env cd → zV nu a.1 a.2 x.toInt → zV nu b.1 b.2 y.toInt → zRok nu (f env a b) (g x y).toInt) (k : ∀ x ∈ su, zWP (zG Z D cl tys A ad gh wr H0 ws0 nu0 nL) (fun H locs pc ls st => W p l e R s m args below meth c H locs ce sl Q (F0 m pc ls st)) x.1 x.2) : zWP (zG Z D cl tys A ad gh wr H0 ws0 nu0 nL) (fun H locs pc ls st => W p l e R s m args below meth c H locs ce sl Q (F0 m pc ls st)) pc sg := by
  obtain ⟨env, cd, L, st, fa, me⟩ := sg
  match st, h with
  | (t2, n2, k2, m2, l2) :: (t1, n1, k1, m1, l1) :: r, hh =>
    simp only [zi_bin] at hh
    split at hh
    · rename_i hc
      obtain ⟨h1, h2, h3⟩ := hc
      subst h2
      subst h3
      cases hh
      exact zs_bin (fun _ => True) (fun _ _ _ _ => trivial) (fun H locs ls rest x y _ => row h1 H locs ls rest x y) (fun nu x y hN hx hy => hr env cd (n1, k1) (n2, k2) nu x y hN hx hy) (k _ List.mem_cons_self)
    · cases hh
theorem zk_binL {f : List zIv → Nat × Int → Nat × Int → zRes} {g : Int64 → Int64 → Int64} (h : zi_binL f pc sg len = some su) (row : len = 1 → ∀ (H : Heap) (locs : List Loc) (ls : Array Slot) (rest : List Value) (x y : Int64), W p l e R s m args below meth c H locs ce sl Q (F0 m (pc + 1) ls (.long (g x y) :: rest)) → W p l e R s m args below meth c H locs ce sl Q (F0 m pc ls (.long y :: .long x :: rest)))
    (hr : ∀ (env : List zIv) (cd : List zCd) (a b : Nat × Int) (nu : List Int) (x y : Int64), zN Z.2.2 gh nu0 nu env cd → zV nu a.1 a.2 x.toInt → zV nu b.1 b.2 y.toInt → zRok nu (f env a b) (g x y).toInt) (k : ∀ x ∈ su, zWP (zG Z D cl tys A ad gh wr H0 ws0 nu0 nL) (fun H locs pc ls st => W p l e R s m args below meth c H locs ce sl Q (F0 m pc ls st)) x.1 x.2) : zWP (zG Z D cl tys A ad gh wr H0 ws0 nu0 nL) (fun H locs pc ls st => W p l e R s m args below meth c H locs ce sl Q (F0 m pc ls st)) pc sg := by
  obtain ⟨env, cd, L, st, fa, me⟩ := sg
  match st, h with
  | (t2, n2, k2, m2, l2) :: (t1, n1, k1, m1, l1) :: r, hh =>
    simp only [zi_binL] at hh
    split at hh
    · rename_i hc
      obtain ⟨h1, h2, h3⟩ := hc
      subst h2
      subst h3
      cases hh
      exact zs_binL (row h1) (fun nu x y hN hx hy => hr env cd (n1, k1) (n2, k2) nu x y hN hx hy) (k _ List.mem_cons_self)
    · cases hh
theorem zk_shL {g : Int64 → Int32 → Int64} (h : zi_shL pc sg len = some su) (row : len = 1 → ∀ (H : Heap) (locs : List Loc) (ls : Array Slot) (rest : List Value) (x : Int64) (y : Int32), W p l e R s m args below meth c H locs ce sl Q (F0 m (pc + 1) ls (.long (g x y) :: rest)) → W p l e R s m args below meth c H locs ce sl Q (F0 m pc ls (.int y :: .long x :: rest))) (k : ∀ x ∈ su, zWP (zG Z D cl tys A ad gh wr H0 ws0 nu0 nL) (fun H locs pc ls st => W p l e R s m args below meth c H locs ce sl Q (F0 m pc ls st)) x.1 x.2) : zWP (zG Z D cl tys A ad gh wr H0 ws0 nu0 nL) (fun H locs pc ls st => W p l e R s m args below meth c H locs ce sl Q (F0 m pc ls st)) pc sg := by
  obtain ⟨env, cd, L, st, fa, me⟩ := sg
  match st, h with
  | (t2, n2, k2, m2, l2) :: (t1, n1, k1, m1, l1) :: r, hh =>
    simp only [zi_shL] at hh
    split at hh
    · rename_i hc
      obtain ⟨h1, h2, h3⟩ := hc
      subst h2
      subst h3
      cases hh
      exact zs_shL (row h1) (k _ List.mem_cons_self)
    · cases hh
theorem zk_div (hx : p.tables.exec = Jvm.exec) (hb : c.code = cc) (h : zi_dr 0 pc sg len = some su) (hd : decode cc pc = .ok (.idiv, len)) (k : ∀ x ∈ su, zWP (zG Z D cl tys A ad gh wr H0 ws0 nu0 nL) (fun H locs pc ls st => W p l e R s m args below meth c H locs ce sl Q (F0 m pc ls st)) x.1 x.2) : zWP (zG Z D cl tys A ad gh wr H0 ws0 nu0 nL) (fun H locs pc ls st => W p l e R s m args below meth c H locs ce sl Q (F0 m pc ls st)) pc sg := by
  obtain ⟨env, cd, L, st, fa, me⟩ := sg
  match st, h with
  | (t2, n2, k2, m2, l2) :: (t1, n1, k1, m1, l1) :: r, hh =>
    simp only [zi_dr] at hh
    split at hh
    · rename_i hc
      obtain ⟨h1, h2, h3⟩ := hc
      subst h1
      subst h2
      subst h3
      split at hh
      · rename_i s' hs
        cases hh
        exact zs_div hx hb hd hs (k _ List.mem_cons_self)
      · cases hh
    · cases hh
theorem zk_rem (hx : p.tables.exec = Jvm.exec) (hb : c.code = cc) (h : zi_dr 1 pc sg len = some su) (hd : decode cc pc = .ok (.irem, len)) (k : ∀ x ∈ su, zWP (zG Z D cl tys A ad gh wr H0 ws0 nu0 nL) (fun H locs pc ls st => W p l e R s m args below meth c H locs ce sl Q (F0 m pc ls st)) x.1 x.2) : zWP (zG Z D cl tys A ad gh wr H0 ws0 nu0 nL) (fun H locs pc ls st => W p l e R s m args below meth c H locs ce sl Q (F0 m pc ls st)) pc sg := by
  obtain ⟨env, cd, L, st, fa, me⟩ := sg
  match st, h with
  | (t2, n2, k2, m2, l2) :: (t1, n1, k1, m1, l1) :: r, hh =>
    simp only [zi_dr] at hh
    split at hh
    · rename_i hc
      obtain ⟨h1, h2, h3⟩ := hc
      subst h1
      subst h2
      subst h3
      split at hh
      · rename_i s' hs
        cases hh
        exact zs_rem hx hb hd hs (k _ List.mem_cons_self)
      · cases hh
    · cases hh
theorem zk_una {iv : zIv} {g : Int32 → Int32} (h : zi_una iv pc sg len = some su) (row : len = 1 → ∀ (H : Heap) (locs : List Loc) (ls : Array Slot) (rest : List Value) (x : Int32), W p l e R s m args below meth c H locs ce sl Q (F0 m (pc + 1) ls (.int (g x) :: rest)) → W p l e R s m args below meth c H locs ce sl Q (F0 m pc ls (.int x :: rest))) (hr : ∀ x : Int32, zInIv (g x).toInt iv) (k : ∀ x ∈ su, zWP (zG Z D cl tys A ad gh wr H0 ws0 nu0 nL) (fun H locs pc ls st => W p l e R s m args below meth c H locs ce sl Q (F0 m pc ls st)) x.1 x.2) : zWP (zG Z D cl tys A ad gh wr H0 ws0 nu0 nL) (fun H locs pc ls st => W p l e R s m args below meth c H locs ce sl Q (F0 m pc ls st)) pc sg := by
  obtain ⟨env, cd, L, st, fa, me⟩ := sg
  match st, h with
  | (t1, n1, k1, m1, l1) :: r, hh =>
    simp only [zi_una] at hh
    split at hh
    · rename_i hc
      obtain ⟨h1, h2⟩ := hc
      subst h2
      cases hh
      exact zs_una (r := .inr iv) (row h1) (fun nu x hN hx => hr x) (k _ List.mem_cons_self)
    · cases hh
theorem zk_i2l (hx : p.tables.exec = Jvm.exec) (hb : c.code = cc) (h : zi_i2l pc sg len = some su) (hd : decode cc pc = .ok (.i2l, len)) (k : ∀ x ∈ su, zWP (zG Z D cl tys A ad gh wr H0 ws0 nu0 nL) (fun H locs pc ls st => W p l e R s m args below meth c H locs ce sl Q (F0 m pc ls st)) x.1 x.2) : zWP (zG Z D cl tys A ad gh wr H0 ws0 nu0 nL) (fun H locs pc ls st => W p l e R s m args below meth c H locs ce sl Q (F0 m pc ls st)) pc sg := by
  obtain ⟨env, cd, L, st, fa, me⟩ := sg
  match st, h with
  | (t1, n1, k1, m1, l1) :: r, hh =>
    simp only [zi_i2l] at hh
    split at hh
    · rename_i hc
      obtain ⟨h1, h2⟩ := hc
      subst h1
      subst h2
      cases hh
      exact zs_i2l hx hb hd (k _ List.mem_cons_self)
    · cases hh
theorem zk_l2i (hx : p.tables.exec = Jvm.exec) (hb : c.code = cc) (h : zi_l2i pc sg len = some su) (hd : decode cc pc = .ok (.l2i, len)) (k : ∀ x ∈ su, zWP (zG Z D cl tys A ad gh wr H0 ws0 nu0 nL) (fun H locs pc ls st => W p l e R s m args below meth c H locs ce sl Q (F0 m pc ls st)) x.1 x.2) : zWP (zG Z D cl tys A ad gh wr H0 ws0 nu0 nL) (fun H locs pc ls st => W p l e R s m args below meth c H locs ce sl Q (F0 m pc ls st)) pc sg := by
  obtain ⟨env, cd, L, st, fa, me⟩ := sg
  match st, h with
  | (t1, n1, k1, m1, l1) :: r, hh =>
    simp only [zi_l2i] at hh
    split at hh
    · rename_i hc
      obtain ⟨h1, h2⟩ := hc
      subst h1
      subst h2
      cases hh
      exact zs_l2i hx hb hd (k _ List.mem_cons_self)
    · cases hh
theorem zk_lcmp (hx : p.tables.exec = Jvm.exec) (hb : c.code = cc) (h : zi_lcmp pc sg len = some su) (hd : decode cc pc = .ok (.lcmp, len)) (k : ∀ x ∈ su, zWP (zG Z D cl tys A ad gh wr H0 ws0 nu0 nL) (fun H locs pc ls st => W p l e R s m args below meth c H locs ce sl Q (F0 m pc ls st)) x.1 x.2) : zWP (zG Z D cl tys A ad gh wr H0 ws0 nu0 nL) (fun H locs pc ls st => W p l e R s m args below meth c H locs ce sl Q (F0 m pc ls st)) pc sg := by
  obtain ⟨env, cd, L, st, fa, me⟩ := sg
  match st, h with
  | (t2, n2, k2, m2, l2) :: (t1, n1, k1, m1, l1) :: r, hh =>
    simp only [zi_lcmp] at hh
    split at hh
    · rename_i hc
      obtain ⟨h1, h2, h3⟩ := hc
      subst h1
      subst h2
      subst h3
      cases hh
      exact zs_lcmp hx hb hd (k _ List.mem_cons_self)
    · cases hh
theorem zk_icmp {op : Nat} {off : Int} {Pr : Int32 → Int32 → Prop} (h : zi_icmp op pc sg off len = some su) (hP : ∀ x y : Int32, (Pr x y → zrel op x.toInt y.toInt) ∧ (¬ Pr x y → zrel (zopn op) x.toInt y.toInt))
    (row : len = 3 → (pc : Int) + off = (ztgt pc off : Int) → ∀ (H : Heap) (locs : List Loc) (ls : Array Slot) (rest : List Value) (x y : Int32), (Pr x y → W p l e R s m args below meth c H locs ce sl Q (F0 m (ztgt pc off) ls rest)) → (¬ Pr x y → W p l e R s m args below meth c H locs ce sl Q (F0 m (pc + 3) ls rest)) → W p l e R s m args below meth c H locs ce sl Q (F0 m pc ls (.int y :: .int x :: rest))) (k : ∀ x ∈ su, zWP (zG Z D cl tys A ad gh wr H0 ws0 nu0 nL) (fun H locs pc ls st => W p l e R s m args below meth c H locs ce sl Q (F0 m pc ls st)) x.1 x.2) : zWP (zG Z D cl tys A ad gh wr H0 ws0 nu0 nL) (fun H locs pc ls st => W p l e R s m args below meth c H locs ce sl Q (F0 m pc ls st)) pc sg := by
  obtain ⟨env, cd, L, st, fa, me⟩ := sg
  match st, h with
  | (t2, n2, k2, m2, l2) :: (t1, n1, k1, m1, l1) :: r, hh =>
    simp only [zi_icmp] at hh
    split at hh
    · rename_i hc
      obtain ⟨h1, h2, h3, h4⟩ := hc
      subst h2
      subst h3
      cases hh
      exact zs_icmp hP (row h1 h4) (k _ List.mem_cons_self) (k _ (List.mem_cons_of_mem _ List.mem_cons_self))
    · cases hh
theorem zk_if (h0 : 0 < Z.2.2 ∧ gh 0 = 0) {op : Nat} {off : Int} {Pr : Int32 → Prop} (h : zi_if op pc sg off len = some su) (hP : ∀ x : Int32, (Pr x → zrel op x.toInt 0) ∧ (¬ Pr x → zrel (zopn op) x.toInt 0)) (hPL : ∀ x y : Int64, (Pr (lg_cmp x y) → zrel op x.toInt y.toInt) ∧ (¬ Pr (lg_cmp x y) → zrel (zopn op) x.toInt y.toInt))
    (row : len = 3 → (pc : Int) + off = (ztgt pc off : Int) → ∀ (H : Heap) (locs : List Loc) (ls : Array Slot) (rest : List Value) (x : Int32), (Pr x → W p l e R s m args below meth c H locs ce sl Q (F0 m (ztgt pc off) ls rest)) → (¬ Pr x → W p l e R s m args below meth c H locs ce sl Q (F0 m (pc + 3) ls rest)) → W p l e R s m args below meth c H locs ce sl Q (F0 m pc ls (.int x :: rest))) (k : ∀ x ∈ su, zWP (zG Z D cl tys A ad gh wr H0 ws0 nu0 nL) (fun H locs pc ls st => W p l e R s m args below meth c H locs ce sl Q (F0 m pc ls st)) x.1 x.2) : zWP (zG Z D cl tys A ad gh wr H0 ws0 nu0 nL) (fun H locs pc ls st => W p l e R s m args below meth c H locs ce sl Q (F0 m pc ls st)) pc sg := by
  obtain ⟨env, cd, L, st, fa, me⟩ := sg
  match st, h with
  | (t1, n1, k1, m1, l1) :: r, hh =>
    simp only [zi_if] at hh
    split at hh
    · rename_i hc
      obtain ⟨h1, h4⟩ := hc
      split at hh
      · rename_i h2
        subst h2
        cases hh
        exact zs_if h0 hP (row h1 h4) (k _ List.mem_cons_self) (k _ (List.mem_cons_of_mem _ List.mem_cons_self))
      · split at hh
        · rename_i h2
          subst h2
          cases hh
          exact zs_ifL hPL (row h1 h4) (k _ List.mem_cons_self) (k _ (List.mem_cons_of_mem _ List.mem_cons_self))
        · cases hh
    · cases hh
theorem zk_goto (hx : p.tables.exec = Jvm.exec) (hb : c.code = cc) {off : Int} (h : zi_goto pc sg off len = some su) (hd : decode cc pc = .ok (.goto off, len)) (k : ∀ x ∈ su, zWP (zG Z D cl tys A ad gh wr H0 ws0 nu0 nL) (fun H locs pc ls st => W p l e R s m args below meth c H locs ce sl Q (F0 m pc ls st)) x.1 x.2) : zWP (zG Z D cl tys A ad gh wr H0 ws0 nu0 nL) (fun H locs pc ls st => W p l e R s m args below meth c H locs ce sl Q (F0 m pc ls st)) pc sg := by
  unfold zi_goto at h
  split at h
  · rename_i hc
    obtain ⟨h1, h2⟩ := hc
    subst h1
    cases h
    exact zs_goto (env := sg.1) (cd := sg.2.1) (L := sg.2.2.1) (st := sg.2.2.2.1) (fa := sg.2.2.2.2.1) (me := sg.2.2.2.2.2) hx hb hd h2 (k _ List.mem_cons_self)
  · cases h
theorem zk_dup (hx : p.tables.exec = Jvm.exec) (hb : c.code = cc) (h : zi_dup pc sg len = some su) (hd : decode cc pc = .ok (.dup, len)) (k : ∀ x ∈ su, zWP (zG Z D cl tys A ad gh wr H0 ws0 nu0 nL) (fun H locs pc ls st => W p l e R s m args below meth c H locs ce sl Q (F0 m pc ls st)) x.1 x.2) : zWP (zG Z D cl tys A ad gh wr H0 ws0 nu0 nL) (fun H locs pc ls st => W p l e R s m args below meth c H locs ce sl Q (F0 m pc ls st)) pc sg := by
  obtain ⟨env, cd, L, st, fa, me⟩ := sg
  match st, h with
  | a :: r, hh =>
    simp only [zi_dup] at hh
    split at hh
    · rename_i hc
      obtain ⟨h1, h2, h3⟩ := hc
      subst h1
      cases hh
      exact zs_dup hx hb h2 h3 hd (k _ List.mem_cons_self)
    · cases hh
theorem zk_pop (hx : p.tables.exec = Jvm.exec) (hb : c.code = cc) (h : zi_pop pc sg len = some su) (hd : decode cc pc = .ok (.pop, len)) (k : ∀ x ∈ su, zWP (zG Z D cl tys A ad gh wr H0 ws0 nu0 nL) (fun H locs pc ls st => W p l e R s m args below meth c H locs ce sl Q (F0 m pc ls st)) x.1 x.2) : zWP (zG Z D cl tys A ad gh wr H0 ws0 nu0 nL) (fun H locs pc ls st => W p l e R s m args below meth c H locs ce sl Q (F0 m pc ls st)) pc sg := by
  obtain ⟨env, cd, L, st, fa, me⟩ := sg
  match st, h with
  | a :: r, hh =>
    simp only [zi_pop] at hh
    split at hh
    · rename_i hc
      obtain ⟨h1, h2, h3⟩ := hc
      subst h1
      cases hh
      exact zs_pop hx hb h2 h3 hd (k _ List.mem_cons_self)
    · cases hh
theorem zk_pop2 (hx : p.tables.exec = Jvm.exec) (hb : c.code = cc) (h : zi_pop2 pc sg len = some su) (hd : decode cc pc = .ok (.pop2, len)) (k : ∀ x ∈ su, zWP (zG Z D cl tys A ad gh wr H0 ws0 nu0 nL) (fun H locs pc ls st => W p l e R s m args below meth c H locs ce sl Q (F0 m pc ls st)) x.1 x.2) : zWP (zG Z D cl tys A ad gh wr H0 ws0 nu0 nL) (fun H locs pc ls st => W p l e R s m args below meth c H locs ce sl Q (F0 m pc ls st)) pc sg := by
  obtain ⟨env, cd, L, st, fa, me⟩ := sg
  match st, h with
  | (t1, n1, k1, m1, l1) :: r, hh =>
    simp only [zi_pop2] at hh
    split at hh
    · rename_i hc
      obtain ⟨h1, h2⟩ := hc
      subst h1
      subst h2
      cases hh
      intro nu ls stc ws H locs hG
      obtain ⟨hH, hN, hL, hS, hF, hM⟩ := hG
      match stc, hS with
      | v1 :: stc, ⟨⟨x, hv, _⟩, hS⟩ =>
        subst hv
        exact lv_pop2_2 hx hb hd rfl (k _ List.mem_cons_self nu ls _ ws H locs ⟨hH, hN, hL, hS, hF, hM⟩)
    · cases hh
theorem zsw_mem {r : List zAV} {a : Nat × Int} {lo : Int} : ∀ {offs : List Int} {b i : Nat} {off : Int}, offs[i]? = some off → (ztgt pc off, ((zas 0 sg.1 sg.2.1 a (0, lo + ((b + i : Nat) : Int))).1, (zas 0 sg.1 sg.2.1 a (0, lo + ((b + i : Nat) : Int))).2, sg.2.2.1, r, sg.2.2.2.2.1, sg.2.2.2.2.2)) ∈ zsw pc sg r a lo b offs
  | o :: offs, b, 0, off, h => by
    rw [List.getElem?_cons_zero] at h
    cases h
    exact List.mem_cons_self
  | o :: offs, b, i + 1, off, h => by
    rw [List.getElem?_cons_succ] at h
    have := zsw_mem (r := r) (a := a) (lo := lo) (b := b + 1) h
    rw [show b + 1 + i = b + (i + 1) by omega] at this
    exact List.mem_cons_of_mem _ this
  | [], b, i, off, h => by simp at h
theorem zk_tsw (hx : p.tables.exec = Jvm.exec) (hb : c.code = cc) (h0 : 0 < Z.2.2 ∧ gh 0 = 0) {dflt lo hi : Int} {offs : Array Int} (h : zi_tsw pc sg dflt lo hi offs.toList = some su) (hd : decode cc pc = .ok (.tableswitch dflt lo hi offs, len)) (k : ∀ x ∈ su, zWP (zG Z D cl tys A ad gh wr H0 ws0 nu0 nL) (fun H locs pc ls st => W p l e R s m args below meth c H locs ce sl Q (F0 m pc ls st)) x.1 x.2) : zWP (zG Z D cl tys A ad gh wr H0 ws0 nu0 nL) (fun H locs pc ls st => W p l e R s m args below meth c H locs ce sl Q (F0 m pc ls st)) pc sg := by
  obtain ⟨env, cd, L, st, fa, me⟩ := sg
  match st, h with
  | (t1, n1, k1, m1, l1) :: r, hh =>
    simp only [zi_tsw] at hh
    split at hh
    · rename_i hc
      obtain ⟨h1, h2, h3, h4⟩ := hc
      subst h1
      cases hh
      refine zs_tsw hx hb h0 hd h2 h3 (k _ List.mem_cons_self) (k _ (List.mem_cons_of_mem _ List.mem_cons_self)) (fun i off ho => ?_)
      have h5 := List.all_eq_true.mp h4 off (List.mem_of_getElem? ho)
      rw [decide_eq_true_eq] at h5
      have h6 := zsw_mem (pc := pc) (sg := (env, cd, L, (1, n1, k1, m1, l1) :: r, fa, me)) (r := r) (a := (n1, k1)) (lo := lo) (b := 0) ho
      rw [Nat.zero_add] at h6
      exact ⟨_, h5, k _ (List.mem_cons_of_mem _ (List.mem_cons_of_mem _ h6))⟩
    · cases hh
theorem zk_lsw (hx : p.tables.exec = Jvm.exec) (hb : c.code = cc) (h0 : 0 < Z.2.2 ∧ gh 0 = 0) {dflt : Int} {ps : Array (Int × Int)} (h : zi_lsw pc sg dflt ps.toList = some su) (hd : decode cc pc = .ok (.lookupswitch dflt ps, len)) (k : ∀ x ∈ su, zWP (zG Z D cl tys A ad gh wr H0 ws0 nu0 nL) (fun H locs pc ls st => W p l e R s m args below meth c H locs ce sl Q (F0 m pc ls st)) x.1 x.2) : zWP (zG Z D cl tys A ad gh wr H0 ws0 nu0 nL) (fun H locs pc ls st => W p l e R s m args below meth c H locs ce sl Q (F0 m pc ls st)) pc sg := by
  obtain ⟨env, cd, L, st, fa, me⟩ := sg
  match st, h with
  | (t1, n1, k1, m1, l1) :: r, hh =>
    simp only [zi_lsw] at hh
    split at hh
    · rename_i hc
      obtain ⟨h1, h2, h3, h4⟩ := hc
      subst h1
      cases hh
      refine zs_lsw hx hb h0 hd h2 h3 (k _ List.mem_cons_self) (fun q hq => ?_)
      have h5 := List.all_eq_true.mp h4 q hq
      rw [decide_eq_true_eq] at h5
      exact ⟨_, h5, k _ (List.mem_cons_of_mem _ (List.mem_map.mpr ⟨q, hq, rfl⟩))⟩
    · cases hh
/-- a field of few values: a way for each -/
theorem zs_get7 (hx : p.tables.exec = Jvm.exec) (hb : c.code = cc) (h0 : 0 < Z.2.2 ∧ gh 0 = 0) {own : String} (hown : s.vm.findClass own = some m.cls) (hK : va_K D cl tys s) {idx ci j n n2 x : Nat} {k k2 : Int} {fts : List zFT} {ft : zFT} (hd : decode cc pc = .ok (.getfield idx, 3)) (hf : zFld cl s args own idx ci j)
    (ht : zty Z env (n, k) = some (0, ci, x, fts)) (hj : fts[j]? = some ft) (h7 : ft.1 = 7) (kk : ∀ v ∈ zspl ft.2.1 (ft.2.2 - ft.2.1 + 1).toNat, zWP (zG Z D cl tys A ad gh wr H0 ws0 nu0 nL) (fun H locs pc ls st => W p l e R s m args below meth c H locs ce sl Q (F0 m pc ls st)) (pc + 3) (env, cd, L, (1, 0, v, 0, 0) :: st, (n, k, j, (1, 0, v, 0, 0)) :: fa, me)) : zWP (zG Z D cl tys A ad gh wr H0 ws0 nu0 nL) (fun H locs pc ls st => W p l e R s m args below meth c H locs ce sl Q (F0 m pc ls st)) pc (env, cd, L, (3, n, k, n2, k2) :: st, fa, me) := by
  intro nu ls stc ws H locs hG
  obtain ⟨hH, hN, hL, hS, hF, hM⟩ := hG
  match stc, hS with
  | v1 :: stc, ⟨⟨q, hq, h1⟩, hS⟩ =>
    subst hq
    obtain ⟨e0, he0, g1, g2, g3⟩ := zty_ok ht hN.1 h1
    have hc := hH.2.2.2.1 e0 he0 q g1 g2
    rw [g3] at hc
    obtain ⟨fs, c1, c2, c3⟩ := hc
    have hl : j < fs.length := by rw [c2]; exact (List.getElem?_eq_some_iff.mp hj).1
    have hv : fs[j]? = some fs[j] := List.getElem?_eq_getElem hl
    have hz := c3 j ft _ hj hv
    obtain ⟨tg, lo, hi⟩ := ft
    have h7 : tg = 7 := h7
    subst h7
    obtain ⟨y, hy, y1, y2⟩ := hz
    have hm : y.toInt ∈ zspl lo (hi - lo + 1).toNat := by
      unfold zspl
      exact List.mem_map.mpr ⟨(y.toInt - lo).toNat, List.mem_range.mpr (by omega), by omega⟩
    have hG' : zG Z D cl tys A ad gh wr H0 ws0 nu0 nL (env, cd, L, (1, 0, y.toInt, 0, 0) :: st, (n, k, j, (1, 0, y.toInt, 0, 0)) :: fa, me) nu ls (fs[j] :: stc) ws H locs := by
      refine ⟨hH, hN, hL, ⟨⟨y, hy, hN.cst h0 _⟩, hS⟩, fun f hf => ?_, hM⟩
      rcases List.mem_cons.mp hf with rfl | hf
      · exact ⟨q, fs[j], h1, by unfold zfv; rw [c1]; exact hv, y, hy, hN.cst h0 _⟩
      · exact hF f hf
    obtain ⟨C, T, N, ty0, f1, f2, f3, f4, f5, f6⟩ := hf
    rcases f6 with f6 | ⟨host, f6⟩
    · exact va_get hx hb f3 (fun w hw => hw) hown hK hH.1 q c1 f1 j f2 f6 (fun x h => h) hv hd (kk _ hm nu ls _ ws H locs hG')
    · exact va_getN hx hb f3 (fun w hw => hw) hown hK hH.1 q c1 f1 j f2 f6 (fun x h => h) hv hd (kk _ hm nu ls _ ws H locs hG')
theorem zk_get (hx : p.tables.exec = Jvm.exec) (hb : c.code = cc) (h0 : 0 < Z.2.2 ∧ gh 0 = 0) {own : String} (hown : s.vm.findClass own = some m.cls) (hK : va_K D cl tys s) {P : zPool} (hFl : ∀ f ∈ P.1, zFld cl s args own f.1 f.2.1 f.2.2.1) {idx : Nat} (h : zi_get Z P pc sg idx len = some su) (hd : decode cc pc = .ok (.getfield idx, len)) (k : ∀ x ∈ su, zWP (zG Z D cl tys A ad gh wr H0 ws0 nu0 nL) (fun H locs pc ls st => W p l e R s m args below meth c H locs ce sl Q (F0 m pc ls st)) x.1 x.2) : zWP (zG Z D cl tys A ad gh wr H0 ws0 nu0 nL) (fun H locs pc ls st => W p l e R s m args below meth c H locs ce sl Q (F0 m pc ls st)) pc sg := by
  obtain ⟨env, cd, L, st, fa, me⟩ := sg
  unfold zi_get at h
  split at h
  · rename_i a r f e1 e2
    obtain ⟨t1, n1, k1, m1, l1⟩ := a
    have e1 : st = (t1, n1, k1, m1, l1) :: r := e1
    subst e1
    split at h
    · rename_i hc
      obtain ⟨h1, h2⟩ := hc
      have h2 : t1 = 3 := h2
      subst h1
      subst h2
      split at h
      · rename_i ci x fts ht
        split at h
        · rename_i ft hj
          split at h
          · rename_i hci
            have hf := hFl f (List.mem_of_find?_eq_some e2)
            have hi : f.1 = idx := by have := List.find?_some e2; simpa using this
            rw [hi, ← hci] at hf
            split at h
            · rename_i hs7
              cases h
              exact zs_get7 hx hb h0 hown hK hd hf ht hj hs7.1 (fun v hv => k _ (List.mem_map.mpr ⟨v, hv, rfl⟩))
            · split at h
              · rename_i s' hs
                cases h
                exact zs_get hx hb h0 hown hK hd hf ht hj hs (k _ List.mem_cons_self)
              · cases h
          · cases h
        · cases h
      · cases h
    · cases h
  · cases h
theorem zk_put (hx : p.tables.exec = Jvm.exec) (hb : c.code = cc) (h0 : 0 < Z.2.2 ∧ gh 0 = 0) {own : String} (hown : s.vm.findClass own = some m.cls) (hK : va_K D cl tys s) (hZ : zDj Z) {P : zPool} (hFl : ∀ f ∈ P.1, f.2.2.2 ≤ 2 → zFldP cl s args own f.1 f.2.1 f.2.2.1 f.2.2.2) {idx : Nat} (h : zi_put Z P wr pc sg idx len = some su) (hd : decode cc pc = .ok (.putfield idx, len)) (k : ∀ x ∈ su, zWP (zG Z D cl tys A ad gh wr H0 ws0 nu0 nL) (fun H locs pc ls st => W p l e R s m args below meth c H locs ce sl Q (F0 m pc ls st)) x.1 x.2) : zWP (zG Z D cl tys A ad gh wr H0 ws0 nu0 nL) (fun H locs pc ls st => W p l e R s m args below meth c H locs ce sl Q (F0 m pc ls st)) pc sg := by
  obtain ⟨env, cd, L, st, fa, me⟩ := sg
  unfold zi_put at h
  split at h
  · rename_i v a r f e1 e2
    obtain ⟨t1, n1, k1, m1, l1⟩ := a
    have e1 : st = v :: (t1, n1, k1, m1, l1) :: r := e1
    subst e1
    split at h
    · rename_i hc
      obtain ⟨h1, h2, h3⟩ := hc
      have h2 : t1 = 3 := h2
      subst h1
      subst h2
      split at h
      · rename_i ci x fts ht
        split at h
        · rename_i ft hj
          split at h
          · rename_i hci
            obtain ⟨c1, c2, c3, c4⟩ := hci
            cases h
            have hf := hFl f (List.mem_of_find?_eq_some e2) h3
            have hi : f.1 = idx := by have := List.find?_some e2; simpa using this
            rw [hi, ← c1] at hf
            exact zs_put hx hb h0 hown hK hZ hd hf ht hj c2 c3 c4 (k _ List.mem_cons_self)
          · cases h
        · cases h
      · cases h
    · cases h
  · cases h
theorem zk_iald (hx : p.tables.exec = Jvm.exec) (hb : c.code = cc) (h0 : 0 < Z.2.2 ∧ gh 0 = 0) (hK : va_K D cl tys s) {RS : List (List Int)} (hRS : ∀ (i : Nat) (tb : List Int), RS[i]? = some tb → ∀ (H : Heap) (locs : List Loc) (ls : Array Slot) (rest : List Value) (x : Int32), decode cc pc = .ok (.iaload, 1) → va_S A H0 H locs → vp_in x tb.length → W p l e R s m args below meth c H locs ce sl Q (F0 m (pc + 1) ls (.int (Int32.ofInt (tb.getD x.toNatClampNeg 0)) :: rest)) → W p l e R s m args below meth c H locs ce sl Q (F0 m pc ls (.int x :: .ref (ad (1000 + i)) :: rest)))
    (h : zi_iald Z RS pc sg len = some su) (hd : decode cc pc = .ok (.iaload, len)) (k : ∀ x ∈ su, zWP (zG Z D cl tys A ad gh wr H0 ws0 nu0 nL) (fun H locs pc ls st => W p l e R s m args below meth c H locs ce sl Q (F0 m pc ls st)) x.1 x.2) : zWP (zG Z D cl tys A ad gh wr H0 ws0 nu0 nL) (fun H locs pc ls st => W p l e R s m args below meth c H locs ce sl Q (F0 m pc ls st)) pc sg := by
  obtain ⟨env, cd, L, st, fa, me⟩ := sg
  match st, h with
  | (t2, n2, k2, m2, l2) :: (t1, n1, k1, m1, l1) :: r, hh =>
    simp only [zi_iald] at hh
    split at hh
    · rename_i hc
      obtain ⟨h1, h2, h3⟩ := hc
      subst h1
      subst h2
      subst h3
      split at hh
      · rename_i hs
        obtain ⟨hs1, hs2⟩ := hs
        subst hs1
        split at hh
        · rename_i tb htb
          split at hh
          · rename_i hbd
            cases hh
            intro nu ls stc ws H locs hG
            obtain ⟨hH, hN, hL, hS, hF, hM⟩ := hG
            match stc, hS with
            | v2 :: v1 :: stc, ⟨⟨x, hx', g2⟩, ⟨q, hq, g1⟩, hS⟩ =>
              subst hq
              subst hx'
              obtain ⟨b1, b2, b3⟩ := zbds_ok (i := (n2, k2)) hbd.1 (hN.z0 h0) hN.1 hN.2.1 g2
              have eq : q = 1000 + (k1 - 1000).toNat := by
                have := g1.eq (hN.cst h0 k1)
                omega
              rw [eq]
              have hm : tb.getD x.toNatClampNeg 0 ∈ tb := by
                rw [List.getD_eq_getElem?_getD, List.getElem?_eq_getElem b2]
                exact List.getElem_mem b2
              have hrg := List.all_eq_true.mp hbd.2 _ hm
              rw [Bool.and_eq_true, decide_eq_true_eq, decide_eq_true_eq] at hrg
              have hz : zRok nu (zrsI tb (n2, k2) env) (Int32.ofInt (tb.getD x.toNatClampNeg 0)).toInt := by
                rw [zofI hrg.1 hrg.2]
                unfold zrsI
                by_cases hcs : zcst env (n2, k2) = true
                · rw [if_pos hcs]
                  have e := zcst_ok (a := (n2, k2)) hcs hN.1 g2
                  have e2 : x.toNatClampNeg = (zlo env (n2, k2).1 + (n2, k2).2).toNat := by rw [← e]; rfl
                  rw [e2]
                  exact hN.cst h0 _
                · rw [if_neg hcs]
                  exact ⟨_, List.mem_map.mpr ⟨_, hm, rfl⟩, Int.le_refl _, Int.le_refl _⟩
              obtain ⟨nu', hG'⟩ := zG.pushI (sg := (env, cd, L, r, fa, me)) (stc' := stc) ⟨hH, hN, hL, hS, hF, hM⟩ hS hz
              exact hRS _ tb htb H locs ls stc x hd hH.2.2.1 b1 (k _ List.mem_cons_self nu' ls _ ws H locs hG')
          · cases hh
        · cases hh
      · split at hh
        · rename_i t0 n ft fts ht
          split at hh
          · rename_i hbd
            split at hh
            · rename_i s' hs
              cases hh
              exact zs_iald hx hb h0 hK hd ht rfl hbd hs (k _ List.mem_cons_self)
            · cases hh
          · cases hh
        · cases hh
    · cases hh
theorem zk_bald (hx : p.tables.exec = Jvm.exec) (hb : c.code = cc) (h0 : 0 < Z.2.2 ∧ gh 0 = 0) (hK : va_K D cl tys s) (h : zi_bald Z pc sg len = some su) (hd : decode cc pc = .ok (.baload, len)) (k : ∀ x ∈ su, zWP (zG Z D cl tys A ad gh wr H0 ws0 nu0 nL) (fun H locs pc ls st => W p l e R s m args below meth c H locs ce sl Q (F0 m pc ls st)) x.1 x.2) : zWP (zG Z D cl tys A ad gh wr H0 ws0 nu0 nL) (fun H locs pc ls st => W p l e R s m args below meth c H locs ce sl Q (F0 m pc ls st)) pc sg := by
  obtain ⟨env, cd, L, st, fa, me⟩ := sg
  match st, h with
  | (t2, n2, k2, m2, l2) :: (t1, n1, k1, m1, l1) :: r, hh =>
    simp only [zi_bald] at hh
    split at hh
    · rename_i hc
      obtain ⟨h1, h2, h3⟩ := hc
      subst h1
      subst h2
      subst h3
      split at hh
      · rename_i t0 n ft fts ht
        split at hh
        · rename_i hbd
          split at hh
          · rename_i s' hs
            cases hh
            exact zs_bald hx hb h0 hK hd ht rfl hbd hs (k _ List.mem_cons_self)
          · cases hh
        · cases hh
      · cases hh
    · cases hh
theorem zk_lald (hx : p.tables.exec = Jvm.exec) (hb : c.code = cc) (h0 : 0 < Z.2.2 ∧ gh 0 = 0) (hK : va_K D cl tys s) (h : zi_lald Z pc sg len = some su) (hd : decode cc pc = .ok (.laload, len)) (k : ∀ x ∈ su, zWP (zG Z D cl tys A ad gh wr H0 ws0 nu0 nL) (fun H locs pc ls st => W p l e R s m args below meth c H locs ce sl Q (F0 m pc ls st)) x.1 x.2) : zWP (zG Z D cl tys A ad gh wr H0 ws0 nu0 nL) (fun H locs pc ls st => W p l e R s m args below meth c H locs ce sl Q (F0 m pc ls st)) pc sg := by
  obtain ⟨env, cd, L, st, fa, me⟩ := sg
  match st, h with
  | (t2, n2, k2, m2, l2) :: (t1, n1, k1, m1, l1) :: r, hh =>
    simp only [zi_lald] at hh
    split at hh
    · rename_i hc
      obtain ⟨h1, h2, h3⟩ := hc
      subst h1
      subst h2
      subst h3
      split at hh
      · rename_i t0 n fts ht
        split at hh
        · rename_i hbd
          split at hh
          · rename_i s' hs
            cases hh
            exact zs_lald hx hb h0 hK hd ht hbd hs (k _ List.mem_cons_self)
          · cases hh
        · cases hh
      · cases hh
    · cases hh
theorem zk_aald (hx : p.tables.exec = Jvm.exec) (hb : c.code = cc) (h0 : 0 < Z.2.2 ∧ gh 0 = 0) (hK : va_K D cl tys s) (h : zi_aald Z pc sg len = some su) (hd : decode cc pc = .ok (.aaload, len)) (k : ∀ x ∈ su, zWP (zG Z D cl tys A ad gh wr H0 ws0 nu0 nL) (fun H locs pc ls st => W p l e R s m args below meth c H locs ce sl Q (F0 m pc ls st)) x.1 x.2) : zWP (zG Z D cl tys A ad gh wr H0 ws0 nu0 nL) (fun H locs pc ls st => W p l e R s m args below meth c H locs ce sl Q (F0 m pc ls st)) pc sg := by
  obtain ⟨env, cd, L, st, fa, me⟩ := sg
  match st, h with
  | (t2, n2, k2, m2, l2) :: (t1, n1, k1, m1, l1) :: r, hh =>
    simp only [zi_aald] at hh
    split at hh
    · rename_i hc
      obtain ⟨h1, h2, h3⟩ := hc
      subst h1
      subst h2
      subst h3
      split at hh
      · rename_i tg t0 n ft fts ht
        split at hh
        · rename_i hbd
          cases hh
          exact zs_aald hx hb h0 hK hd hbd.1 ht rfl hbd.2 (k _ List.mem_cons_self)
        · cases hh
      · cases hh
    · cases hh
theorem zk_iast (hx : p.tables.exec = Jvm.exec) (hb : c.code = cc) (h0 : 0 < Z.2.2 ∧ gh 0 = 0) (hK : va_K D cl tys s) (hZ : zDj Z) (h : zi_iast Z wr pc sg len = some su) (hd : decode cc pc = .ok (.iastore, len)) (k : ∀ x ∈ su, zWP (zG Z D cl tys A ad gh wr H0 ws0 nu0 nL) (fun H locs pc ls st => W p l e R s m args below meth c H locs ce sl Q (F0 m pc ls st)) x.1 x.2) : zWP (zG Z D cl tys A ad gh wr H0 ws0 nu0 nL) (fun H locs pc ls st => W p l e R s m args below meth c H locs ce sl Q (F0 m pc ls st)) pc sg := by
  obtain ⟨env, cd, L, st, fa, me⟩ := sg
  match st, h with
  | (t3, n3, k3, m3, l3) :: (t2, n2, k2, m2, l2) :: (t1, n1, k1, m1, l1) :: r, hh =>
    simp only [zi_iast] at hh
    split at hh
    · rename_i hc
      obtain ⟨h1, h2, h3, h4⟩ := hc
      subst h1
      subst h2
      subst h3
      subst h4
      split at hh
      · rename_i t0 n ft ht
        split at hh
        · rename_i hbd
          cases hh
          exact zs_iast hx hb h0 hK hZ hd ht rfl hbd.1 hbd.2.1 hbd.2.2 (k _ List.mem_cons_self)
        · cases hh
      · cases hh
    · cases hh
theorem zk_bast (hx : p.tables.exec = Jvm.exec) (hb : c.code = cc) (h0 : 0 < Z.2.2 ∧ gh 0 = 0) (hK : va_K D cl tys s) (hZ : zDj Z) (h : zi_bast Z wr pc sg len = some su) (hd : decode cc pc = .ok (.bastore, len)) (k : ∀ x ∈ su, zWP (zG Z D cl tys A ad gh wr H0 ws0 nu0 nL) (fun H locs pc ls st => W p l e R s m args below meth c H locs ce sl Q (F0 m pc ls st)) x.1 x.2) : zWP (zG Z D cl tys A ad gh wr H0 ws0 nu0 nL) (fun H locs pc ls st => W p l e R s m args below meth c H locs ce sl Q (F0 m pc ls st)) pc sg := by
  obtain ⟨env, cd, L, st, fa, me⟩ := sg
  match st, h with
  | (t3, n3, k3, m3, l3) :: (t2, n2, k2, m2, l2) :: (t1, n1, k1, m1, l1) :: r, hh =>
    simp only [zi_bast] at hh
    split at hh
    · rename_i hc
      obtain ⟨h1, h2, h3, h4⟩ := hc
      subst h1
      subst h2
      subst h3
      subst h4
      split at hh
      · rename_i t0 n fts ht
        split at hh
        · rename_i hbd
          cases hh
          exact zs_bast hx hb h0 hK hZ hd ht hbd.1 hbd.2.1 hbd.2.2 (k _ List.mem_cons_self)
        · cases hh
      · cases hh
    · cases hh
theorem zk_last (hx : p.tables.exec = Jvm.exec) (hb : c.code = cc) (h0 : 0 < Z.2.2 ∧ gh 0 = 0) (hK : va_K D cl tys s) (hZ : zDj Z) (h : zi_last Z wr pc sg len = some su) (hd : decode cc pc = .ok (.lastore, len)) (k : ∀ x ∈ su, zWP (zG Z D cl tys A ad gh wr H0 ws0 nu0 nL) (fun H locs pc ls st => W p l e R s m args below meth c H locs ce sl Q (F0 m pc ls st)) x.1 x.2) : zWP (zG Z D cl tys A ad gh wr H0 ws0 nu0 nL) (fun H locs pc ls st => W p l e R s m args below meth c H locs ce sl Q (F0 m pc ls st)) pc sg := by
  obtain ⟨env, cd, L, st, fa, me⟩ := sg
  match st, h with
  | (t3, n3, k3, m3, l3) :: (t2, n2, k2, m2, l2) :: (t1, n1, k1, m1, l1) :: r, hh =>
    simp only [zi_last] at hh
    split at hh
    · rename_i hc
      obtain ⟨h1, h2, h3, h4⟩ := hc
      subst h1
      subst h2
      subst h3
      subst h4
      split at hh
      · rename_i t0 n fts ht
        split at hh
        · rename_i hbd
          cases hh
          exact zs_last hx hb h0 hK hZ hd ht hbd.1 hbd.2 (k _ List.mem_cons_self)
        · cases hh
      · cases hh
    · cases hh
end ZK
