/-! A CLASS'S POOL IS THE TABLES': checked by the words' places -/
def zmemB (tbl : List Cond) (w : Cond) (i : Nat) : Bool := decide (tbl[i]? = some w)
theorem zmem_ok {tbl Ts : List Cond} {w : Cond} {i : Nat} (hT : ∀ w ∈ tbl, w ∈ Ts) (h : zmemB tbl w i = true) : w ∈ Ts := by
  unfold zmemB at h
  rw [decide_eq_true_eq] at h
  exact hT _ (List.mem_of_getElem? h)
theorem zTs_good {tbl : List Cond} : ∀ w ∈ tbl.filter goodWord, goodWord w = true := fun w hw => (List.mem_filter.mp hw).2
def zTy0 (T : u_T) (k : Nat) : FieldType := (parseFieldDescriptor (T k).2.2.1).getD .int
/-- a class's layout: the places of its fields' words -/
def zclsB (tbl : List Cond) (c : vw_C) (is : List Nat) : Bool := (List.range c.2.2).all (fun k => zmemB tbl (u_lay c.1 c.2.1 k) (is.getD k 0) && ((parseFieldDescriptor (c.2.1 k).2.2.1).isSome && (List.range c.2.2).all (fun b => k == b || !((c.2.1 k).2.1 == (c.2.1 b).2.1))))
def zclsOk (Ts : List Cond) (c : vw_C) : Prop := (∀ w ∈ u_ws c.1 c.2.1 c.2.2, w ∈ Ts) ∧ (∀ k, k < c.2.2 → parseFieldDescriptor (c.2.1 k).2.2.1 = some (zTy0 c.2.1 k)) ∧ ∀ a, a < c.2.2 → ∀ b, b < c.2.2 → a ≠ b → (c.2.1 a).2.1 ≠ (c.2.1 b).2.1
theorem zclsB_ok {tbl Ts : List Cond} {c : vw_C} {is : List Nat} (hT : ∀ w ∈ tbl, w ∈ Ts) (h : zclsB tbl c is = true) : zclsOk Ts c := by
  have key : ∀ k, k < c.2.2 → zmemB tbl (u_lay c.1 c.2.1 k) (is.getD k 0) = true ∧ (parseFieldDescriptor (c.2.1 k).2.2.1).isSome = true ∧ ∀ b, b < c.2.2 → (k == b || !((c.2.1 k).2.1 == (c.2.1 b).2.1)) = true := fun k hk => by
    have h1 := List.all_eq_true.mp h k (List.mem_range.mpr hk)
    rw [Bool.and_eq_true, Bool.and_eq_true] at h1
    exact ⟨h1.1, h1.2.1, fun b hb => List.all_eq_true.mp h1.2.2 b (List.mem_range.mpr hb)⟩
  refine ⟨fun w hw => ?_, fun k hk => ?_, fun a ha b hb hab he => ?_⟩
  · obtain ⟨k, hk, rfl⟩ := List.mem_map.mp hw
    exact zmem_ok hT (key k (List.mem_range.mp hk)).1
  · obtain ⟨y, hy⟩ := Option.isSome_iff_exists.mp (key k hk).2.1
    unfold zTy0
    rw [hy]
    rfl
  · have h1 := (key a ha).2.2 b hb
    rw [Bool.or_eq_true, beq_iff_eq] at h1
    rcases h1 with h1 | h1
    · exact hab h1
    · rw [he] at h1
      simp at h1
def zfldB (tbl : List Cond) (cl : List vw_C) (own : String) (f : Nat × Nat × Nat × Nat) (i : Nat) : Bool := match cl[f.2.1]? with
  | some c => decide (f.2.2.1 < c.2.2) && (zmemB tbl (Cond.fieldLink own f.1 (c.2.1 f.2.2.1).1 (c.2.1 f.2.2.1).2.1 (c.2.1 f.2.2.1).2.2.1) i && ((decide (2 < f.2.2.2) || !(c.2.1 f.2.2.1).2.2.2) && ((!(f.2.2.2 == 0) || decide (zTy0 c.2.1 f.2.2.1 = .int)) && ((!(f.2.2.2 == 1) || decide (zTy0 c.2.1 f.2.2.1 = .boolean)) && (!(f.2.2.2 == 2) || (match zTy0 c.2.1 f.2.2.1 with
    | .object _ => true
    | _ => false))))))
  | none => false
theorem zfldB_ok {tbl Ts : List Cond} {cl : List vw_C} {own : String} {f : Nat × Nat × Nat × Nat} {i : Nat} (hT : ∀ w ∈ tbl, w ∈ Ts) (hcl : ∀ c ∈ cl, zclsOk Ts c) (h : zfldB tbl cl own f i = true) : ∃ (C : String) (T : u_T) (N : Nat) (ty0 : Nat → FieldType), cl[f.2.1]? = some (C, T, N) ∧ f.2.2.1 < N ∧ (∀ w ∈ u_ws C T N, w ∈ Ts) ∧ (∀ k, k < N → parseFieldDescriptor (T k).2.2.1 = some (ty0 k)) ∧ (∀ a, a < N → ∀ b, b < N → a ≠ b → (T a).2.1 ≠ (T b).2.1) ∧ Cond.fieldLink own f.1 (T f.2.2.1).1 (T f.2.2.1).2.1 (T f.2.2.1).2.2.1 ∈ Ts ∧
    (f.2.2.2 ≤ 2 → (T f.2.2.1).2.2.2 = false) ∧ (f.2.2.2 = 0 → ty0 f.2.2.1 = .int) ∧ (f.2.2.2 = 1 → ty0 f.2.2.1 = .boolean) ∧ (f.2.2.2 = 2 → ∃ n, ty0 f.2.2.1 = .object n) := by
  unfold zfldB at h
  split at h
  · rename_i c hc
    obtain ⟨C, T, N⟩ := c
    rw [Bool.and_eq_true, Bool.and_eq_true, Bool.and_eq_true, Bool.and_eq_true, Bool.and_eq_true, decide_eq_true_eq] at h
    obtain ⟨h1, h2, h3, h4, h5, h6⟩ := h
    obtain ⟨k1, k2, k3⟩ := hcl _ (List.mem_of_getElem? hc)
    refine ⟨C, T, N, zTy0 T, hc, h1, k1, k2, k3, zmem_ok hT h2, fun q => ?_, fun q => ?_, fun q => ?_, fun q => ?_⟩
    · rw [Bool.or_eq_true, decide_eq_true_eq] at h3
      rcases h3 with h3 | h3
      · omega
      · simpa using h3
    · rw [q] at h4
      simpa using h4
    · rw [q] at h5
      simpa using h5
    · rw [q] at h6
      have h6 : (match zTy0 T f.2.2.1 with
        | .object _ => true
        | _ => false) = true := by simpa using h6
      split at h6
      · rename_i n hn
        exact ⟨n, hn⟩
      · cases h6
  · cases h
/-- methods that are called: their own words -/
def zmvB (tbl : List Cond) (MT : zMT) (v : Nat × Nat × List Nat) : Bool := zmemB tbl (Cond.instanceMethod (MT v.1).1) (v.2.2.getD 0 0) && (zmemB tbl (Cond.selects (MT v.1).1.cls (MT v.1).1 (MT v.1).1) (v.2.2.getD 1 0) && (zmemB tbl (Cond.initialized (MT v.1).1.cls) (v.2.2.getD 2 0) && (!((MT v.1).1.cls == "java/lang/invoke/MethodHandle") && (!((MT v.1).1.cls == "java/lang/invoke/VarHandle") && decide ((parseMethodDescriptor (MT v.1).1.desc).map (fun d => d.parameters.length) = some v.2.1)))))
def zmsB (tbl : List Cond) (MT : zMT) (v : Nat × Nat × List Nat) : Bool := zmemB tbl (Cond.static (MT v.1).1) (v.2.2.getD 0 0) && (zmemB tbl (Cond.initialized (MT v.1).1.cls) (v.2.2.getD 2 0) && (!((MT v.1).1.cls == "java/lang/invoke/MethodHandle") && (!((MT v.1).1.cls == "java/lang/invoke/VarHandle") && decide ((parseMethodDescriptor (MT v.1).1.desc).map (fun d => d.parameters.length) = some v.2.1))))
theorem zmvB_ok {tbl Ts : List Cond} {MT : zMT} {v : Nat × Nat × List Nat} (hT : ∀ w ∈ tbl, w ∈ Ts) (hcd : Cond.code (MT v.1).1 (MT v.1).2.1 (MT v.1).2.2.1 (MT v.1).2.2.2 ∈ Ts) (h : zmvB tbl MT v = true) {own : String} {idx : Nat} (hl : Cond.methodLink own idx (MT v.1).1 ∈ Ts) {C : zC} (hC : C.1 = v.1) : zLkV Ts own idx (zKof MT C) v.2.1 := by
  unfold zmvB at h
  rw [Bool.and_eq_true, Bool.and_eq_true, Bool.and_eq_true, Bool.and_eq_true, Bool.and_eq_true, decide_eq_true_eq] at h
  obtain ⟨h1, h2, h3, h5, h6, h7⟩ := h
  unfold zKof
  rw [hC]
  exact ⟨hl, zmem_ok hT h1, zmem_ok hT h2, zmem_ok hT h3, hcd, by simpa using h5, by simpa using h6, h7⟩
theorem zmsB_ok {tbl Ts : List Cond} {MT : zMT} {v : Nat × Nat × List Nat} (hT : ∀ w ∈ tbl, w ∈ Ts) (hcd : Cond.code (MT v.1).1 (MT v.1).2.1 (MT v.1).2.2.1 (MT v.1).2.2.2 ∈ Ts) (h : zmsB tbl MT v = true) {C : zC} (hC : C.1 = v.1) : zLkS Ts (zKof MT C) v.2.1 := by
  unfold zmsB at h
  rw [Bool.and_eq_true, Bool.and_eq_true, Bool.and_eq_true, Bool.and_eq_true, decide_eq_true_eq] at h
  obtain ⟨h1, h3, h5, h6, h7⟩ := h
  unfold zKof
  rw [hC]
  exact ⟨zmem_ok hT h1, zmem_ok hT h3, hcd, by simpa using h5, by simpa using h6, h7⟩
def zmlB (tbl : List Cond) (cl : List vw_C) (MT : zMT) (VV VS : List (Nat × Nat × List Nat)) (NW : List Cond) (own : String) (q : Nat × Nat × Nat × Nat × Nat) (i : Nat) : Bool :=
  if q.2.1 = 0 then zmemB tbl (Cond.methodLink own q.1 (MT q.2.2.1).1) i && (VV.any (fun v => v.1 == q.2.2.1 && v.2.1 == q.2.2.2.1) && (match cl[q.2.2.2.2]? with
    | some c => c.1 == (MT q.2.2.1).1.cls
    | none => false))
  else if q.2.1 = 1 then zmemB tbl (Cond.methodLink own q.1 (MT q.2.2.1).1) i && VS.any (fun v => v.1 == q.2.2.1 && v.2.1 == q.2.2.2.1)
  else if q.2.1 = 2 then decide (NW[i]? = some (Cond.methodLinkNest own q.1 (MT q.2.2.1).1 "PushedIn")) && VS.any (fun v => v.1 == q.2.2.1 && v.2.1 == q.2.2.2.1)
  else if q.2.1 = 3 then true
  else if q.2.1 = 4 then zmemB tbl (Cond.methodLink own q.1 arraycopyName) i
  else true
def zall2 {α : Type} (f : α → Nat → Bool) : List α → List Nat → Bool
  | a :: as, i :: is => f a i && zall2 f as is
  | [], _ => true
  | _ :: _, [] => false
theorem zall2_ok {α : Type} {f : α → Nat → Bool} : ∀ {as : List α} {is : List Nat}, zall2 f as is = true → ∀ a ∈ as, ∃ i, f a i = true
  | [], _, _, a, ha => by cases ha
  | b :: as, [], h, a, ha => by cases h
  | b :: as, i :: is, h, a, ha => by
    unfold zall2 at h
    rw [Bool.and_eq_true] at h
    rcases List.mem_cons.mp ha with rfl | ha
    · exact ⟨i, h.1⟩
    · exact zall2_ok h.2 a ha
def zpokB (tbl : List Cond) (cl : List vw_C) (MT : zMT) (VV VS : List (Nat × Nat × List Nat)) (NW : List Cond) (own : String) (P : zPool) (iF iK iJ iM : List Nat) : Bool :=
  zall2 (zfldB tbl cl own) P.1 iF && (zall2 (fun q i => decide (-2147483648 ≤ q.2) && (decide (q.2 ≤ 2147483647) && zmemB tbl (Jvm.Cond.constant own q.1 (Int32.ofInt q.2)) i)) P.2.1 iK && (zall2 (fun q i => decide (-9223372036854775808 ≤ q.2) && (decide (q.2 ≤ 9223372036854775807) && zmemB tbl (Jvm.Cond.constantLong own q.1 (Int64.ofInt q.2)) i)) P.2.2.1 iJ && zall2 (zmlB tbl cl MT VV VS NW own) P.2.2.2.1 iM))
theorem zpokB_ok {tbl tbV Ts : List Cond} {cl : List vw_C} {MT : zMT} {VV VS : List (Nat × Nat × List Nat)} {NW : List Cond} {own : String} {P : zPool} {iF iK iJ iM : List Nat} {RO : zRO} (hT : ∀ w ∈ tbl, w ∈ Ts) (hTV : ∀ w ∈ tbV, w ∈ Ts) (hcl : ∀ c ∈ cl, zclsOk Ts c) (hVV : VV.all (zmvB tbV MT) = true) (hVS : VS.all (zmsB tbV MT) = true) (hcV : ∀ v ∈ VV, Cond.code (MT v.1).1 (MT v.1).2.1 (MT v.1).2.2.1 (MT v.1).2.2.2 ∈ Ts) (hcS : ∀ v ∈ VS, Cond.code (MT v.1).1 (MT v.1).2.1 (MT v.1).2.2.1 (MT v.1).2.2.2 ∈ Ts) (hNW : ∀ w ∈ NW, ∀ (ad : Nat → Nat) (A : Nat → Prop) (s : State) (H : Heap), RO ad A s H → va_Nw w s) (hac : Cond.native arraycopyName ∈ Ts ∧ Cond.static arraycopyName ∈ Ts ∧ Cond.initialized "java/lang/System" ∈ Ts)
    (h : zpokB tbl cl MT VV VS NW own P iF iK iJ iM = true) (hI : ∀ q ∈ P.2.2.2.1, q.2.1 = 3 → zRowI RO own Ts q.1) (hG : ∀ q ∈ P.2.2.2.2.1, zRowG RO own Ts Instr.getstatic 3 q) (hS : ∀ q ∈ P.2.2.2.2.2, zRowG RO own Ts Instr.ldc 2 q) : zPok Ts cl RO MT own P := by
  unfold zpokB at h
  rw [Bool.and_eq_true, Bool.and_eq_true, Bool.and_eq_true] at h
  obtain ⟨h1, h2, h3, h4⟩ := h
  refine ⟨fun f hf => ?_, fun q hq => ?_, fun q hq => ?_, fun q hq => ?_, hG, hS⟩
  · obtain ⟨i, hi⟩ := zall2_ok h1 f hf
    exact zfldB_ok hT hcl hi
  · obtain ⟨i, hi⟩ := zall2_ok h2 q hq
    rw [Bool.and_eq_true, Bool.and_eq_true, decide_eq_true_eq, decide_eq_true_eq] at hi
    exact ⟨hi.1, hi.2.1, zmem_ok hT hi.2.2⟩
  · obtain ⟨i, hi⟩ := zall2_ok h3 q hq
    rw [Bool.and_eq_true, Bool.and_eq_true, decide_eq_true_eq, decide_eq_true_eq] at hi
    exact ⟨hi.1, hi.2.1, zmem_ok hT hi.2.2⟩
  · obtain ⟨i, hi⟩ := zall2_ok h4 q hq
    unfold zmlB at hi
    have hv : ∀ v ∈ VV, zmvB tbV MT v = true := List.all_eq_true.mp hVV
    have hs : ∀ v ∈ VS, zmsB tbV MT v = true := List.all_eq_true.mp hVS
    refine ⟨fun z C hC => ?_, fun z C hC => ?_, fun z C hC => ?_, fun z => hI q hq z, fun z => ?_⟩
    · rw [if_pos z, Bool.and_eq_true, Bool.and_eq_true] at hi
      obtain ⟨v, hvm, hvq⟩ := List.any_eq_true.mp hi.2.1
      rw [Bool.and_eq_true, beq_iff_eq, beq_iff_eq] at hvq
      refine ⟨?_, ?_⟩
      · rw [← hvq.2]
        exact zmvB_ok hTV (hcV v hvm) (hv v hvm) (by rw [hvq.1]; exact zmem_ok hT hi.1) (by rw [hC, hvq.1])
      · have h5 := hi.2.2
        split at h5
        · rename_i c hc
          obtain ⟨Cn, T, N⟩ := c
          rw [beq_iff_eq] at h5
          exact ⟨T, N, by rw [hC, ← h5]; exact hc⟩
        · cases h5
    · rw [if_neg (by omega), if_pos z, Bool.and_eq_true] at hi
      obtain ⟨v, hvm, hvq⟩ := List.any_eq_true.mp hi.2
      rw [Bool.and_eq_true, beq_iff_eq, beq_iff_eq] at hvq
      refine ⟨?_, by rw [hC]; exact zmem_ok hT hi.1⟩
      rw [← hvq.2]
      exact zmsB_ok hTV (hcS v hvm) (hs v hvm) (by rw [hC, hvq.1])
    · rw [if_neg (by omega), if_neg (by omega), if_pos z, Bool.and_eq_true, decide_eq_true_eq] at hi
      obtain ⟨v, hvm, hvq⟩ := List.any_eq_true.mp hi.2
      rw [Bool.and_eq_true, beq_iff_eq, beq_iff_eq] at hvq
      refine ⟨?_, "PushedIn", ?_⟩
      · rw [← hvq.2]
        exact zmsB_ok hTV (hcS v hvm) (hs v hvm) (by rw [hC, hvq.1])
      · rw [hC]
        exact hNW _ (List.mem_of_getElem? hi.1)
    · rw [if_neg (by omega), if_neg (by omega), if_neg (by omega), if_neg (by omega), if_pos z] at hi
      exact ⟨zmem_ok hT hi, hac.1, hac.2.1, hac.2.2⟩
