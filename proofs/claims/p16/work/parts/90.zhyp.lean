/-! WHAT THE TABLES SAY OF EVERY CLASS; WHAT IS PROVED BY HAND; ALL CONTRACTS -/
def zHyp (Ts : List Cond) (cl : List vw_C) (RO : zRO) : Prop := (∀ w ∈ Ts, goodWord w = true) ∧ zROk RO ∧ zRowT RO zpRS ∧ zPok Ts cl RO zpMT "PushedIn" zpP0 ∧ zPok Ts cl RO zpMT "PushedIn$Acts" zpP1 ∧ zPok Ts cl RO zpMT "PushedIn$Changes" zpP2 ∧ zPok Ts cl RO zpMT "PushedIn$Comer" zpP3 ∧ zPok Ts cl RO zpMT "PushedIn$ComerReader" zpP4 ∧ zPok Ts cl RO zpMT "PushedIn$Passing" zpP5 ∧ zPok Ts cl RO zpMT "PushedIn$Places" zpP6 ∧ zPok Ts cl RO zpMT "PushedIn$Rules" zpP7 ∧ zPok Ts cl RO zpMT "PushedIn$Survey" zpP8 ∧ zPok Ts cl RO zpMT "PushedIn$Tape" zpP9 ∧ zPok Ts cl RO zpMT "PushedIn$Text" zpP10 ∧ zPok Ts cl RO zpMT "PushedIn$Yard" zpP11 ∧ zPok Ts cl RO zpMT "PushedInModel" zpP12 ∧ zPok Ts cl RO zpMT "java/lang/Integer" zpP13 ∧ zPok Ts cl RO zpMT "java/lang/Math" zpP14
section ZHY
variable {l : Launch} {Ts : List Cond} {cl : List vw_C} {RO : zRO}
theorem zHyp.p0 (h : zHyp Ts cl RO) : zPok Ts cl RO zpMT "PushedIn" zpP0 := h.2.2.2.1
theorem zpy0 : plainName "PushedIn" = true := by decide +kernel
theorem zHyp.p1 (h : zHyp Ts cl RO) : zPok Ts cl RO zpMT "PushedIn$Acts" zpP1 := h.2.2.2.2.1
theorem zpy1 : plainName "PushedIn$Acts" = true := by decide +kernel
theorem zHyp.p2 (h : zHyp Ts cl RO) : zPok Ts cl RO zpMT "PushedIn$Changes" zpP2 := h.2.2.2.2.2.1
theorem zpy2 : plainName "PushedIn$Changes" = true := by decide +kernel
theorem zHyp.p3 (h : zHyp Ts cl RO) : zPok Ts cl RO zpMT "PushedIn$Comer" zpP3 := h.2.2.2.2.2.2.1
theorem zpy3 : plainName "PushedIn$Comer" = true := by decide +kernel
theorem zHyp.p4 (h : zHyp Ts cl RO) : zPok Ts cl RO zpMT "PushedIn$ComerReader" zpP4 := h.2.2.2.2.2.2.2.1
theorem zpy4 : plainName "PushedIn$ComerReader" = true := by decide +kernel
theorem zHyp.p5 (h : zHyp Ts cl RO) : zPok Ts cl RO zpMT "PushedIn$Passing" zpP5 := h.2.2.2.2.2.2.2.2.1
theorem zpy5 : plainName "PushedIn$Passing" = true := by decide +kernel
theorem zHyp.p6 (h : zHyp Ts cl RO) : zPok Ts cl RO zpMT "PushedIn$Places" zpP6 := h.2.2.2.2.2.2.2.2.2.1
theorem zpy6 : plainName "PushedIn$Places" = true := by decide +kernel
theorem zHyp.p7 (h : zHyp Ts cl RO) : zPok Ts cl RO zpMT "PushedIn$Rules" zpP7 := h.2.2.2.2.2.2.2.2.2.2.1
theorem zpy7 : plainName "PushedIn$Rules" = true := by decide +kernel
theorem zHyp.p8 (h : zHyp Ts cl RO) : zPok Ts cl RO zpMT "PushedIn$Survey" zpP8 := h.2.2.2.2.2.2.2.2.2.2.2.1
theorem zpy8 : plainName "PushedIn$Survey" = true := by decide +kernel
theorem zHyp.p9 (h : zHyp Ts cl RO) : zPok Ts cl RO zpMT "PushedIn$Tape" zpP9 := h.2.2.2.2.2.2.2.2.2.2.2.2.1
theorem zpy9 : plainName "PushedIn$Tape" = true := by decide +kernel
theorem zHyp.p10 (h : zHyp Ts cl RO) : zPok Ts cl RO zpMT "PushedIn$Text" zpP10 := h.2.2.2.2.2.2.2.2.2.2.2.2.2.1
theorem zpy10 : plainName "PushedIn$Text" = true := by decide +kernel
theorem zHyp.p11 (h : zHyp Ts cl RO) : zPok Ts cl RO zpMT "PushedIn$Yard" zpP11 := h.2.2.2.2.2.2.2.2.2.2.2.2.2.2.1
theorem zpy11 : plainName "PushedIn$Yard" = true := by decide +kernel
theorem zHyp.p12 (h : zHyp Ts cl RO) : zPok Ts cl RO zpMT "PushedInModel" zpP12 := h.2.2.2.2.2.2.2.2.2.2.2.2.2.2.2.1
theorem zpy12 : plainName "PushedInModel" = true := by decide +kernel
theorem zHyp.p13 (h : zHyp Ts cl RO) : zPok Ts cl RO zpMT "java/lang/Integer" zpP13 := h.2.2.2.2.2.2.2.2.2.2.2.2.2.2.2.2.1
theorem zHyp.p14 (h : zHyp Ts cl RO) : zPok Ts cl RO zpMT "java/lang/Math" zpP14 := h.2.2.2.2.2.2.2.2.2.2.2.2.2.2.2.2.2
theorem zrc0 {ret : Option FieldType} (h : ret = none) : zrcOk 0 ret := ⟨fun _ => h, fun h => (by cases h), fun h => (by cases h), fun h => (by cases h)⟩
theorem zrc1 {ret : Option FieldType} (h : ret = some .int) : zrcOk 1 ret := ⟨fun h => (by cases h), fun _ => h, fun h => (by cases h), fun h => (by cases h)⟩
theorem zrc2 {ret : Option FieldType} (h : ret = some .boolean) : zrcOk 2 ret := ⟨fun h => (by cases h), fun h => (by cases h), fun _ => h, fun h => (by cases h)⟩
theorem zrc3 {ret : Option FieldType} (h : ret = some .long) : zrcOk 3 ret := ⟨fun h => (by cases h), fun h => (by cases h), fun h => (by cases h), fun _ => h⟩
theorem zmets_cons {Z : zZ} {C : zC} {CS : List zC} (h : zMet l Ts cl Z RO (zKof zpMT C)) (t : ∀ C ∈ CS, zMet l Ts cl Z RO (zKof zpMT C)) : ∀ X ∈ C :: CS, zMet l Ts cl Z RO (zKof zpMT X) := fun X hX => by
  rcases List.mem_cons.mp hX with rfl | hX
  · exact h
  · exact t X hX
theorem zmets_nil {Z : zZ} : ∀ X ∈ ([] : List zC), zMet l Ts cl Z RO (zKof zpMT X) := fun X hX => by cases hX
def zdjB (Z : zZ) : Bool := Z.1.all (fun e => Z.1.all (fun e' => (decide (e.2.1 < e'.1) || decide (e'.2.1 < e.1)) || zeqE e e')) && Z.1.all (fun e => !(e.2.2.1 == 6) || Z.1.any (fun e' => decide (e'.1 ≤ e.1 + (e.2.2.2.2.2.headD (0, 0, 0)).1) && (decide (e.2.1 + (e.2.2.2.2.2.headD (0, 0, 0)).1 ≤ e'.2.1) && e'.2.2.1 == 7)))
theorem zdjB_ok {Z : zZ} (h : zdjB Z = true) : zDj Z := by
  unfold zdjB at h
  rw [Bool.and_eq_true] at h
  refine ⟨fun e he e' he' q h1 h2 h3 h4 => ?_, fun e he h6 q h1 h2 => ?_⟩
  · have := List.all_eq_true.mp (List.all_eq_true.mp h.1 e he) e' he'
    rw [Bool.or_eq_true, Bool.or_eq_true, decide_eq_true_eq, decide_eq_true_eq] at this
    rcases this with (h5 | h5) | h5
    · omega
    · omega
    · rw [zeqE_ok h5]
  · have := List.all_eq_true.mp h.2 e he
    rw [Bool.or_eq_true] at this
    rcases this with h5 | h5
    · rw [h6] at h5
      cases h5
    · obtain ⟨e', he', h7⟩ := List.any_eq_true.mp h5
      rw [Bool.and_eq_true, Bool.and_eq_true, decide_eq_true_eq, decide_eq_true_eq, beq_iff_eq] at h7
      exact ⟨e', he', by omega, by omega, h7.2.2⟩
theorem zpDj : zDj zpZ := zdjB_ok (by decide +kernel)
theorem zpTx : zTxB zpZ 9 = true := by decide +kernel
theorem zpSz : zszB zpZ 1 10 1 4 = true := by decide +kernel
def zp6B (Z : zZ) : Bool := Z.1.all (fun e => !(e.2.2.1 == 6) || decide (2 ≤ e.1 + (e.2.2.2.2.2.headD (0, 0, 0)).1))
theorem zp6 : ∀ e ∈ zpZ.1, e.2.2.1 = 6 → ∀ q, e.1 ≤ q → q ≤ e.2.1 → q + (e.2.2.2.2.2.headD (0, 0, 0)).1 ≠ 1 := fun e he h6 q h1 h2 => by
  have h : zp6B zpZ = true := by decide +kernel
  have := List.all_eq_true.mp h e he
  rw [Bool.or_eq_true, decide_eq_true_eq] at this
  rcases this with h5 | h5
  · rw [h6] at h5
    cases h5
  · omega
end ZHY
