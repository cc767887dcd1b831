/-! MAKING: the constructors, printed from the bytecode by wip/p2/gen96.py -/
def zpRO2 : zRO := fun ad A U H => zpRO ad A U H ∧ va_AO "PushedIn$Comer" U ∧ (Cond.arrayOver (.array .long)).before #[] U = true
theorem zpRO2_ok : zROk zpRO2 := by
  refine ⟨fun ad A s U H hW h => ⟨zROx_ok.1 ad A s U H hW h.1, h.2.1.moved hW.alike, zover_moved hW.alike h.2.2⟩, fun ad A u U H hv h => ⟨zROx_ok.2.1 ad A u U H hv h.1, h.2.1.moved (hv ▸ Vm.Alike.refl u.vm), zover_moved (hv ▸ Vm.Alike.refl u.vm) h.2.2⟩, fun ad A U H H1 hq h => ⟨zROx_ok.2.2 ad A U H H1 hq h.1, h.2⟩⟩
theorem zdef_0 {a : Nat} {na aa : Nat → Nat} {len : Nat} : ∀ (j : Nat) (V : zMV) (v : Value), ([(0, 0), (1, 0), (1, 0), (1, 0)] : List zMV)[j]? = some V → ([.null, .int 0, .int 0, .int 0] : List Value)[j]? = some v → zvr a na aa len V v := by
  intro j V v h1 h2
  match j, h1, h2 with
  | 0, h1, h2 => cases h1; cases h2; rfl
  | 1, h1, h2 => cases h1; cases h2; rfl
  | 2, h1, h2 => cases h1; cases h2; rfl
  | 3, h1, h2 => cases h1; cases h2; rfl
  | k + 4, h1, _ => cases h1
theorem zdef_1 {a : Nat} {na aa : Nat → Nat} {len : Nat} : ∀ (j : Nat) (V : zMV) (v : Value), ([(0, 0), (0, 0), (0, 0), (0, 0), (0, 0), (1, 0), (1, 0)] : List zMV)[j]? = some V → ([.null, .null, .null, .null, .null, .int 0, .int 0] : List Value)[j]? = some v → zvr a na aa len V v := by
  intro j V v h1 h2
  match j, h1, h2 with
  | 0, h1, h2 => cases h1; cases h2; rfl
  | 1, h1, h2 => cases h1; cases h2; rfl
  | 2, h1, h2 => cases h1; cases h2; rfl
  | 3, h1, h2 => cases h1; cases h2; rfl
  | 4, h1, h2 => cases h1; cases h2; rfl
  | 5, h1, h2 => cases h1; cases h2; rfl
  | 6, h1, h2 => cases h1; cases h2; rfl
  | k + 7, h1, _ => cases h1
theorem zdef_2 {a : Nat} {na aa : Nat → Nat} {len : Nat} : ∀ (j : Nat) (V : zMV) (v : Value), ([(1, 0), (1, 0), (1, 0), (1, 0), (1, 0), (1, 0), (1, 0), (1, 0), (1, 0), (1, 0), (1, 0), (1, 0)] : List zMV)[j]? = some V → ([.int 0, .int 0, .int 0, .int 0, .int 0, .int 0, .int 0, .int 0, .int 0, .int 0, .int 0, .int 0] : List Value)[j]? = some v → zvr a na aa len V v := by
  intro j V v h1 h2
  match j, h1, h2 with
  | 0, h1, h2 => cases h1; cases h2; rfl
  | 1, h1, h2 => cases h1; cases h2; rfl
  | 2, h1, h2 => cases h1; cases h2; rfl
  | 3, h1, h2 => cases h1; cases h2; rfl
  | 4, h1, h2 => cases h1; cases h2; rfl
  | 5, h1, h2 => cases h1; cases h2; rfl
  | 6, h1, h2 => cases h1; cases h2; rfl
  | 7, h1, h2 => cases h1; cases h2; rfl
  | 8, h1, h2 => cases h1; cases h2; rfl
  | 9, h1, h2 => cases h1; cases h2; rfl
  | 10, h1, h2 => cases h1; cases h2; rfl
  | 11, h1, h2 => cases h1; cases h2; rfl
  | k + 12, h1, _ => cases h1
theorem zdef_3 {a : Nat} {na aa : Nat → Nat} {len : Nat} : ∀ (j : Nat) (V : zMV) (v : Value), ([(0, 0)] : List zMV)[j]? = some V → ([.null] : List Value)[j]? = some v → zvr a na aa len V v := by
  intro j V v h1 h2
  match j, h1, h2 with
  | 0, h1, h2 => cases h1; cases h2; rfl
  | k + 1, h1, _ => cases h1
theorem zdef_4 {a : Nat} {na aa : Nat → Nat} {len : Nat} : ∀ (j : Nat) (V : zMV) (v : Value), ([(0, 0), (0, 0), (0, 0), (0, 0), (1, 0)] : List zMV)[j]? = some V → ([.null, .null, .null, .null, .int 0] : List Value)[j]? = some v → zvr a na aa len V v := by
  intro j V v h1 h2
  match j, h1, h2 with
  | 0, h1, h2 => cases h1; cases h2; rfl
  | 1, h1, h2 => cases h1; cases h2; rfl
  | 2, h1, h2 => cases h1; cases h2; rfl
  | 3, h1, h2 => cases h1; cases h2; rfl
  | 4, h1, h2 => cases h1; cases h2; rfl
  | k + 5, h1, _ => cases h1
theorem zdef_5 {a : Nat} {na aa : Nat → Nat} {len : Nat} : ∀ (j : Nat) (V : zMV) (v : Value), ([(0, 0), (0, 0), (0, 0), (0, 0)] : List zMV)[j]? = some V → ([.null, .null, .null, .null] : List Value)[j]? = some v → zvr a na aa len V v := by
  intro j V v h1 h2
  match j, h1, h2 with
  | 0, h1, h2 => cases h1; cases h2; rfl
  | 1, h1, h2 => cases h1; cases h2; rfl
  | 2, h1, h2 => cases h1; cases h2; rfl
  | 3, h1, h2 => cases h1; cases h2; rfl
  | k + 4, h1, _ => cases h1
theorem zdef_6 {a : Nat} {na aa : Nat → Nat} {len : Nat} : ∀ (j : Nat) (V : zMV) (v : Value), ([(0, 0), (0, 0), (0, 0), (0, 0), (0, 0), (0, 0), (0, 0), (0, 0), (1, 0)] : List zMV)[j]? = some V → ([.null, .null, .null, .null, .null, .null, .null, .null, .int 0] : List Value)[j]? = some v → zvr a na aa len V v := by
  intro j V v h1 h2
  match j, h1, h2 with
  | 0, h1, h2 => cases h1; cases h2; rfl
  | 1, h1, h2 => cases h1; cases h2; rfl
  | 2, h1, h2 => cases h1; cases h2; rfl
  | 3, h1, h2 => cases h1; cases h2; rfl
  | 4, h1, h2 => cases h1; cases h2; rfl
  | 5, h1, h2 => cases h1; cases h2; rfl
  | 6, h1, h2 => cases h1; cases h2; rfl
  | 7, h1, h2 => cases h1; cases h2; rfl
  | 8, h1, h2 => cases h1; cases h2; rfl
  | k + 9, h1, _ => cases h1
theorem zdef_7 {a : Nat} {na aa : Nat → Nat} {len : Nat} : ∀ (j : Nat) (V : zMV) (v : Value), ([(0, 0), (0, 0), (0, 0), (1, 0), (1, 0), (1, 0), (1, 0)] : List zMV)[j]? = some V → ([.null, .null, .null, .int 0, .int 0, .int 0, .int 0] : List Value)[j]? = some v → zvr a na aa len V v := by
  intro j V v h1 h2
  match j, h1, h2 with
  | 0, h1, h2 => cases h1; cases h2; rfl
  | 1, h1, h2 => cases h1; cases h2; rfl
  | 2, h1, h2 => cases h1; cases h2; rfl
  | 3, h1, h2 => cases h1; cases h2; rfl
  | 4, h1, h2 => cases h1; cases h2; rfl
  | 5, h1, h2 => cases h1; cases h2; rfl
  | 6, h1, h2 => cases h1; cases h2; rfl
  | k + 7, h1, _ => cases h1
theorem zdef_8 {a : Nat} {na aa : Nat → Nat} {len : Nat} : ∀ (j : Nat) (V : zMV) (v : Value), ([(0, 0), (1, 0), (1, 0), (1, 0)] : List zMV)[j]? = some V → ([.null, .int 0, .int 0, .int 0] : List Value)[j]? = some v → zvr a na aa len V v := by
  intro j V v h1 h2
  match j, h1, h2 with
  | 0, h1, h2 => cases h1; cases h2; rfl
  | 1, h1, h2 => cases h1; cases h2; rfl
  | 2, h1, h2 => cases h1; cases h2; rfl
  | 3, h1, h2 => cases h1; cases h2; rfl
  | k + 4, h1, _ => cases h1
theorem zdef_9 {a : Nat} {na aa : Nat → Nat} {len : Nat} : ∀ (j : Nat) (V : zMV) (v : Value), ([(0, 0), (0, 0), (0, 0), (0, 0), (1, 0)] : List zMV)[j]? = some V → ([.null, .null, .null, .null, .int 0] : List Value)[j]? = some v → zvr a na aa len V v := by
  intro j V v h1 h2
  match j, h1, h2 with
  | 0, h1, h2 => cases h1; cases h2; rfl
  | 1, h1, h2 => cases h1; cases h2; rfl
  | 2, h1, h2 => cases h1; cases h2; rfl
  | 3, h1, h2 => cases h1; cases h2; rfl
  | 4, h1, h2 => cases h1; cases h2; rfl
  | k + 5, h1, _ => cases h1
theorem zdef_10 {a : Nat} {na aa : Nat → Nat} {len : Nat} : ∀ (j : Nat) (V : zMV) (v : Value), ([(0, 0), (1, 0), (0, 0), (0, 0), (0, 0), (0, 0), (0, 0), (1, 0), (1, 0), (1, 0), (1, 0)] : List zMV)[j]? = some V → ([.null, .int 0, .null, .null, .null, .null, .null, .int 0, .int 0, .int 0, .int 0] : List Value)[j]? = some v → zvr a na aa len V v := by
  intro j V v h1 h2
  match j, h1, h2 with
  | 0, h1, h2 => cases h1; cases h2; rfl
  | 1, h1, h2 => cases h1; cases h2; rfl
  | 2, h1, h2 => cases h1; cases h2; rfl
  | 3, h1, h2 => cases h1; cases h2; rfl
  | 4, h1, h2 => cases h1; cases h2; rfl
  | 5, h1, h2 => cases h1; cases h2; rfl
  | 6, h1, h2 => cases h1; cases h2; rfl
  | 7, h1, h2 => cases h1; cases h2; rfl
  | 8, h1, h2 => cases h1; cases h2; rfl
  | 9, h1, h2 => cases h1; cases h2; rfl
  | 10, h1, h2 => cases h1; cases h2; rfl
  | k + 11, h1, _ => cases h1
theorem zc_Comer {l : Launch} : zCt l zpTs zpcl zpRO2 (⟨"PushedIn$Comer", "<init>", "()V"⟩ : MethodName) prog_4_method_1_code 1 1 60 0 0 0 2 4 [(1, 0), (1, 0), (1, 0), (1, 0), (1, 0), (1, 0), (1, 0), (1, 0), (1, 0), (1, 0), (1, 0), (1, 0)] [(1, 0), (1, 0), (1, 0), (1, 0), (1, 0), (1, 0), (1, 0), (1, 0), (1, 0), (1, 0), (1, 0), (1, 0)] [] [] := by
  refine zct_of (by decide +kernel) (by decide) ?_
  intro p e R s m args below meth c D tys A ad ws0 q a na aa ls Q hx hb hnm hml hown hts hro hrm hA hty hl hK hP hD hM hret
  obtain ⟨hr1, hr2, hr3, hr4⟩ := hrm
  obtain ⟨htn, cI, cB, cL, hcI, hcB, hcL⟩ := hty
  have hS : va_S A s.heap s.heap [] := va_S.rf
  have d0 : decode prog_4_method_1_code 0 = .ok (.aload_n 0, 1) := by decide +kernel
  have d1 : decode prog_4_method_1_code 1 = .ok (.invokespecial 3, 3) := by decide +kernel
  have d4 : decode prog_4_method_1_code 4 = .ok (.return_, 1) := by decide +kernel
  refine lv_aload_n hx hb d0 rfl (lv_at hl 0 rfl) ?_
  refine zn_obj hx hb hml hown hts ⟨(zmT1 (i := 42) rfl rfl), (zmT1 (i := 28) rfl rfl), (zmT1 (i := 29) rfl rfl)⟩ hl.1 ⟨by omega, by omega⟩ (Nat.le_of_ble_eq_true rfl) d1 ?_
  exact hret 4 _ _ _ _ _ [] d4 rfl (by rw [List.append_nil]; exact hK) hP hD hS (by exact (by rw [List.append_nil]; exact hM))
theorem zc_Tape {l : Launch} : zCt l zpTs zpcl zpRO2 (⟨"PushedIn$Tape", "<init>", "()V"⟩ : MethodName) prog_10_method_1_code 1 1 60 1 60 0 8 4 [(0, 0), (1, 0), (1, 0), (1, 0)] [(3, 0), (1, 0), (1, 0), (1, 0)] [(6, 1, 60, [])] [] := by
  refine zct_of (by decide +kernel) (by decide) ?_
  intro p e R s m args below meth c D tys A ad ws0 q a na aa ls Q hx hb hnm hml hown hts hro hrm hA hty hl hK hP hD hM hret
  obtain ⟨hr1, hr2, hr3, hr4⟩ := hrm
  obtain ⟨htn, cI, cB, cL, hcI, hcB, hcL⟩ := hty
  have hS : va_S A s.heap s.heap [] := va_S.rf
  have d0 : decode prog_10_method_1_code 0 = .ok (.aload_n 0, 1) := by decide +kernel
  have d1 : decode prog_10_method_1_code 1 = .ok (.invokespecial 3, 3) := by decide +kernel
  have d4 : decode prog_10_method_1_code 4 = .ok (.aload_n 0, 1) := by decide +kernel
  have d5 : decode prog_10_method_1_code 5 = .ok (.bipush 60, 2) := by decide +kernel
  have d7 : decode prog_10_method_1_code 7 = .ok (.newarray .byte, 2) := by decide +kernel
  have d9 : decode prog_10_method_1_code 9 = .ok (.putfield 9, 3) := by decide +kernel
  have d12 : decode prog_10_method_1_code 12 = .ok (.return_, 1) := by decide +kernel
  refine lv_aload_n hx hb d0 rfl (lv_at hl 0 rfl) ?_
  refine zn_obj hx hb hml hown hts ⟨(zmT1 (i := 186) rfl rfl), (zmT1 (i := 28) rfl rfl), (zmT1 (i := 29) rfl rfl)⟩ hl.1 ⟨by omega, by omega⟩ (Nat.le_of_ble_eq_true rfl) d1 ?_
  refine lv_aload_n hx hb d4 rfl (lv_at hl 0 rfl) ?_
  refine lv_bipush hx hb d5 rfl ?_
  refine zn_newB (N' := 60) hx hb (hts _ (zmT1 (i := 203) rfl rfl)) hK hP hD hS hA hcB hM (by decide) (by decide) (by decide) (by omega) (by omega) d7 (fun r1 H1 ws1 hP1 hD1 hS1 hM1 => ?_)
  refine zn_put (V := (3, 0)) (j := 0) hx hb hts hown hK hP1 hD1 hS1 rfl zpU8 (by decide) (zmT1 (i := 187) rfl rfl) (Or.inr ⟨rfl, hnm, rfl⟩) hM1 rfl ⟨Nat.le_of_ble_eq_true rfl, rfl⟩ rfl rfl d9 (fun H2 locs2 ws2 hP2 hD2 hS2 hM2 => ?_)
  exact hret 12 _ _ _ _ _ [] d12 rfl (by rw [List.append_nil]; exact hK) hP2 hD2 hS2 (by exact (by rw [List.append_nil]; exact hM2))
theorem zc_ComerReader {l : Launch} : zCt l zpTs zpcl zpRO2 (⟨"PushedIn$ComerReader", "<init>", "(LPushedIn$Tape;)V"⟩ : MethodName) prog_5_method_1_code 2 1 60 0 0 1 3 4 [(0, 0)] [(4, 0)] [] [] := by
  refine zct_of (by decide +kernel) (by decide) ?_
  intro p e R s m args below meth c D tys A ad ws0 q a na aa ls Q hx hb hnm hml hown hts hro hrm hA hty hl hK hP hD hM hret
  obtain ⟨hr1, hr2, hr3, hr4⟩ := hrm
  obtain ⟨htn, cI, cB, cL, hcI, hcB, hcL⟩ := hty
  have hS : va_S A s.heap s.heap [] := va_S.rf
  have d0 : decode prog_5_method_1_code 0 = .ok (.aload_n 0, 1) := by decide +kernel
  have d1 : decode prog_5_method_1_code 1 = .ok (.invokespecial 3, 3) := by decide +kernel
  have d4 : decode prog_5_method_1_code 4 = .ok (.aload_n 0, 1) := by decide +kernel
  have d5 : decode prog_5_method_1_code 5 = .ok (.aload_n 1, 1) := by decide +kernel
  have d6 : decode prog_5_method_1_code 6 = .ok (.putfield 9, 3) := by decide +kernel
  have d9 : decode prog_5_method_1_code 9 = .ok (.return_, 1) := by decide +kernel
  refine lv_aload_n hx hb d0 rfl (lv_at hl 0 rfl) ?_
  refine zn_obj hx hb hml hown hts ⟨(zmT1 (i := 209) rfl rfl), (zmT1 (i := 28) rfl rfl), (zmT1 (i := 29) rfl rfl)⟩ hl.1 ⟨by omega, by omega⟩ (Nat.le_of_ble_eq_true rfl) d1 ?_
  refine lv_aload_n hx hb d4 rfl (lv_at hl 0 rfl) ?_
  refine lv_aload_n hx hb d5 rfl (lv_at hl 1 rfl) ?_
  refine zn_put (V := (4, 0)) (j := 0) hx hb hts hown hK hP hD hS rfl zpU3 (by decide) (zmT1 (i := 210) rfl rfl) (Or.inr ⟨rfl, hnm, rfl⟩) hM rfl rfl rfl rfl d6 (fun H1 locs1 ws1 hP1 hD1 hS1 hM1 => ?_)
  exact hret 9 _ _ _ _ _ [] d9 rfl (by rw [List.append_nil]; exact hK) hP1 hD1 hS1 (by exact (by rw [List.append_nil]; exact hM1))
theorem zc_Changes {l : Launch} : zCt l zpTs zpcl zpRO2 (⟨"PushedIn$Changes", "<init>", "(LPushedIn$Yard;)V"⟩ : MethodName) prog_3_method_1_code 2 1 60 4 160 1 1 4 [(0, 0), (0, 0), (0, 0), (0, 0), (0, 0), (1, 0), (1, 0)] [(4, 0), (3, 0), (3, 1), (3, 2), (3, 3), (1, 0), (1, 0)] [(1, 0, 40, [(0, 0), (0, 0)]), (1, 0, 40, [(0, 0), (0, 0)]), (1, 0, 40, [(0, 0), (0, 0)]), (1, 0, 40, [(0, 0), (0, 0)])] [] := by
  refine zct_of (by decide +kernel) (by decide) ?_
  intro p e R s m args below meth c D tys A ad ws0 q a na aa ls Q hx hb hnm hml hown hts hro hrm hA hty hl hK hP hD hM hret
  obtain ⟨hr1, hr2, hr3, hr4⟩ := hrm
  obtain ⟨htn, cI, cB, cL, hcI, hcB, hcL⟩ := hty
  have hS : va_S A s.heap s.heap [] := va_S.rf
  have d0 : decode prog_3_method_1_code 0 = .ok (.aload_n 0, 1) := by decide +kernel
  have d1 : decode prog_3_method_1_code 1 = .ok (.invokespecial 3, 3) := by decide +kernel
  have d4 : decode prog_3_method_1_code 4 = .ok (.aload_n 0, 1) := by decide +kernel
  have d5 : decode prog_3_method_1_code 5 = .ok (.bipush 40, 2) := by decide +kernel
  have d7 : decode prog_3_method_1_code 7 = .ok (.newarray .int, 2) := by decide +kernel
  have d9 : decode prog_3_method_1_code 9 = .ok (.putfield 9, 3) := by decide +kernel
  have d12 : decode prog_3_method_1_code 12 = .ok (.aload_n 0, 1) := by decide +kernel
  have d13 : decode prog_3_method_1_code 13 = .ok (.bipush 40, 2) := by decide +kernel
  have d15 : decode prog_3_method_1_code 15 = .ok (.newarray .int, 2) := by decide +kernel
  have d17 : decode prog_3_method_1_code 17 = .ok (.putfield 15, 3) := by decide +kernel
  have d20 : decode prog_3_method_1_code 20 = .ok (.aload_n 0, 1) := by decide +kernel
  have d21 : decode prog_3_method_1_code 21 = .ok (.bipush 40, 2) := by decide +kernel
  have d23 : decode prog_3_method_1_code 23 = .ok (.newarray .int, 2) := by decide +kernel
  have d25 : decode prog_3_method_1_code 25 = .ok (.putfield 18, 3) := by decide +kernel
  have d28 : decode prog_3_method_1_code 28 = .ok (.aload_n 0, 1) := by decide +kernel
  have d29 : decode prog_3_method_1_code 29 = .ok (.bipush 40, 2) := by decide +kernel
  have d31 : decode prog_3_method_1_code 31 = .ok (.newarray .int, 2) := by decide +kernel
  have d33 : decode prog_3_method_1_code 33 = .ok (.putfield 21, 3) := by decide +kernel
  have d36 : decode prog_3_method_1_code 36 = .ok (.aload_n 0, 1) := by decide +kernel
  have d37 : decode prog_3_method_1_code 37 = .ok (.aload_n 1, 1) := by decide +kernel
  have d38 : decode prog_3_method_1_code 38 = .ok (.putfield 24, 3) := by decide +kernel
  have d41 : decode prog_3_method_1_code 41 = .ok (.return_, 1) := by decide +kernel
  refine lv_aload_n hx hb d0 rfl (lv_at hl 0 rfl) ?_
  refine zn_obj hx hb hml hown hts ⟨(zmT1 (i := 219) rfl rfl), (zmT1 (i := 28) rfl rfl), (zmT1 (i := 29) rfl rfl)⟩ hl.1 ⟨by omega, by omega⟩ (Nat.le_of_ble_eq_true rfl) d1 ?_
  refine lv_aload_n hx hb d4 rfl (lv_at hl 0 rfl) ?_
  refine lv_bipush hx hb d5 rfl ?_
  refine zn_newI (N' := 40) hx hb (hts _ (zmT1 (i := 129) rfl rfl)) hK hP hD hS hA hcI hM (by decide) (by decide) (by decide) (by omega) (by omega) d7 (fun r1 H1 ws1 hP1 hD1 hS1 hM1 => ?_)
  refine zn_put (V := (3, 0)) (j := 1) hx hb hts hown hK hP1 hD1 hS1 rfl zpU1 (by decide) (zmT1 (i := 221) rfl rfl) (Or.inr ⟨rfl, hnm, rfl⟩) hM1 rfl ⟨Nat.le_of_ble_eq_true rfl, rfl⟩ rfl rfl d9 (fun H2 locs2 ws2 hP2 hD2 hS2 hM2 => ?_)
  refine lv_aload_n hx hb d12 rfl (lv_at hl 0 rfl) ?_
  refine lv_bipush hx hb d13 rfl ?_
  refine zn_newI (N' := 40) hx hb (hts _ (zmT1 (i := 129) rfl rfl)) hK hP2 hD2 hS2 hA hcI hM2 (by decide) (by decide) (by decide) (by omega) (by omega) d15 (fun r3 H3 ws3 hP3 hD3 hS3 hM3 => ?_)
  refine zn_put (V := (3, 1)) (j := 2) hx hb hts hown hK hP3 hD3 hS3 rfl zpU1 (by decide) (zmT1 (i := 222) rfl rfl) (Or.inr ⟨rfl, hnm, rfl⟩) hM3 rfl ⟨Nat.le_of_ble_eq_true rfl, rfl⟩ rfl rfl d17 (fun H4 locs4 ws4 hP4 hD4 hS4 hM4 => ?_)
  refine lv_aload_n hx hb d20 rfl (lv_at hl 0 rfl) ?_
  refine lv_bipush hx hb d21 rfl ?_
  refine zn_newI (N' := 40) hx hb (hts _ (zmT1 (i := 129) rfl rfl)) hK hP4 hD4 hS4 hA hcI hM4 (by decide) (by decide) (by decide) (by omega) (by omega) d23 (fun r5 H5 ws5 hP5 hD5 hS5 hM5 => ?_)
  refine zn_put (V := (3, 2)) (j := 3) hx hb hts hown hK hP5 hD5 hS5 rfl zpU1 (by decide) (zmT1 (i := 223) rfl rfl) (Or.inr ⟨rfl, hnm, rfl⟩) hM5 rfl ⟨Nat.le_of_ble_eq_true rfl, rfl⟩ rfl rfl d25 (fun H6 locs6 ws6 hP6 hD6 hS6 hM6 => ?_)
  refine lv_aload_n hx hb d28 rfl (lv_at hl 0 rfl) ?_
  refine lv_bipush hx hb d29 rfl ?_
  refine zn_newI (N' := 40) hx hb (hts _ (zmT1 (i := 129) rfl rfl)) hK hP6 hD6 hS6 hA hcI hM6 (by decide) (by decide) (by decide) (by omega) (by omega) d31 (fun r7 H7 ws7 hP7 hD7 hS7 hM7 => ?_)
  refine zn_put (V := (3, 3)) (j := 4) hx hb hts hown hK hP7 hD7 hS7 rfl zpU1 (by decide) (zmT1 (i := 224) rfl rfl) (Or.inr ⟨rfl, hnm, rfl⟩) hM7 rfl ⟨Nat.le_of_ble_eq_true rfl, rfl⟩ rfl rfl d33 (fun H8 locs8 ws8 hP8 hD8 hS8 hM8 => ?_)
  refine lv_aload_n hx hb d36 rfl (lv_at hl 0 rfl) ?_
  refine lv_aload_n hx hb d37 rfl (lv_at hl 1 rfl) ?_
  refine zn_put (V := (4, 0)) (j := 0) hx hb hts hown hK hP8 hD8 hS8 rfl zpU1 (by decide) (zmT1 (i := 220) rfl rfl) (Or.inr ⟨rfl, hnm, rfl⟩) hM8 rfl rfl rfl rfl d38 (fun H9 locs9 ws9 hP9 hD9 hS9 hM9 => ?_)
  exact hret 41 _ _ _ _ _ [] d41 rfl (by rw [List.append_nil]; exact hK) hP9 hD9 hS9 (by exact (by rw [List.append_nil]; exact hM9))
theorem zc_Passing {l : Launch} : zCt l zpTs zpcl zpRO2 (⟨"PushedIn$Passing", "<init>", "(LPushedIn$Yard;)V"⟩ : MethodName) prog_6_method_1_code 2 1 60 3 76 1 4 4 [(0, 0), (0, 0), (0, 0), (0, 0), (1, 0)] [(4, 0), (3, 0), (3, 1), (3, 2), (1, 0)] [(1, 0, 6, [(0, 0), (0, 0)]), (1, 0, 6, [(0, 0), (0, 0)]), (1, 0, 64, [(0, 0), (0, 0)])] [] := by
  refine zct_of (by decide +kernel) (by decide) ?_
  intro p e R s m args below meth c D tys A ad ws0 q a na aa ls Q hx hb hnm hml hown hts hro hrm hA hty hl hK hP hD hM hret
  obtain ⟨hr1, hr2, hr3, hr4⟩ := hrm
  obtain ⟨htn, cI, cB, cL, hcI, hcB, hcL⟩ := hty
  have hS : va_S A s.heap s.heap [] := va_S.rf
  have d0 : decode prog_6_method_1_code 0 = .ok (.aload_n 0, 1) := by decide +kernel
  have d1 : decode prog_6_method_1_code 1 = .ok (.invokespecial 3, 3) := by decide +kernel
  have d4 : decode prog_6_method_1_code 4 = .ok (.aload_n 0, 1) := by decide +kernel
  have d5 : decode prog_6_method_1_code 5 = .ok (.bipush 6, 2) := by decide +kernel
  have d7 : decode prog_6_method_1_code 7 = .ok (.newarray .int, 2) := by decide +kernel
  have d9 : decode prog_6_method_1_code 9 = .ok (.putfield 11, 3) := by decide +kernel
  have d12 : decode prog_6_method_1_code 12 = .ok (.aload_n 0, 1) := by decide +kernel
  have d13 : decode prog_6_method_1_code 13 = .ok (.bipush 6, 2) := by decide +kernel
  have d15 : decode prog_6_method_1_code 15 = .ok (.newarray .int, 2) := by decide +kernel
  have d17 : decode prog_6_method_1_code 17 = .ok (.putfield 15, 3) := by decide +kernel
  have d20 : decode prog_6_method_1_code 20 = .ok (.aload_n 0, 1) := by decide +kernel
  have d21 : decode prog_6_method_1_code 21 = .ok (.bipush 64, 2) := by decide +kernel
  have d23 : decode prog_6_method_1_code 23 = .ok (.newarray .int, 2) := by decide +kernel
  have d25 : decode prog_6_method_1_code 25 = .ok (.putfield 18, 3) := by decide +kernel
  have d28 : decode prog_6_method_1_code 28 = .ok (.aload_n 0, 1) := by decide +kernel
  have d29 : decode prog_6_method_1_code 29 = .ok (.aload_n 1, 1) := by decide +kernel
  have d30 : decode prog_6_method_1_code 30 = .ok (.putfield 21, 3) := by decide +kernel
  have d33 : decode prog_6_method_1_code 33 = .ok (.return_, 1) := by decide +kernel
  refine lv_aload_n hx hb d0 rfl (lv_at hl 0 rfl) ?_
  refine zn_obj hx hb hml hown hts ⟨(zmT2 (i := 9) rfl rfl), (zmT1 (i := 28) rfl rfl), (zmT1 (i := 29) rfl rfl)⟩ hl.1 ⟨by omega, by omega⟩ (Nat.le_of_ble_eq_true rfl) d1 ?_
  refine lv_aload_n hx hb d4 rfl (lv_at hl 0 rfl) ?_
  refine lv_bipush hx hb d5 rfl ?_
  refine zn_newI (N' := 6) hx hb (hts _ (zmT1 (i := 129) rfl rfl)) hK hP hD hS hA hcI hM (by decide) (by decide) (by decide) (by omega) (by omega) d7 (fun r1 H1 ws1 hP1 hD1 hS1 hM1 => ?_)
  refine zn_put (V := (3, 0)) (j := 1) hx hb hts hown hK hP1 hD1 hS1 rfl zpU4 (by decide) (zmT2 (i := 11) rfl rfl) (Or.inr ⟨rfl, hnm, rfl⟩) hM1 rfl ⟨Nat.le_of_ble_eq_true rfl, rfl⟩ rfl rfl d9 (fun H2 locs2 ws2 hP2 hD2 hS2 hM2 => ?_)
  refine lv_aload_n hx hb d12 rfl (lv_at hl 0 rfl) ?_
  refine lv_bipush hx hb d13 rfl ?_
  refine zn_newI (N' := 6) hx hb (hts _ (zmT1 (i := 129) rfl rfl)) hK hP2 hD2 hS2 hA hcI hM2 (by decide) (by decide) (by decide) (by omega) (by omega) d15 (fun r3 H3 ws3 hP3 hD3 hS3 hM3 => ?_)
  refine zn_put (V := (3, 1)) (j := 2) hx hb hts hown hK hP3 hD3 hS3 rfl zpU4 (by decide) (zmT2 (i := 12) rfl rfl) (Or.inr ⟨rfl, hnm, rfl⟩) hM3 rfl ⟨Nat.le_of_ble_eq_true rfl, rfl⟩ rfl rfl d17 (fun H4 locs4 ws4 hP4 hD4 hS4 hM4 => ?_)
  refine lv_aload_n hx hb d20 rfl (lv_at hl 0 rfl) ?_
  refine lv_bipush hx hb d21 rfl ?_
  refine zn_newI (N' := 64) hx hb (hts _ (zmT1 (i := 129) rfl rfl)) hK hP4 hD4 hS4 hA hcI hM4 (by decide) (by decide) (by decide) (by omega) (by omega) d23 (fun r5 H5 ws5 hP5 hD5 hS5 hM5 => ?_)
  refine zn_put (V := (3, 2)) (j := 3) hx hb hts hown hK hP5 hD5 hS5 rfl zpU4 (by decide) (zmT2 (i := 13) rfl rfl) (Or.inr ⟨rfl, hnm, rfl⟩) hM5 rfl ⟨Nat.le_of_ble_eq_true rfl, rfl⟩ rfl rfl d25 (fun H6 locs6 ws6 hP6 hD6 hS6 hM6 => ?_)
  refine lv_aload_n hx hb d28 rfl (lv_at hl 0 rfl) ?_
  refine lv_aload_n hx hb d29 rfl (lv_at hl 1 rfl) ?_
  refine zn_put (V := (4, 0)) (j := 0) hx hb hts hown hK hP6 hD6 hS6 rfl zpU4 (by decide) (zmT2 (i := 10) rfl rfl) (Or.inr ⟨rfl, hnm, rfl⟩) hM6 rfl rfl rfl rfl d30 (fun H7 locs7 ws7 hP7 hD7 hS7 hM7 => ?_)
  exact hret 33 _ _ _ _ _ [] d33 rfl (by rw [List.append_nil]; exact hK) hP7 hD7 hS7 (by exact (by rw [List.append_nil]; exact hM7))
theorem zc_Text {l : Launch} : zCt l zpTs zpcl zpRO2 (⟨"PushedIn$Text", "<init>", "(LPushedIn$Tape;)V"⟩ : MethodName) prog_11_method_1_code 2 1 60 3 183 1 9 4 [(0, 0), (0, 0), (0, 0), (0, 0), (1, 0)] [(4, 0), (3, 0), (3, 1), (3, 2), (1, 0)] [(1, 0, 61, [(0, 0), (0, 0)]), (1, 0, 61, [(0, 0), (0, 0)]), (1, 0, 61, [(0, 0), (0, 0)])] [] := by
  refine zct_of (by decide +kernel) (by decide) ?_
  intro p e R s m args below meth c D tys A ad ws0 q a na aa ls Q hx hb hnm hml hown hts hro hrm hA hty hl hK hP hD hM hret
  obtain ⟨hr1, hr2, hr3, hr4⟩ := hrm
  obtain ⟨htn, cI, cB, cL, hcI, hcB, hcL⟩ := hty
  have hS : va_S A s.heap s.heap [] := va_S.rf
  have d0 : decode prog_11_method_1_code 0 = .ok (.aload_n 0, 1) := by decide +kernel
  have d1 : decode prog_11_method_1_code 1 = .ok (.invokespecial 3, 3) := by decide +kernel
  have d4 : decode prog_11_method_1_code 4 = .ok (.aload_n 0, 1) := by decide +kernel
  have d5 : decode prog_11_method_1_code 5 = .ok (.bipush 61, 2) := by decide +kernel
  have d7 : decode prog_11_method_1_code 7 = .ok (.newarray .int, 2) := by decide +kernel
  have d9 : decode prog_11_method_1_code 9 = .ok (.putfield 11, 3) := by decide +kernel
  have d12 : decode prog_11_method_1_code 12 = .ok (.aload_n 0, 1) := by decide +kernel
  have d13 : decode prog_11_method_1_code 13 = .ok (.bipush 61, 2) := by decide +kernel
  have d15 : decode prog_11_method_1_code 15 = .ok (.newarray .int, 2) := by decide +kernel
  have d17 : decode prog_11_method_1_code 17 = .ok (.putfield 15, 3) := by decide +kernel
  have d20 : decode prog_11_method_1_code 20 = .ok (.aload_n 0, 1) := by decide +kernel
  have d21 : decode prog_11_method_1_code 21 = .ok (.bipush 61, 2) := by decide +kernel
  have d23 : decode prog_11_method_1_code 23 = .ok (.newarray .int, 2) := by decide +kernel
  have d25 : decode prog_11_method_1_code 25 = .ok (.putfield 18, 3) := by decide +kernel
  have d28 : decode prog_11_method_1_code 28 = .ok (.aload_n 0, 1) := by decide +kernel
  have d29 : decode prog_11_method_1_code 29 = .ok (.aload_n 1, 1) := by decide +kernel
  have d30 : decode prog_11_method_1_code 30 = .ok (.putfield 21, 3) := by decide +kernel
  have d33 : decode prog_11_method_1_code 33 = .ok (.return_, 1) := by decide +kernel
  refine lv_aload_n hx hb d0 rfl (lv_at hl 0 rfl) ?_
  refine zn_obj hx hb hml hown hts ⟨(zmT2 (i := 48) rfl rfl), (zmT1 (i := 28) rfl rfl), (zmT1 (i := 29) rfl rfl)⟩ hl.1 ⟨by omega, by omega⟩ (Nat.le_of_ble_eq_true rfl) d1 ?_
  refine lv_aload_n hx hb d4 rfl (lv_at hl 0 rfl) ?_
  refine lv_bipush hx hb d5 rfl ?_
  refine zn_newI (N' := 61) hx hb (hts _ (zmT1 (i := 129) rfl rfl)) hK hP hD hS hA hcI hM (by decide) (by decide) (by decide) (by omega) (by omega) d7 (fun r1 H1 ws1 hP1 hD1 hS1 hM1 => ?_)
  refine zn_put (V := (3, 0)) (j := 1) hx hb hts hown hK hP1 hD1 hS1 rfl zpU9 (by decide) (zmT2 (i := 50) rfl rfl) (Or.inr ⟨rfl, hnm, rfl⟩) hM1 rfl ⟨Nat.le_of_ble_eq_true rfl, rfl⟩ rfl rfl d9 (fun H2 locs2 ws2 hP2 hD2 hS2 hM2 => ?_)
  refine lv_aload_n hx hb d12 rfl (lv_at hl 0 rfl) ?_
  refine lv_bipush hx hb d13 rfl ?_
  refine zn_newI (N' := 61) hx hb (hts _ (zmT1 (i := 129) rfl rfl)) hK hP2 hD2 hS2 hA hcI hM2 (by decide) (by decide) (by decide) (by omega) (by omega) d15 (fun r3 H3 ws3 hP3 hD3 hS3 hM3 => ?_)
  refine zn_put (V := (3, 1)) (j := 2) hx hb hts hown hK hP3 hD3 hS3 rfl zpU9 (by decide) (zmT2 (i := 51) rfl rfl) (Or.inr ⟨rfl, hnm, rfl⟩) hM3 rfl ⟨Nat.le_of_ble_eq_true rfl, rfl⟩ rfl rfl d17 (fun H4 locs4 ws4 hP4 hD4 hS4 hM4 => ?_)
  refine lv_aload_n hx hb d20 rfl (lv_at hl 0 rfl) ?_
  refine lv_bipush hx hb d21 rfl ?_
  refine zn_newI (N' := 61) hx hb (hts _ (zmT1 (i := 129) rfl rfl)) hK hP4 hD4 hS4 hA hcI hM4 (by decide) (by decide) (by decide) (by omega) (by omega) d23 (fun r5 H5 ws5 hP5 hD5 hS5 hM5 => ?_)
  refine zn_put (V := (3, 2)) (j := 3) hx hb hts hown hK hP5 hD5 hS5 rfl zpU9 (by decide) (zmT2 (i := 52) rfl rfl) (Or.inr ⟨rfl, hnm, rfl⟩) hM5 rfl ⟨Nat.le_of_ble_eq_true rfl, rfl⟩ rfl rfl d25 (fun H6 locs6 ws6 hP6 hD6 hS6 hM6 => ?_)
  refine lv_aload_n hx hb d28 rfl (lv_at hl 0 rfl) ?_
  refine lv_aload_n hx hb d29 rfl (lv_at hl 1 rfl) ?_
  refine zn_put (V := (4, 0)) (j := 0) hx hb hts hown hK hP6 hD6 hS6 rfl zpU9 (by decide) (zmT2 (i := 49) rfl rfl) (Or.inr ⟨rfl, hnm, rfl⟩) hM6 rfl rfl rfl rfl d30 (fun H7 locs7 ws7 hP7 hD7 hS7 hM7 => ?_)
  exact hret 33 _ _ _ _ _ [] d33 rfl (by rw [List.append_nil]; exact hK) hP7 hD7 hS7 (by exact (by rw [List.append_nil]; exact hM7))
theorem zc_Rules {l : Launch} : zCt l zpTs zpcl zpRO2 (⟨"PushedIn$Rules", "<init>", "(LPushedIn$Yard;LPushedIn$Tape;)V"⟩ : MethodName) prog_8_method_1_code 3 3 200 13 464 2 6 4 [(0, 0), (0, 0), (0, 0), (0, 0), (0, 0), (0, 0), (0, 0), (0, 0), (1, 0)] [(4, 0), (3, 0), (3, 1), (3, 2), (3, 3), (3, 5), (3, 9), (3, 4), (1, 0)] [(1, 0, 8, [(0, 0), (0, 0)]), (1, 0, 20, [(0, 0), (0, 0)]), (1, 0, 20, [(0, 0), (0, 0)]), (1, 0, 20, [(0, 0), (0, 0)]), (1, 0, 20, [(0, 0), (0, 0)]), (0, 9, 0, [(4, 1), (3, 6), (3, 7), (3, 8), (1, 0)]), (1, 0, 61, [(0, 0), (0, 0)]), (1, 0, 61, [(0, 0), (0, 0)]), (1, 0, 61, [(0, 0), (0, 0)]), (0, 9, 0, [(4, 1), (3, 10), (3, 11), (3, 12), (1, 0)]), (1, 0, 61, [(0, 0), (0, 0)]), (1, 0, 61, [(0, 0), (0, 0)]), (1, 0, 61, [(0, 0), (0, 0)])] [] := by
  refine zct_of (by decide +kernel) (by decide) ?_
  intro p e R s m args below meth c D tys A ad ws0 q a na aa ls Q hx hb hnm hml hown hts hro hrm hA hty hl hK hP hD hM hret
  obtain ⟨hr1, hr2, hr3, hr4⟩ := hrm
  obtain ⟨htn, cI, cB, cL, hcI, hcB, hcL⟩ := hty
  have hS : va_S A s.heap s.heap [] := va_S.rf
  have d0 : decode prog_8_method_1_code 0 = .ok (.aload_n 0, 1) := by decide +kernel
  have d1 : decode prog_8_method_1_code 1 = .ok (.invokespecial 3, 3) := by decide +kernel
  have d4 : decode prog_8_method_1_code 4 = .ok (.aload_n 0, 1) := by decide +kernel
  have d5 : decode prog_8_method_1_code 5 = .ok (.ldc 11, 2) := by decide +kernel
  have d7 : decode prog_8_method_1_code 7 = .ok (.invokevirtual 13, 3) := by decide +kernel
  have d10 : decode prog_8_method_1_code 10 = .ok (.newarray .int, 2) := by decide +kernel
  have d12 : decode prog_8_method_1_code 12 = .ok (.putfield 19, 3) := by decide +kernel
  have d15 : decode prog_8_method_1_code 15 = .ok (.aload_n 0, 1) := by decide +kernel
  have d16 : decode prog_8_method_1_code 16 = .ok (.bipush 20, 2) := by decide +kernel
  have d18 : decode prog_8_method_1_code 18 = .ok (.newarray .int, 2) := by decide +kernel
  have d20 : decode prog_8_method_1_code 20 = .ok (.putfield 25, 3) := by decide +kernel
  have d23 : decode prog_8_method_1_code 23 = .ok (.aload_n 0, 1) := by decide +kernel
  have d24 : decode prog_8_method_1_code 24 = .ok (.bipush 20, 2) := by decide +kernel
  have d26 : decode prog_8_method_1_code 26 = .ok (.newarray .int, 2) := by decide +kernel
  have d28 : decode prog_8_method_1_code 28 = .ok (.putfield 28, 3) := by decide +kernel
  have d31 : decode prog_8_method_1_code 31 = .ok (.aload_n 0, 1) := by decide +kernel
  have d32 : decode prog_8_method_1_code 32 = .ok (.bipush 20, 2) := by decide +kernel
  have d34 : decode prog_8_method_1_code 34 = .ok (.newarray .int, 2) := by decide +kernel
  have d36 : decode prog_8_method_1_code 36 = .ok (.putfield 31, 3) := by decide +kernel
  have d39 : decode prog_8_method_1_code 39 = .ok (.aload_n 0, 1) := by decide +kernel
  have d40 : decode prog_8_method_1_code 40 = .ok (.bipush 20, 2) := by decide +kernel
  have d42 : decode prog_8_method_1_code 42 = .ok (.newarray .int, 2) := by decide +kernel
  have d44 : decode prog_8_method_1_code 44 = .ok (.putfield 34, 3) := by decide +kernel
  have d47 : decode prog_8_method_1_code 47 = .ok (.aload_n 0, 1) := by decide +kernel
  have d48 : decode prog_8_method_1_code 48 = .ok (.aload_n 1, 1) := by decide +kernel
  have d49 : decode prog_8_method_1_code 49 = .ok (.putfield 37, 3) := by decide +kernel
  have d52 : decode prog_8_method_1_code 52 = .ok (.aload_n 0, 1) := by decide +kernel
  have d53 : decode prog_8_method_1_code 53 = .ok (.new 9, 3) := by decide +kernel
  have d56 : decode prog_8_method_1_code 56 = .ok (.dup, 1) := by decide +kernel
  have d57 : decode prog_8_method_1_code 57 = .ok (.aload_n 2, 1) := by decide +kernel
  have d58 : decode prog_8_method_1_code 58 = .ok (.invokespecial 41, 3) := by decide +kernel
  have d61 : decode prog_8_method_1_code 61 = .ok (.putfield 44, 3) := by decide +kernel
  have d64 : decode prog_8_method_1_code 64 = .ok (.aload_n 0, 1) := by decide +kernel
  have d65 : decode prog_8_method_1_code 65 = .ok (.new 9, 3) := by decide +kernel
  have d68 : decode prog_8_method_1_code 68 = .ok (.dup, 1) := by decide +kernel
  have d69 : decode prog_8_method_1_code 69 = .ok (.aload_n 2, 1) := by decide +kernel
  have d70 : decode prog_8_method_1_code 70 = .ok (.invokespecial 41, 3) := by decide +kernel
  have d73 : decode prog_8_method_1_code 73 = .ok (.putfield 48, 3) := by decide +kernel
  have d76 : decode prog_8_method_1_code 76 = .ok (.return_, 1) := by decide +kernel
  refine lv_aload_n hx hb d0 rfl (lv_at hl 0 rfl) ?_
  refine zn_obj hx hb hml hown hts ⟨(zmT2 (i := 31) rfl rfl), (zmT1 (i := 28) rfl rfl), (zmT1 (i := 29) rfl rfl)⟩ hl.1 ⟨by omega, by omega⟩ (Nat.le_of_ble_eq_true rfl) d1 ?_
  refine lv_aload_n hx hb d4 rfl (lv_at hl 0 rfl) ?_
  refine va_ldcS hx hb hown hro.1.2.2.1 d5 ?_
  have hrv1 : ∃ cell : Cell, s.heap[ad 2000]? = some cell ∧ cell.vm.isStatics = false ∧ s.vm.findClass "java/lang/String" = some cell.cls := by
    obtain ⟨cell, q1, q2, q3, -⟩ := hro.1.2.1.2.1.kept hS.2.1
    exact ⟨cell, q1, q2, q3⟩
  refine zpu_callV (n := 0) (As := []) hx hb ⟨by omega, by omega⟩ hml hown hts zTs_good zpRO2_ok hro hS (zst_len (fun ad A s H h => zpRSt ad A s H h.1) zTs_good zpRO2_ok zpStWk) rfl hrv1 d7 ⟨(zmT2 (i := 33) rfl rfl), (zmT2 (i := 34) rfl rfl), (zmT2 (i := 35) rfl rfl), (zmT1 (i := 9) rfl rfl), (zmT2 (i := 36) rfl rfl), by decide, by decide, by decide +kernel⟩ rfl hl.1 ⟨by omega, by omega⟩ (Nat.le_of_ble_eq_true rfl) (fun z1 locs1 hz1 hS1 => ?_)
  subst hz1
  refine zn_newI (N' := 8) hx hb (hts _ (zmT1 (i := 129) rfl rfl)) hK hP hD hS1 hA hcI hM (by decide) (by decide) (by decide) (by omega) (by omega) d10 (fun r2 H2 ws2 hP2 hD2 hS2 hM2 => ?_)
  refine zn_put (V := (3, 0)) (j := 1) hx hb hts hown hK hP2 hD2 hS2 rfl zpU6 (by decide) (zmT2 (i := 66) rfl rfl) (Or.inr ⟨rfl, hnm, rfl⟩) hM2 rfl ⟨Nat.le_of_ble_eq_true rfl, rfl⟩ rfl rfl d12 (fun H3 locs3 ws3 hP3 hD3 hS3 hM3 => ?_)
  refine lv_aload_n hx hb d15 rfl (lv_at hl 0 rfl) ?_
  refine lv_bipush hx hb d16 rfl ?_
  refine zn_newI (N' := 20) hx hb (hts _ (zmT1 (i := 129) rfl rfl)) hK hP3 hD3 hS3 hA hcI hM3 (by decide) (by decide) (by decide) (by omega) (by omega) d18 (fun r4 H4 ws4 hP4 hD4 hS4 hM4 => ?_)
  refine zn_put (V := (3, 1)) (j := 2) hx hb hts hown hK hP4 hD4 hS4 rfl zpU6 (by decide) (zmT2 (i := 67) rfl rfl) (Or.inr ⟨rfl, hnm, rfl⟩) hM4 rfl ⟨Nat.le_of_ble_eq_true rfl, rfl⟩ rfl rfl d20 (fun H5 locs5 ws5 hP5 hD5 hS5 hM5 => ?_)
  refine lv_aload_n hx hb d23 rfl (lv_at hl 0 rfl) ?_
  refine lv_bipush hx hb d24 rfl ?_
  refine zn_newI (N' := 20) hx hb (hts _ (zmT1 (i := 129) rfl rfl)) hK hP5 hD5 hS5 hA hcI hM5 (by decide) (by decide) (by decide) (by omega) (by omega) d26 (fun r6 H6 ws6 hP6 hD6 hS6 hM6 => ?_)
  refine zn_put (V := (3, 2)) (j := 3) hx hb hts hown hK hP6 hD6 hS6 rfl zpU6 (by decide) (zmT2 (i := 68) rfl rfl) (Or.inr ⟨rfl, hnm, rfl⟩) hM6 rfl ⟨Nat.le_of_ble_eq_true rfl, rfl⟩ rfl rfl d28 (fun H7 locs7 ws7 hP7 hD7 hS7 hM7 => ?_)
  refine lv_aload_n hx hb d31 rfl (lv_at hl 0 rfl) ?_
  refine lv_bipush hx hb d32 rfl ?_
  refine zn_newI (N' := 20) hx hb (hts _ (zmT1 (i := 129) rfl rfl)) hK hP7 hD7 hS7 hA hcI hM7 (by decide) (by decide) (by decide) (by omega) (by omega) d34 (fun r8 H8 ws8 hP8 hD8 hS8 hM8 => ?_)
  refine zn_put (V := (3, 3)) (j := 4) hx hb hts hown hK hP8 hD8 hS8 rfl zpU6 (by decide) (zmT2 (i := 69) rfl rfl) (Or.inr ⟨rfl, hnm, rfl⟩) hM8 rfl ⟨Nat.le_of_ble_eq_true rfl, rfl⟩ rfl rfl d36 (fun H9 locs9 ws9 hP9 hD9 hS9 hM9 => ?_)
  refine lv_aload_n hx hb d39 rfl (lv_at hl 0 rfl) ?_
  refine lv_bipush hx hb d40 rfl ?_
  refine zn_newI (N' := 20) hx hb (hts _ (zmT1 (i := 129) rfl rfl)) hK hP9 hD9 hS9 hA hcI hM9 (by decide) (by decide) (by decide) (by omega) (by omega) d42 (fun r10 H10 ws10 hP10 hD10 hS10 hM10 => ?_)
  refine zn_put (V := (3, 4)) (j := 7) hx hb hts hown hK hP10 hD10 hS10 rfl zpU6 (by decide) (zmT2 (i := 72) rfl rfl) (Or.inr ⟨rfl, hnm, rfl⟩) hM10 rfl ⟨Nat.le_of_ble_eq_true rfl, rfl⟩ rfl rfl d44 (fun H11 locs11 ws11 hP11 hD11 hS11 hM11 => ?_)
  refine lv_aload_n hx hb d47 rfl (lv_at hl 0 rfl) ?_
  refine lv_aload_n hx hb d48 rfl (lv_at hl 1 rfl) ?_
  refine zn_put (V := (4, 0)) (j := 0) hx hb hts hown hK hP11 hD11 hS11 rfl zpU6 (by decide) (zmT2 (i := 65) rfl rfl) (Or.inr ⟨rfl, hnm, rfl⟩) hM11 rfl rfl rfl rfl d49 (fun H12 locs12 ws12 hP12 hD12 hS12 hM12 => ?_)
  refine lv_aload_n hx hb d52 rfl (lv_at hl 0 rfl) ?_
  refine zn_new (C := "PushedIn$Text") (cj := 9) (N := 5) (fs := [.null, .null, .null, .null, .int 0]) (F1 := [(0, 0), (0, 0), (0, 0), (0, 0), (1, 0)]) hx hb hts hown hK hP12 hD12 hS12 hA rfl zpU9 ⟨(zmT2 (i := 43) rfl rfl), (zmT2 (i := 44) rfl rfl), (zmT1 (i := 10) rfl rfl)⟩ hM12 (by decide) (fun a na aa len => ⟨rfl, zdef_9⟩) (by omega) (by omega) d53 (fun r13 H13 ws13 hP13 hD13 hS13 hM13 => ?_)
  refine lv_dup hx hb d56 rfl ?_
  refine lv_aload_n hx hb d57 rfl (lv_at hl 2 rfl) ?_
  refine zn_ctor (n := 1) (k0 := 5) (aa2 := (fun i => (aa 1))) (avs := [(4, 1)]) hx hb hml hown hts zTs_good zpRO2_ok hro hA hK hP13 hD13 hS13 zc_Text ⟨htn, cI, cB, cL, hcI, hcB, hcL⟩ hM13 rfl rfl (by decide) (fun i hi => by
    match i, hi with
    | 0, _ => exact rfl) (by decide) (by decide) (Or.inl (zmT2 (i := 45) rfl rfl)) ⟨(zmT2 (i := 46) rfl rfl), (zmT1 (i := 10) rfl rfl), (zmT2 (i := 47) rfl rfl), by decide, by decide, by decide +kernel⟩ rfl hl.1 ⟨by omega, by omega⟩ (Nat.le_of_ble_eq_true rfl) d58 ⟨by omega, by omega⟩ (fun H14 locs14 ws14 na14 xs14 hx14 hK14 hP14 hD14 hS14 hn14 hM14 => ?_)
  have ex14 := hx14
  have e014 : xs14 = [] := List.map_eq_nil_iff.mp hx14
  subst e014
  rw [List.append_nil] at hK14 hM14
  refine zn_put (V := (3, 5)) (j := 5) hx hb hts hown hK14 hP14 hD14 hS14 rfl zpU6 (by decide) (zmT2 (i := 70) rfl rfl) (Or.inl rfl) hM14 rfl ⟨Nat.le_of_ble_eq_true rfl, (congrArg Value.ref (hn14 5 (Nat.le_of_ble_eq_true rfl)).symm)⟩ rfl rfl d61 (fun H15 locs15 ws15 hP15 hD15 hS15 hM15 => ?_)
  refine lv_aload_n hx hb d64 rfl (lv_at hl 0 rfl) ?_
  refine zn_new (C := "PushedIn$Text") (cj := 9) (N := 5) (fs := [.null, .null, .null, .null, .int 0]) (F1 := [(0, 0), (0, 0), (0, 0), (0, 0), (1, 0)]) hx hb hts hown hK14 hP15 hD15 hS15 hA rfl zpU9 ⟨(zmT2 (i := 43) rfl rfl), (zmT2 (i := 44) rfl rfl), (zmT1 (i := 10) rfl rfl)⟩ hM15 (by decide) (fun a na aa len => ⟨rfl, zdef_9⟩) (by omega) (by omega) d65 (fun r16 H16 ws16 hP16 hD16 hS16 hM16 => ?_)
  refine lv_dup hx hb d68 rfl ?_
  refine lv_aload_n hx hb d69 rfl (lv_at hl 2 rfl) ?_
  refine zn_ctor (n := 1) (k0 := 9) (aa2 := (fun i => (aa 1))) (avs := [(4, 1)]) hx hb hml hown hts zTs_good zpRO2_ok hro hA hK14 hP16 hD16 hS16 zc_Text ⟨htn, cI, cB, cL, hcI, hcB, hcL⟩ hM16 rfl rfl (by decide) (fun i hi => by
    match i, hi with
    | 0, _ => exact rfl) (by decide) (by decide) (Or.inl (zmT2 (i := 45) rfl rfl)) ⟨(zmT2 (i := 46) rfl rfl), (zmT1 (i := 10) rfl rfl), (zmT2 (i := 47) rfl rfl), by decide, by decide, by decide +kernel⟩ rfl hl.1 ⟨by omega, by omega⟩ (Nat.le_of_ble_eq_true rfl) d70 ⟨by omega, by omega⟩ (fun H17 locs17 ws17 na17 xs17 hx17 hK17 hP17 hD17 hS17 hn17 hM17 => ?_)
  have ex17 := hx17
  have e017 : xs17 = [] := List.map_eq_nil_iff.mp hx17
  subst e017
  rw [List.append_nil] at hK17 hM17
  refine zn_put (V := (3, 9)) (j := 6) hx hb hts hown hK17 hP17 hD17 hS17 rfl zpU6 (by decide) (zmT2 (i := 71) rfl rfl) (Or.inl rfl) hM17 rfl ⟨Nat.le_of_ble_eq_true rfl, (congrArg Value.ref (hn17 9 (Nat.le_of_ble_eq_true rfl)).symm)⟩ rfl rfl d73 (fun H18 locs18 ws18 hP18 hD18 hS18 hM18 => ?_)
  exact hret 76 _ _ _ _ _ [] d76 rfl (by rw [List.append_nil]; exact hK17) hP18 hD18 hS18 (by exact (by rw [List.append_nil]; exact hM18))
theorem zc_Survey {l : Launch} : zCt l zpTs zpcl zpRO2 (⟨"PushedIn$Survey", "<init>", "(LPushedIn$Yard;)V"⟩ : MethodName) prog_9_method_1_code 2 1 60 2 80 1 7 4 [(0, 0), (0, 0), (0, 0), (1, 0), (1, 0), (1, 0), (1, 0)] [(4, 0), (3, 0), (3, 1), (1, 0), (1, 0), (1, 0), (1, 0)] [(1, 0, 40, [(0, 0), (0, 0)]), (1, 0, 40, [(0, 0), (0, 0)])] [] := by
  refine zct_of (by decide +kernel) (by decide) ?_
  intro p e R s m args below meth c D tys A ad ws0 q a na aa ls Q hx hb hnm hml hown hts hro hrm hA hty hl hK hP hD hM hret
  obtain ⟨hr1, hr2, hr3, hr4⟩ := hrm
  obtain ⟨htn, cI, cB, cL, hcI, hcB, hcL⟩ := hty
  have hS : va_S A s.heap s.heap [] := va_S.rf
  have d0 : decode prog_9_method_1_code 0 = .ok (.aload_n 0, 1) := by decide +kernel
  have d1 : decode prog_9_method_1_code 1 = .ok (.invokespecial 3, 3) := by decide +kernel
  have d4 : decode prog_9_method_1_code 4 = .ok (.aload_n 0, 1) := by decide +kernel
  have d5 : decode prog_9_method_1_code 5 = .ok (.bipush 40, 2) := by decide +kernel
  have d7 : decode prog_9_method_1_code 7 = .ok (.newarray .int, 2) := by decide +kernel
  have d9 : decode prog_9_method_1_code 9 = .ok (.putfield 9, 3) := by decide +kernel
  have d12 : decode prog_9_method_1_code 12 = .ok (.aload_n 0, 1) := by decide +kernel
  have d13 : decode prog_9_method_1_code 13 = .ok (.bipush 40, 2) := by decide +kernel
  have d15 : decode prog_9_method_1_code 15 = .ok (.newarray .int, 2) := by decide +kernel
  have d17 : decode prog_9_method_1_code 17 = .ok (.putfield 15, 3) := by decide +kernel
  have d20 : decode prog_9_method_1_code 20 = .ok (.aload_n 0, 1) := by decide +kernel
  have d21 : decode prog_9_method_1_code 21 = .ok (.aload_n 1, 1) := by decide +kernel
  have d22 : decode prog_9_method_1_code 22 = .ok (.putfield 18, 3) := by decide +kernel
  have d25 : decode prog_9_method_1_code 25 = .ok (.return_, 1) := by decide +kernel
  refine lv_aload_n hx hb d0 rfl (lv_at hl 0 rfl) ?_
  refine zn_obj hx hb hml hown hts ⟨(zmT2 (i := 100) rfl rfl), (zmT1 (i := 28) rfl rfl), (zmT1 (i := 29) rfl rfl)⟩ hl.1 ⟨by omega, by omega⟩ (Nat.le_of_ble_eq_true rfl) d1 ?_
  refine lv_aload_n hx hb d4 rfl (lv_at hl 0 rfl) ?_
  refine lv_bipush hx hb d5 rfl ?_
  refine zn_newI (N' := 40) hx hb (hts _ (zmT1 (i := 129) rfl rfl)) hK hP hD hS hA hcI hM (by decide) (by decide) (by decide) (by omega) (by omega) d7 (fun r1 H1 ws1 hP1 hD1 hS1 hM1 => ?_)
  refine zn_put (V := (3, 0)) (j := 1) hx hb hts hown hK hP1 hD1 hS1 rfl zpU7 (by decide) (zmT2 (i := 102) rfl rfl) (Or.inr ⟨rfl, hnm, rfl⟩) hM1 rfl ⟨Nat.le_of_ble_eq_true rfl, rfl⟩ rfl rfl d9 (fun H2 locs2 ws2 hP2 hD2 hS2 hM2 => ?_)
  refine lv_aload_n hx hb d12 rfl (lv_at hl 0 rfl) ?_
  refine lv_bipush hx hb d13 rfl ?_
  refine zn_newI (N' := 40) hx hb (hts _ (zmT1 (i := 129) rfl rfl)) hK hP2 hD2 hS2 hA hcI hM2 (by decide) (by decide) (by decide) (by omega) (by omega) d15 (fun r3 H3 ws3 hP3 hD3 hS3 hM3 => ?_)
  refine zn_put (V := (3, 1)) (j := 2) hx hb hts hown hK hP3 hD3 hS3 rfl zpU7 (by decide) (zmT2 (i := 103) rfl rfl) (Or.inr ⟨rfl, hnm, rfl⟩) hM3 rfl ⟨Nat.le_of_ble_eq_true rfl, rfl⟩ rfl rfl d17 (fun H4 locs4 ws4 hP4 hD4 hS4 hM4 => ?_)
  refine lv_aload_n hx hb d20 rfl (lv_at hl 0 rfl) ?_
  refine lv_aload_n hx hb d21 rfl (lv_at hl 1 rfl) ?_
  refine zn_put (V := (4, 0)) (j := 0) hx hb hts hown hK hP4 hD4 hS4 rfl zpU7 (by decide) (zmT2 (i := 101) rfl rfl) (Or.inr ⟨rfl, hnm, rfl⟩) hM4 rfl rfl rfl rfl d22 (fun H5 locs5 ws5 hP5 hD5 hS5 hM5 => ?_)
  exact hret 25 _ _ _ _ _ [] d25 rfl (by rw [List.append_nil]; exact hK) hP5 hD5 hS5 (by exact (by rw [List.append_nil]; exact hM5))
theorem zc_Acts {l : Launch} : zCt l zpTs zpcl zpRO2 (⟨"PushedIn$Acts", "<init>", "()V"⟩ : MethodName) prog_2_method_1_code 1 1 60 1 24 0 0 4 [(0, 0), (1, 0), (1, 0), (1, 0)] [(3, 0), (1, 0), (1, 0), (1, 0)] [(1, 0, 24, [(0, 0), (0, 0)])] [] := by
  refine zct_of (by decide +kernel) (by decide) ?_
  intro p e R s m args below meth c D tys A ad ws0 q a na aa ls Q hx hb hnm hml hown hts hro hrm hA hty hl hK hP hD hM hret
  obtain ⟨hr1, hr2, hr3, hr4⟩ := hrm
  obtain ⟨htn, cI, cB, cL, hcI, hcB, hcL⟩ := hty
  have hS : va_S A s.heap s.heap [] := va_S.rf
  have d0 : decode prog_2_method_1_code 0 = .ok (.aload_n 0, 1) := by decide +kernel
  have d1 : decode prog_2_method_1_code 1 = .ok (.invokespecial 3, 3) := by decide +kernel
  have d4 : decode prog_2_method_1_code 4 = .ok (.aload_n 0, 1) := by decide +kernel
  have d5 : decode prog_2_method_1_code 5 = .ok (.bipush 24, 2) := by decide +kernel
  have d7 : decode prog_2_method_1_code 7 = .ok (.newarray .int, 2) := by decide +kernel
  have d9 : decode prog_2_method_1_code 9 = .ok (.putfield 9, 3) := by decide +kernel
  have d12 : decode prog_2_method_1_code 12 = .ok (.return_, 1) := by decide +kernel
  refine lv_aload_n hx hb d0 rfl (lv_at hl 0 rfl) ?_
  refine zn_obj hx hb hml hown hts ⟨(zmT2 (i := 130) rfl rfl), (zmT1 (i := 28) rfl rfl), (zmT1 (i := 29) rfl rfl)⟩ hl.1 ⟨by omega, by omega⟩ (Nat.le_of_ble_eq_true rfl) d1 ?_
  refine lv_aload_n hx hb d4 rfl (lv_at hl 0 rfl) ?_
  refine lv_bipush hx hb d5 rfl ?_
  refine zn_newI (N' := 24) hx hb (hts _ (zmT1 (i := 129) rfl rfl)) hK hP hD hS hA hcI hM (by decide) (by decide) (by decide) (by omega) (by omega) d7 (fun r1 H1 ws1 hP1 hD1 hS1 hM1 => ?_)
  refine zn_put (V := (3, 0)) (j := 0) hx hb hts hown hK hP1 hD1 hS1 rfl zpU0 (by decide) (zmT2 (i := 131) rfl rfl) (Or.inr ⟨rfl, hnm, rfl⟩) hM1 rfl ⟨Nat.le_of_ble_eq_true rfl, rfl⟩ rfl rfl d9 (fun H2 locs2 ws2 hP2 hD2 hS2 hM2 => ?_)
  exact hret 12 _ _ _ _ _ [] d12 rfl (by rw [List.append_nil]; exact hK) hP2 hD2 hS2 (by exact (by rw [List.append_nil]; exact hM2))
