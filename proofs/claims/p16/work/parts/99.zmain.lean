/-! MAKING: the constructors of rows and of the reference, and the class's own, printed by wip/p2/gen98.py -/
theorem zc_Places {l : Launch} : zCt l zpTs zpcl zpRO2 (⟨"PushedIn$Places", "<init>", "()V"⟩ : MethodName) prog_7_method_1_code 2 1 60 10 384 0 5 4 [(0, 0), (0, 0), (0, 0), (0, 0)] [(3, 0), (3, 1), (3, 2), (3, 3)] [(1, 0, 6, [(0, (-1)), (0, (-1))]), (1, 0, 6, [(0, 0), (0, 0)]), (1, 0, 6, [(0, 0), (0, 0)]), (4, 4, 6, [(0, 4)]), (2, 2, 60, []), (2, 2, 60, []), (2, 2, 60, []), (2, 2, 60, []), (2, 2, 60, []), (2, 2, 60, [])] [(.array .long)] := by
  refine zct_of (by decide +kernel) (by decide) ?_
  intro p e R s m args below meth c D tys A ad ws0 q a na aa ls Q hx hb hnm hml hown hts hro hrm hA hty hl hK hP hD hM hret
  obtain ⟨hr1, hr2, hr3, hr4⟩ := hrm
  obtain ⟨htn, cI, cB, cL, hcI, hcB, hcL⟩ := hty
  have hS : va_S A s.heap s.heap [] := va_S.rf
  have d0 : decode prog_7_method_1_code 0 = .ok (.aload_n 0, 1) := by decide +kernel
  have d1 : decode prog_7_method_1_code 1 = .ok (.invokespecial 3, 3) := by decide +kernel
  have d4 : decode prog_7_method_1_code 4 = .ok (.aload_n 0, 1) := by decide +kernel
  have d5 : decode prog_7_method_1_code 5 = .ok (.bipush 6, 2) := by decide +kernel
  have d7 : decode prog_7_method_1_code 7 = .ok (.newarray .int, 2) := by decide +kernel
  have d9 : decode prog_7_method_1_code 9 = .ok (.putfield 9, 3) := by decide +kernel
  have d12 : decode prog_7_method_1_code 12 = .ok (.aload_n 0, 1) := by decide +kernel
  have d13 : decode prog_7_method_1_code 13 = .ok (.bipush 6, 2) := by decide +kernel
  have d15 : decode prog_7_method_1_code 15 = .ok (.newarray .int, 2) := by decide +kernel
  have d17 : decode prog_7_method_1_code 17 = .ok (.putfield 15, 3) := by decide +kernel
  have d20 : decode prog_7_method_1_code 20 = .ok (.aload_n 0, 1) := by decide +kernel
  have d21 : decode prog_7_method_1_code 21 = .ok (.bipush 6, 2) := by decide +kernel
  have d23 : decode prog_7_method_1_code 23 = .ok (.newarray .int, 2) := by decide +kernel
  have d25 : decode prog_7_method_1_code 25 = .ok (.putfield 18, 3) := by decide +kernel
  have d28 : decode prog_7_method_1_code 28 = .ok (.aload_n 0, 1) := by decide +kernel
  have d29 : decode prog_7_method_1_code 29 = .ok (.bipush 6, 2) := by decide +kernel
  have d31 : decode prog_7_method_1_code 31 = .ok (.bipush 60, 2) := by decide +kernel
  have d33 : decode prog_7_method_1_code 33 = .ok (.multianewarray 21 2, 4) := by decide +kernel
  have d37 : decode prog_7_method_1_code 37 = .ok (.putfield 23, 3) := by decide +kernel
  have d40 : decode prog_7_method_1_code 40 = .ok (.iconst 0, 1) := by decide +kernel
  have d41 : decode prog_7_method_1_code 41 = .ok (.istore_n 1, 1) := by decide +kernel
  have d42 : decode prog_7_method_1_code 42 = .ok (.iload_n 1, 1) := by decide +kernel
  have d43 : decode prog_7_method_1_code 43 = .ok (.bipush 6, 2) := by decide +kernel
  have d45 : decode prog_7_method_1_code 45 = .ok (.if_icmp .ge 16, 3) := by decide +kernel
  have d48 : decode prog_7_method_1_code 48 = .ok (.aload_n 0, 1) := by decide +kernel
  have d49 : decode prog_7_method_1_code 49 = .ok (.getfield 9, 3) := by decide +kernel
  have d52 : decode prog_7_method_1_code 52 = .ok (.iload_n 1, 1) := by decide +kernel
  have d53 : decode prog_7_method_1_code 53 = .ok (.iconst (-1), 1) := by decide +kernel
  have d54 : decode prog_7_method_1_code 54 = .ok (.iastore, 1) := by decide +kernel
  have d55 : decode prog_7_method_1_code 55 = .ok (.iinc 1 1, 3) := by decide +kernel
  have d58 : decode prog_7_method_1_code 58 = .ok (.goto (-16), 3) := by decide +kernel
  have d61 : decode prog_7_method_1_code 61 = .ok (.return_, 1) := by decide +kernel
  refine lv_aload_n hx hb d0 rfl (lv_at hl 0 rfl) ?_
  refine zn_obj hx hb hml hown hts ⟨(zmT2 (i := 151) rfl rfl), (zmT1 (i := 28) rfl rfl), (zmT1 (i := 29) rfl rfl)⟩ hl.1 ⟨by omega, by omega⟩ (Nat.le_of_ble_eq_true rfl) d1 ?_
  refine lv_aload_n hx hb d4 rfl (lv_at hl 0 rfl) ?_
  refine lv_bipush hx hb d5 rfl ?_
  refine zn_newI (N' := 6) hx hb (hts _ (zmT1 (i := 129) rfl rfl)) hK hP hD hS hA hcI hM (by decide) (by decide) (by decide) (by omega) (by omega) d7 (fun r1 H1 ws1 hP1 hD1 hS1 hM1 => ?_)
  refine zn_put (V := (3, 0)) (j := 0) hx hb hts hown hK hP1 hD1 hS1 rfl zpU5 (by decide) (zmT2 (i := 154) rfl rfl) (Or.inr ⟨rfl, hnm, rfl⟩) hM1 rfl ⟨Nat.le_of_ble_eq_true rfl, rfl⟩ rfl rfl d9 (fun H2 locs2 ws2 hP2 hD2 hS2 hM2 => ?_)
  refine lv_aload_n hx hb d12 rfl (lv_at hl 0 rfl) ?_
  refine lv_bipush hx hb d13 rfl ?_
  refine zn_newI (N' := 6) hx hb (hts _ (zmT1 (i := 129) rfl rfl)) hK hP2 hD2 hS2 hA hcI hM2 (by decide) (by decide) (by decide) (by omega) (by omega) d15 (fun r3 H3 ws3 hP3 hD3 hS3 hM3 => ?_)
  refine zn_put (V := (3, 1)) (j := 1) hx hb hts hown hK hP3 hD3 hS3 rfl zpU5 (by decide) (zmT2 (i := 155) rfl rfl) (Or.inr ⟨rfl, hnm, rfl⟩) hM3 rfl ⟨Nat.le_of_ble_eq_true rfl, rfl⟩ rfl rfl d17 (fun H4 locs4 ws4 hP4 hD4 hS4 hM4 => ?_)
  refine lv_aload_n hx hb d20 rfl (lv_at hl 0 rfl) ?_
  refine lv_bipush hx hb d21 rfl ?_
  refine zn_newI (N' := 6) hx hb (hts _ (zmT1 (i := 129) rfl rfl)) hK hP4 hD4 hS4 hA hcI hM4 (by decide) (by decide) (by decide) (by omega) (by omega) d23 (fun r5 H5 ws5 hP5 hD5 hS5 hM5 => ?_)
  refine zn_put (V := (3, 2)) (j := 2) hx hb hts hown hK hP5 hD5 hS5 rfl zpU5 (by decide) (zmT2 (i := 156) rfl rfl) (Or.inr ⟨rfl, hnm, rfl⟩) hM5 rfl ⟨Nat.le_of_ble_eq_true rfl, rfl⟩ rfl rfl d25 (fun H6 locs6 ws6 hP6 hD6 hS6 hM6 => ?_)
  refine lv_aload_n hx hb d28 rfl (lv_at hl 0 rfl) ?_
  refine lv_bipush hx hb d29 rfl ?_
  refine lv_bipush hx hb d31 rfl ?_
  refine zn_mna (tn := 4) hx hb hown (hts _ (zmT2 (i := 152) rfl rfl)) hro.2.2 (hts _ (zmT2 (i := 168) rfl rfl)) hK hP6 hD6 hS6 hA hcL htn hM6 (by omega) (by omega) d33 (fun r7 cA7 H7 ws7 na7 hK7 hP7 hD7 hS7 hn7 hr7 hM7 => ?_)
  refine zn_put (V := (3, 3)) (j := 3) hx hb hts hown hK7 hP7 hD7 hS7 rfl zpU5 (by decide) (zmT2 (i := 157) rfl rfl) (Or.inr ⟨rfl, hnm, rfl⟩) hM7 rfl ⟨Nat.le_of_ble_eq_true rfl, (congrArg Value.ref hr7.symm)⟩ rfl rfl d37 (fun H8 locs8 ws8 hP8 hD8 hS8 hM8 => ?_)
  have loop : ∀ (k : Nat) (i : Int32) (ls : Array Slot) (H : Heap) (locs : List Loc) (ws : va_W) (na : Nat → Nat), (6 - i.toInt).toNat = k → 0 ≤ i.toInt → i.toInt ≤ 6 → lv_has ls 2 [(1, .int i), (0, .ref a)] → va_P D zpcl ws H → va_D A ws → va_S A s.heap H locs → zMW ws0 ws q a na aa (tys ++ [(cA7, FieldType.array .long)]) [(3, 0), (3, 1), (3, 2), (3, 3)] 5 [(1, 0, 6, [(0, (-1)), (0, 0)]), (1, 0, 6, [(0, 0), (0, 0)]), (1, 0, 6, [(0, 0), (0, 0)]), (4, 4, 6, [(0, 4)]), (2, 2, 60, []), (2, 2, 60, []), (2, 2, 60, []), (2, 2, 60, []), (2, 2, 60, []), (2, 2, 60, [])] → zFil ws0 ws na 0 6 (-1) i.toInt → W p l e R s m args below meth c H locs 10 384 Q (F0 m 42 ls []) := by
    intro k
    induction k using Nat.strongRecOn with
    | ind k ih =>
      intro i ls H locs ws na hk i0 i6 hl hP hD hS hM hFl
      refine lv_iload_n hx hb d42 rfl (lv_at hl 0 rfl) ?_
      refine lv_bipush hx hb d43 rfl ?_
      refine lv_icmp_ge hx hb d45 (tgt := 61) (by decide) (fun hge => ?_) (fun hlt => ?_)
      · exact hret 61 _ _ _ _ _ [_] d61 rfl hK7 hP hD hS (hM.know (k := 0) (u1 := 0) (u2 := 0) rfl hFl (by have h8 := Int32.le_iff_toInt_le.mp hge; have e6 : ((Int8.ofInt 6).toInt32).toInt = 6 := (by decide); omega))
      · have e6 : ((Int8.ofInt 6).toInt32).toInt = 6 := by decide
        have h6 : i.toInt < 6 := by have := mt Int32.le_iff_toInt_le.mpr hlt; omega
        have h1 : (i + Int32.ofInt 1).toInt = i.toInt + 1 := by
          rw [Int32.toInt_add, show (Int32.ofInt 1).toInt = 1 from rfl, Int.bmod_eq_of_le (by omega) (by omega)]
        refine lv_aload_n hx hb d48 rfl (lv_at hl 1 rfl) ?_
        refine zn_get (j := 0) (k := 0) hx hb hts hown hK7 hP rfl zpU5 (by decide) (zmT2 (i := 154) rfl rfl) hM rfl d49 ?_
        refine lv_iload_n hx hb d52 rfl (lv_at hl 0 rfl) ?_
        refine lv_iconst hx hb d53 rfl ?_
        refine zn_istF (v := -1) (k := 0) hx hb hK7 hP hD hS hM rfl (vp_in_iff.mpr ⟨by omega, by omega⟩) (by decide) (by decide) (by decide) hFl d54 (fun H1 locs1 ws1 hP1 hD1 hS1 hM1 hF1 => ?_)
        refine lv_iinc hx hb d55 hl (k := 0) rfl rfl (by decide) rfl (fun ls3 hl3 => ?_)
        refine lv_goto hx hb d58 (tgt := 42) (by decide) ?_
        exact ih (6 - (i + Int32.ofInt 1).toInt).toNat (by omega) _ ls3 H1 locs1 ws1 na rfl (by omega) (by omega) hl3 hP1 hD1 hS1 hM1 (by rw [h1]; exact hF1)
  have hMw := hM8.wide (k := 0) (C' := (1, 0, 6, [(0, -1), (0, 0)])) rfl (fun x hx => by
    obtain ⟨cA, f, h1, h2, h3⟩ := hx
    exact ⟨cA, f, h1, h2, fun j hj => ⟨Int.le_trans (by decide) (h3 j hj).1, (h3 j hj).2⟩⟩)
  refine lv_iconst hx hb d40 rfl ?_
  refine lv_istore_n hx hb d41 rfl hl (by decide) rfl (fun ls3 hl3 => ?_)
  exact loop _ 0 ls3 _ _ _ _ rfl (by decide) (by decide) hl3 hP8 hD8 hS8 hMw (zFil.zero hMw (k := 0) rfl (by decide))
set_option maxRecDepth 16000 in
theorem zc_Main {l : Launch} : zCt l zpTs zpcl zpRO2 (⟨"PushedIn", "<init>", "()V"⟩ : MethodName) prog_1_method_1_code 1 4 222 89 1868 0 11 3 [(0, 0), (0, 0), (0, 0), (0, 0), (0, 0), (0, 0), (0, 0), (0, 0), (0, 0)] [(3, 0), (3, 47), (3, 49), (3, 50), (3, 55), (3, 59), (3, 73), (3, 76), (3, 78)] [(0, 10, 0, [(3, 1), (1, 0), (3, 2), (3, 3), (3, 4), (3, 5), (3, 6), (1, 0), (1, 0), (1, 0), (1, 0)]), (3, 3, 40, [(0, 7)]), (1, 0, 6, [(0, 1), (0, 1)]), (1, 0, 6, [(0, 10), (0, 10)]), (1, 0, 12, [(0, 0), (0, 0)]), (1, 0, 12, [(0, 0), (0, 0)]), (1, 0, 12, [(0, 0), (0, 0)]), (0, 2, 0, [(1, 0), (1, 0), (1, 0), (1, 0), (1, 0), (1, 0), (1, 0), (1, 0), (1, 0), (1, 0), (1, 0), (1, 0)]), (0, 2, 0, [(1, 0), (1, 0), (1, 0), (1, 0), (1, 0), (1, 0), (1, 0), (1, 0), (1, 0), (1, 0), (1, 0), (1, 0)]), (0, 2, 0, [(1, 0), (1, 0), (1, 0), (1, 0), (1, 0), (1, 0), (1, 0), (1, 0), (1, 0), (1, 0), (1, 0), (1, 0)]), (0, 2, 0, [(1, 0), (1, 0), (1, 0), (1, 0), (1, 0), (1, 0), (1, 0), (1, 0), (1, 0), (1, 0), (1, 0), (1, 0)]), (0, 2, 0, [(1, 0), (1, 0), (1, 0), (1, 0), (1, 0), (1, 0), (1, 0), (1, 0), (1, 0), (1, 0), (1, 0), (1, 0)]), (0, 2, 0, [(1, 0), (1, 0), (1, 0), (1, 0), (1, 0), (1, 0), (1, 0), (1, 0), (1, 0), (1, 0), (1, 0), (1, 0)]), (0, 2, 0, [(1, 0), (1, 0), (1, 0), (1, 0), (1, 0), (1, 0), (1, 0), (1, 0), (1, 0), (1, 0), (1, 0), (1, 0)]), (0, 2, 0, [(1, 0), (1, 0), (1, 0), (1, 0), (1, 0), (1, 0), (1, 0), (1, 0), (1, 0), (1, 0), (1, 0), (1, 0)]), (0, 2, 0, [(1, 0), (1, 0), (1, 0), (1, 0), (1, 0), (1, 0), (1, 0), (1, 0), (1, 0), (1, 0), (1, 0), (1, 0)]), (0, 2, 0, [(1, 0), (1, 0), (1, 0), (1, 0), (1, 0), (1, 0), (1, 0), (1, 0), (1, 0), (1, 0), (1, 0), (1, 0)]), (0, 2, 0, [(1, 0), (1, 0), (1, 0), (1, 0), (1, 0), (1, 0), (1, 0), (1, 0), (1, 0), (1, 0), (1, 0), (1, 0)]), (0, 2, 0, [(1, 0), (1, 0), (1, 0), (1, 0), (1, 0), (1, 0), (1, 0), (1, 0), (1, 0), (1, 0), (1, 0), (1, 0)]), (0, 2, 0, [(1, 0), (1, 0), (1, 0), (1, 0), (1, 0), (1, 0), (1, 0), (1, 0), (1, 0), (1, 0), (1, 0), (1, 0)]), (0, 2, 0, [(1, 0), (1, 0), (1, 0), (1, 0), (1, 0), (1, 0), (1, 0), (1, 0), (1, 0), (1, 0), (1, 0), (1, 0)]), (0, 2, 0, [(1, 0), (1, 0), (1, 0), (1, 0), (1, 0), (1, 0), (1, 0), (1, 0), (1, 0), (1, 0), (1, 0), (1, 0)]), (0, 2, 0, [(1, 0), (1, 0), (1, 0), (1, 0), (1, 0), (1, 0), (1, 0), (1, 0), (1, 0), (1, 0), (1, 0), (1, 0)]), (0, 2, 0, [(1, 0), (1, 0), (1, 0), (1, 0), (1, 0), (1, 0), (1, 0), (1, 0), (1, 0), (1, 0), (1, 0), (1, 0)]), (0, 2, 0, [(1, 0), (1, 0), (1, 0), (1, 0), (1, 0), (1, 0), (1, 0), (1, 0), (1, 0), (1, 0), (1, 0), (1, 0)]), (0, 2, 0, [(1, 0), (1, 0), (1, 0), (1, 0), (1, 0), (1, 0), (1, 0), (1, 0), (1, 0), (1, 0), (1, 0), (1, 0)]), (0, 2, 0, [(1, 0), (1, 0), (1, 0), (1, 0), (1, 0), (1, 0), (1, 0), (1, 0), (1, 0), (1, 0), (1, 0), (1, 0)]), (0, 2, 0, [(1, 0), (1, 0), (1, 0), (1, 0), (1, 0), (1, 0), (1, 0), (1, 0), (1, 0), (1, 0), (1, 0), (1, 0)]), (0, 2, 0, [(1, 0), (1, 0), (1, 0), (1, 0), (1, 0), (1, 0), (1, 0), (1, 0), (1, 0), (1, 0), (1, 0), (1, 0)]), (0, 2, 0, [(1, 0), (1, 0), (1, 0), (1, 0), (1, 0), (1, 0), (1, 0), (1, 0), (1, 0), (1, 0), (1, 0), (1, 0)]), (0, 2, 0, [(1, 0), (1, 0), (1, 0), (1, 0), (1, 0), (1, 0), (1, 0), (1, 0), (1, 0), (1, 0), (1, 0), (1, 0)]), (0, 2, 0, [(1, 0), (1, 0), (1, 0), (1, 0), (1, 0), (1, 0), (1, 0), (1, 0), (1, 0), (1, 0), (1, 0), (1, 0)]), (0, 2, 0, [(1, 0), (1, 0), (1, 0), (1, 0), (1, 0), (1, 0), (1, 0), (1, 0), (1, 0), (1, 0), (1, 0), (1, 0)]), (0, 2, 0, [(1, 0), (1, 0), (1, 0), (1, 0), (1, 0), (1, 0), (1, 0), (1, 0), (1, 0), (1, 0), (1, 0), (1, 0)]), (0, 2, 0, [(1, 0), (1, 0), (1, 0), (1, 0), (1, 0), (1, 0), (1, 0), (1, 0), (1, 0), (1, 0), (1, 0), (1, 0)]), (0, 2, 0, [(1, 0), (1, 0), (1, 0), (1, 0), (1, 0), (1, 0), (1, 0), (1, 0), (1, 0), (1, 0), (1, 0), (1, 0)]), (0, 2, 0, [(1, 0), (1, 0), (1, 0), (1, 0), (1, 0), (1, 0), (1, 0), (1, 0), (1, 0), (1, 0), (1, 0), (1, 0)]), (0, 2, 0, [(1, 0), (1, 0), (1, 0), (1, 0), (1, 0), (1, 0), (1, 0), (1, 0), (1, 0), (1, 0), (1, 0), (1, 0)]), (0, 2, 0, [(1, 0), (1, 0), (1, 0), (1, 0), (1, 0), (1, 0), (1, 0), (1, 0), (1, 0), (1, 0), (1, 0), (1, 0)]), (0, 2, 0, [(1, 0), (1, 0), (1, 0), (1, 0), (1, 0), (1, 0), (1, 0), (1, 0), (1, 0), (1, 0), (1, 0), (1, 0)]), (0, 2, 0, [(1, 0), (1, 0), (1, 0), (1, 0), (1, 0), (1, 0), (1, 0), (1, 0), (1, 0), (1, 0), (1, 0), (1, 0)]), (0, 2, 0, [(1, 0), (1, 0), (1, 0), (1, 0), (1, 0), (1, 0), (1, 0), (1, 0), (1, 0), (1, 0), (1, 0), (1, 0)]), (0, 2, 0, [(1, 0), (1, 0), (1, 0), (1, 0), (1, 0), (1, 0), (1, 0), (1, 0), (1, 0), (1, 0), (1, 0), (1, 0)]), (0, 2, 0, [(1, 0), (1, 0), (1, 0), (1, 0), (1, 0), (1, 0), (1, 0), (1, 0), (1, 0), (1, 0), (1, 0), (1, 0)]), (0, 2, 0, [(1, 0), (1, 0), (1, 0), (1, 0), (1, 0), (1, 0), (1, 0), (1, 0), (1, 0), (1, 0), (1, 0), (1, 0)]), (0, 2, 0, [(1, 0), (1, 0), (1, 0), (1, 0), (1, 0), (1, 0), (1, 0), (1, 0), (1, 0), (1, 0), (1, 0), (1, 0)]), (0, 2, 0, [(1, 0), (1, 0), (1, 0), (1, 0), (1, 0), (1, 0), (1, 0), (1, 0), (1, 0), (1, 0), (1, 0), (1, 0)]), (0, 8, 0, [(3, 48), (1, 0), (1, 0), (1, 0)]), (6, 1, 60, []), (0, 3, 0, [(3, 47)]), (0, 1, 0, [(3, 0), (3, 51), (3, 52), (3, 53), (3, 54), (1, 0), (1, 0)]), (1, 0, 40, [(0, 0), (0, 0)]), (1, 0, 40, [(0, 0), (0, 0)]), (1, 0, 40, [(0, 0), (0, 0)]), (1, 0, 40, [(0, 0), (0, 0)]), (0, 4, 0, [(3, 0), (3, 56), (3, 57), (3, 58), (1, 0)]), (1, 0, 6, [(0, 0), (0, 0)]), (1, 0, 6, [(0, 0), (0, 0)]), (1, 0, 64, [(0, 0), (0, 0)]), (0, 6, 0, [(3, 0), (3, 60), (3, 61), (3, 62), (3, 63), (3, 65), (3, 69), (3, 64), (1, 0)]), (1, 0, 8, [(0, 0), (0, 0)]), (1, 0, 20, [(0, 0), (0, 0)]), (1, 0, 20, [(0, 0), (0, 0)]), (1, 0, 20, [(0, 0), (0, 0)]), (1, 0, 20, [(0, 0), (0, 0)]), (0, 9, 0, [(3, 47), (3, 66), (3, 67), (3, 68), (1, 0)]), (1, 0, 61, [(0, 0), (0, 0)]), (1, 0, 61, [(0, 0), (0, 0)]), (1, 0, 61, [(0, 0), (0, 0)]), (0, 9, 0, [(3, 47), (3, 70), (3, 71), (3, 72), (1, 0)]), (1, 0, 61, [(0, 0), (0, 0)]), (1, 0, 61, [(0, 0), (0, 0)]), (1, 0, 61, [(0, 0), (0, 0)]), (0, 7, 0, [(3, 0), (3, 74), (3, 75), (1, 0), (1, 0), (1, 0), (1, 0)]), (1, 0, 40, [(0, 0), (0, 0)]), (1, 0, 40, [(0, 0), (0, 0)]), (0, 0, 0, [(3, 77), (1, 0), (1, 0), (1, 0)]), (1, 0, 24, [(0, 0), (0, 0)]), (0, 5, 0, [(3, 79), (3, 80), (3, 81), (3, 82)]), (1, 0, 6, [(0, (-1)), (0, (-1))]), (1, 0, 6, [(0, 0), (0, 0)]), (1, 0, 6, [(0, 0), (0, 0)]), (4, 4, 6, [(0, 83)]), (2, 2, 60, []), (2, 2, 60, []), (2, 2, 60, []), (2, 2, 60, []), (2, 2, 60, []), (2, 2, 60, [])] [(.object "PushedIn$Comer"), (.array .long)] := by
  refine zct_of (by decide +kernel) (by decide) ?_
  intro p e R s m args below meth c D tys A ad ws0 q a na aa ls Q hx hb hnm hml hown hts hro hrm hA hty hl hK hP hD hM hret
  obtain ⟨hr1, hr2, hr3, hr4⟩ := hrm
  obtain ⟨htn, cI, cB, cL, hcI, hcB, hcL⟩ := hty
  have hS : va_S A s.heap s.heap [] := va_S.rf
  have d0 : decode prog_1_method_1_code 0 = .ok (.aload_n 0, 1) := by decide +kernel
  have d1 : decode prog_1_method_1_code 1 = .ok (.invokespecial 1, 3) := by decide +kernel
  have d4 : decode prog_1_method_1_code 4 = .ok (.aload_n 0, 1) := by decide +kernel
  have d5 : decode prog_1_method_1_code 5 = .ok (.new 7, 3) := by decide +kernel
  have d8 : decode prog_1_method_1_code 8 = .ok (.dup, 1) := by decide +kernel
  have d9 : decode prog_1_method_1_code 9 = .ok (.invokespecial 9, 3) := by decide +kernel
  have d12 : decode prog_1_method_1_code 12 = .ok (.putfield 10, 3) := by decide +kernel
  have d15 : decode prog_1_method_1_code 15 = .ok (.aload_n 0, 1) := by decide +kernel
  have d16 : decode prog_1_method_1_code 16 = .ok (.new 16, 3) := by decide +kernel
  have d19 : decode prog_1_method_1_code 19 = .ok (.dup, 1) := by decide +kernel
  have d20 : decode prog_1_method_1_code 20 = .ok (.invokespecial 18, 3) := by decide +kernel
  have d23 : decode prog_1_method_1_code 23 = .ok (.putfield 19, 3) := by decide +kernel
  have d26 : decode prog_1_method_1_code 26 = .ok (.aload_n 0, 1) := by decide +kernel
  have d27 : decode prog_1_method_1_code 27 = .ok (.new 23, 3) := by decide +kernel
  have d30 : decode prog_1_method_1_code 30 = .ok (.dup, 1) := by decide +kernel
  have d31 : decode prog_1_method_1_code 31 = .ok (.aload_n 0, 1) := by decide +kernel
  have d32 : decode prog_1_method_1_code 32 = .ok (.getfield 19, 3) := by decide +kernel
  have d35 : decode prog_1_method_1_code 35 = .ok (.invokespecial 25, 3) := by decide +kernel
  have d38 : decode prog_1_method_1_code 38 = .ok (.putfield 28, 3) := by decide +kernel
  have d41 : decode prog_1_method_1_code 41 = .ok (.aload_n 0, 1) := by decide +kernel
  have d42 : decode prog_1_method_1_code 42 = .ok (.new 32, 3) := by decide +kernel
  have d45 : decode prog_1_method_1_code 45 = .ok (.dup, 1) := by decide +kernel
  have d46 : decode prog_1_method_1_code 46 = .ok (.aload_n 0, 1) := by decide +kernel
  have d47 : decode prog_1_method_1_code 47 = .ok (.getfield 10, 3) := by decide +kernel
  have d50 : decode prog_1_method_1_code 50 = .ok (.invokespecial 34, 3) := by decide +kernel
  have d53 : decode prog_1_method_1_code 53 = .ok (.putfield 37, 3) := by decide +kernel
  have d56 : decode prog_1_method_1_code 56 = .ok (.aload_n 0, 1) := by decide +kernel
  have d57 : decode prog_1_method_1_code 57 = .ok (.new 41, 3) := by decide +kernel
  have d60 : decode prog_1_method_1_code 60 = .ok (.dup, 1) := by decide +kernel
  have d61 : decode prog_1_method_1_code 61 = .ok (.aload_n 0, 1) := by decide +kernel
  have d62 : decode prog_1_method_1_code 62 = .ok (.getfield 10, 3) := by decide +kernel
  have d65 : decode prog_1_method_1_code 65 = .ok (.invokespecial 43, 3) := by decide +kernel
  have d68 : decode prog_1_method_1_code 68 = .ok (.putfield 44, 3) := by decide +kernel
  have d71 : decode prog_1_method_1_code 71 = .ok (.aload_n 0, 1) := by decide +kernel
  have d72 : decode prog_1_method_1_code 72 = .ok (.new 48, 3) := by decide +kernel
  have d75 : decode prog_1_method_1_code 75 = .ok (.dup, 1) := by decide +kernel
  have d76 : decode prog_1_method_1_code 76 = .ok (.aload_n 0, 1) := by decide +kernel
  have d77 : decode prog_1_method_1_code 77 = .ok (.getfield 10, 3) := by decide +kernel
  have d80 : decode prog_1_method_1_code 80 = .ok (.aload_n 0, 1) := by decide +kernel
  have d81 : decode prog_1_method_1_code 81 = .ok (.getfield 19, 3) := by decide +kernel
  have d84 : decode prog_1_method_1_code 84 = .ok (.invokespecial 50, 3) := by decide +kernel
  have d87 : decode prog_1_method_1_code 87 = .ok (.putfield 53, 3) := by decide +kernel
  have d90 : decode prog_1_method_1_code 90 = .ok (.aload_n 0, 1) := by decide +kernel
  have d91 : decode prog_1_method_1_code 91 = .ok (.new 57, 3) := by decide +kernel
  have d94 : decode prog_1_method_1_code 94 = .ok (.dup, 1) := by decide +kernel
  have d95 : decode prog_1_method_1_code 95 = .ok (.aload_n 0, 1) := by decide +kernel
  have d96 : decode prog_1_method_1_code 96 = .ok (.getfield 10, 3) := by decide +kernel
  have d99 : decode prog_1_method_1_code 99 = .ok (.invokespecial 59, 3) := by decide +kernel
  have d102 : decode prog_1_method_1_code 102 = .ok (.putfield 60, 3) := by decide +kernel
  have d105 : decode prog_1_method_1_code 105 = .ok (.aload_n 0, 1) := by decide +kernel
  have d106 : decode prog_1_method_1_code 106 = .ok (.new 64, 3) := by decide +kernel
  have d109 : decode prog_1_method_1_code 109 = .ok (.dup, 1) := by decide +kernel
  have d110 : decode prog_1_method_1_code 110 = .ok (.invokespecial 66, 3) := by decide +kernel
  have d113 : decode prog_1_method_1_code 113 = .ok (.putfield 67, 3) := by decide +kernel
  have d116 : decode prog_1_method_1_code 116 = .ok (.aload_n 0, 1) := by decide +kernel
  have d117 : decode prog_1_method_1_code 117 = .ok (.new 71, 3) := by decide +kernel
  have d120 : decode prog_1_method_1_code 120 = .ok (.dup, 1) := by decide +kernel
  have d121 : decode prog_1_method_1_code 121 = .ok (.invokespecial 73, 3) := by decide +kernel
  have d124 : decode prog_1_method_1_code 124 = .ok (.putfield 74, 3) := by decide +kernel
  have d127 : decode prog_1_method_1_code 127 = .ok (.return_, 1) := by decide +kernel
  refine lv_aload_n hx hb d0 rfl (lv_at hl 0 rfl) ?_
  refine zn_obj hx hb hml hown hts ⟨(zmT1 (i := 27) rfl rfl), (zmT1 (i := 28) rfl rfl), (zmT1 (i := 29) rfl rfl)⟩ hl.1 ⟨by omega, by omega⟩ (Nat.le_of_ble_eq_true rfl) d1 ?_
  refine lv_aload_n hx hb d4 rfl (lv_at hl 0 rfl) ?_
  refine zn_new (C := "PushedIn$Yard") (cj := 10) (N := 11) (fs := [.null, .int 0, .null, .null, .null, .null, .null, .int 0, .int 0, .int 0, .int 0]) (F1 := [(0, 0), (1, 0), (0, 0), (0, 0), (0, 0), (0, 0), (0, 0), (1, 0), (1, 0), (1, 0), (1, 0)]) hx hb hts hown hK hP hD hS hA rfl zpU10 ⟨(zmT1 (i := 30) rfl rfl), (zmT1 (i := 31) rfl rfl), (zmT1 (i := 2) rfl rfl)⟩ hM (by decide) (fun a na aa len => ⟨rfl, zdef_10⟩) (by omega) (by omega) d5 (fun r1 H1 ws1 hP1 hD1 hS1 hM1 => ?_)
  refine lv_dup hx hb d8 rfl ?_
  refine zn_ctor (n := 0) (k0 := 0) (aa2 := (fun i => 0)) (avs := []) hx hb hml hown hts zTs_good zpRO2_ok hro hA hK hP1 hD1 hS1 zc_Yard ⟨htn, cI, cB, cL, hcI, hcB, hcL⟩ hM1 rfl rfl (by decide) (fun i hi => absurd hi (Nat.not_lt_zero i)) (by decide) (by decide) (Or.inl (zmT1 (i := 32) rfl rfl)) ⟨(zmT1 (i := 33) rfl rfl), (zmT1 (i := 2) rfl rfl), (zmT1 (i := 34) rfl rfl), by decide, by decide, by decide +kernel⟩ rfl hl.1 ⟨by omega, by omega⟩ (Nat.le_of_ble_eq_true rfl) d9 ⟨by omega, by omega⟩ (fun H2 locs2 ws2 na2 xs2 hx2 hK2 hP2 hD2 hS2 hn2 hM2 => ?_)
  have ex2 := hx2
  obtain ⟨x02, rfl⟩ : ∃ x0, xs2 = [x0] := List.length_eq_one_iff.mp (by rw [← List.length_map (f := Prod.snd), hx2]; rfl)
  have hcI2 : (tys ++ [x02])[0]? = some (cI, .int) := by rw [List.getElem?_append_left (by have := htn; omega)]; exact hcI
  have hcB2 : (tys ++ [x02])[1]? = some (cB, .byte) := by rw [List.getElem?_append_left (by have := htn; omega)]; exact hcB
  have hcL2 : (tys ++ [x02])[2]? = some (cL, .long) := by rw [List.getElem?_append_left (by have := htn; omega)]; exact hcL
  have htn2 : (tys ++ [x02]).length = 4 := by rw [List.length_append, htn]; rfl
  refine zn_put (V := (3, 0)) (j := 0) hx hb hts hown hK2 hP2 hD2 hS2 rfl zpU11 (by decide) (zmT2 (i := 169) rfl rfl) (Or.inr ⟨rfl, hnm, rfl⟩) hM2 rfl ⟨Nat.le_of_ble_eq_true rfl, (congrArg Value.ref (hn2 0 (Nat.le_of_ble_eq_true rfl)).symm)⟩ rfl rfl d12 (fun H3 locs3 ws3 hP3 hD3 hS3 hM3 => ?_)
  refine lv_aload_n hx hb d15 rfl (lv_at hl 0 rfl) ?_
  refine zn_new (C := "PushedIn$Tape") (cj := 8) (N := 4) (fs := [.null, .int 0, .int 0, .int 0]) (F1 := [(0, 0), (1, 0), (1, 0), (1, 0)]) hx hb hts hown hK2 hP3 hD3 hS3 hA rfl zpU8 ⟨(zmT1 (i := 181) rfl rfl), (zmT1 (i := 182) rfl rfl), (zmT1 (i := 4) rfl rfl)⟩ hM3 (by decide) (fun a na aa len => ⟨rfl, zdef_8⟩) (by omega) (by omega) d16 (fun r4 H4 ws4 hP4 hD4 hS4 hM4 => ?_)
  refine lv_dup hx hb d19 rfl ?_
  refine zn_ctor (n := 0) (k0 := 47) (aa2 := (fun i => 0)) (avs := []) hx hb hml hown hts zTs_good zpRO2_ok hro hA hK2 hP4 hD4 hS4 zc_Tape ⟨htn2, cI, cB, cL, hcI2, hcB2, hcL2⟩ hM4 rfl rfl (by decide) (fun i hi => absurd hi (Nat.not_lt_zero i)) (by decide) (by decide) (Or.inr (hro.1.2.2.2.2.1 ("PushedIn", 18, ⟨"PushedIn$Tape", "<init>", "()V"⟩) (List.mem_of_getElem? (i := 1) rfl))) ⟨(zmT1 (i := 184) rfl rfl), (zmT1 (i := 4) rfl rfl), (zmT1 (i := 185) rfl rfl), by decide, by decide, by decide +kernel⟩ rfl hl.1 ⟨by omega, by omega⟩ (Nat.le_of_ble_eq_true rfl) d20 ⟨by omega, by omega⟩ (fun H5 locs5 ws5 na5 xs5 hx5 hK5 hP5 hD5 hS5 hn5 hM5 => ?_)
  have ex5 := hx5
  have e05 : xs5 = [] := List.map_eq_nil_iff.mp hx5
  subst e05
  rw [List.append_nil] at hK5 hM5
  refine zn_put (V := (3, 47)) (j := 1) hx hb hts hown hK5 hP5 hD5 hS5 rfl zpU11 (by decide) (zmT2 (i := 170) rfl rfl) (Or.inr ⟨rfl, hnm, rfl⟩) hM5 rfl ⟨Nat.le_of_ble_eq_true rfl, (congrArg Value.ref (hn5 47 (Nat.le_of_ble_eq_true rfl)).symm)⟩ rfl rfl d23 (fun H6 locs6 ws6 hP6 hD6 hS6 hM6 => ?_)
  refine lv_aload_n hx hb d26 rfl (lv_at hl 0 rfl) ?_
  refine zn_new (C := "PushedIn$ComerReader") (cj := 3) (N := 1) (fs := [.null]) (F1 := [(0, 0)]) hx hb hts hown hK5 hP6 hD6 hS6 hA rfl zpU3 ⟨(zmT1 (i := 204) rfl rfl), (zmT1 (i := 205) rfl rfl), (zmT1 (i := 5) rfl rfl)⟩ hM6 (by decide) (fun a na aa len => ⟨rfl, zdef_3⟩) (by omega) (by omega) d27 (fun r7 H7 ws7 hP7 hD7 hS7 hM7 => ?_)
  refine lv_dup hx hb d30 rfl ?_
  refine lv_aload_n hx hb d31 rfl (lv_at hl 0 rfl) ?_
  refine zn_get (j := 1) (k := 47) hx hb hts hown hK5 hP7 rfl zpU11 (by decide) (zmT2 (i := 170) rfl rfl) hM7 rfl d32 ?_
  refine zn_ctor (n := 1) (k0 := 49) (aa2 := (fun i => ((zna na5 49 r7) 47))) (avs := [(3, 47)]) hx hb hml hown hts zTs_good zpRO2_ok hro hA hK5 hP7 hD7 hS7 zc_ComerReader ⟨htn2, cI, cB, cL, hcI2, hcB2, hcL2⟩ hM7 rfl rfl (by decide) (fun i hi => by
    match i, hi with
    | 0, _ => exact ⟨Nat.le_of_ble_eq_true rfl, rfl⟩) (by decide) (by decide) (Or.inl (zmT1 (i := 206) rfl rfl)) ⟨(zmT1 (i := 207) rfl rfl), (zmT1 (i := 5) rfl rfl), (zmT1 (i := 208) rfl rfl), by decide, by decide, by decide +kernel⟩ rfl hl.1 ⟨by omega, by omega⟩ (Nat.le_of_ble_eq_true rfl) d35 ⟨by omega, by omega⟩ (fun H8 locs8 ws8 na8 xs8 hx8 hK8 hP8 hD8 hS8 hn8 hM8 => ?_)
  have ex8 := hx8
  have e08 : xs8 = [] := List.map_eq_nil_iff.mp hx8
  subst e08
  rw [List.append_nil] at hK8 hM8
  refine zn_put (V := (3, 49)) (j := 2) hx hb hts hown hK8 hP8 hD8 hS8 rfl zpU11 (by decide) (zmT2 (i := 171) rfl rfl) (Or.inr ⟨rfl, hnm, rfl⟩) hM8 rfl ⟨Nat.le_of_ble_eq_true rfl, (congrArg Value.ref (hn8 49 (Nat.le_of_ble_eq_true rfl)).symm)⟩ rfl rfl d38 (fun H9 locs9 ws9 hP9 hD9 hS9 hM9 => ?_)
  refine lv_aload_n hx hb d41 rfl (lv_at hl 0 rfl) ?_
  refine zn_new (C := "PushedIn$Changes") (cj := 1) (N := 7) (fs := [.null, .null, .null, .null, .null, .int 0, .int 0]) (F1 := [(0, 0), (0, 0), (0, 0), (0, 0), (0, 0), (1, 0), (1, 0)]) hx hb hts hown hK8 hP9 hD9 hS9 hA rfl zpU1 ⟨(zmT1 (i := 214) rfl rfl), (zmT1 (i := 215) rfl rfl), (zmT1 (i := 6) rfl rfl)⟩ hM9 (by decide) (fun a na aa len => ⟨rfl, zdef_1⟩) (by omega) (by omega) d42 (fun r10 H10 ws10 hP10 hD10 hS10 hM10 => ?_)
  refine lv_dup hx hb d45 rfl ?_
  refine lv_aload_n hx hb d46 rfl (lv_at hl 0 rfl) ?_
  refine zn_get (j := 0) (k := 0) hx hb hts hown hK8 hP10 rfl zpU11 (by decide) (zmT2 (i := 169) rfl rfl) hM10 rfl d47 ?_
  refine zn_ctor (n := 1) (k0 := 50) (aa2 := (fun i => ((zna na8 50 r10) 0))) (avs := [(3, 0)]) hx hb hml hown hts zTs_good zpRO2_ok hro hA hK8 hP10 hD10 hS10 zc_Changes ⟨htn2, cI, cB, cL, hcI2, hcB2, hcL2⟩ hM10 rfl rfl (by decide) (fun i hi => by
    match i, hi with
    | 0, _ => exact ⟨Nat.le_of_ble_eq_true rfl, rfl⟩) (by decide) (by decide) (Or.inl (zmT1 (i := 216) rfl rfl)) ⟨(zmT1 (i := 217) rfl rfl), (zmT1 (i := 6) rfl rfl), (zmT1 (i := 218) rfl rfl), by decide, by decide, by decide +kernel⟩ rfl hl.1 ⟨by omega, by omega⟩ (Nat.le_of_ble_eq_true rfl) d50 ⟨by omega, by omega⟩ (fun H11 locs11 ws11 na11 xs11 hx11 hK11 hP11 hD11 hS11 hn11 hM11 => ?_)
  have ex11 := hx11
  have e011 : xs11 = [] := List.map_eq_nil_iff.mp hx11
  subst e011
  rw [List.append_nil] at hK11 hM11
  refine zn_put (V := (3, 50)) (j := 3) hx hb hts hown hK11 hP11 hD11 hS11 rfl zpU11 (by decide) (zmT2 (i := 172) rfl rfl) (Or.inr ⟨rfl, hnm, rfl⟩) hM11 rfl ⟨Nat.le_of_ble_eq_true rfl, (congrArg Value.ref (hn11 50 (Nat.le_of_ble_eq_true rfl)).symm)⟩ rfl rfl d53 (fun H12 locs12 ws12 hP12 hD12 hS12 hM12 => ?_)
  refine lv_aload_n hx hb d56 rfl (lv_at hl 0 rfl) ?_
  refine zn_new (C := "PushedIn$Passing") (cj := 4) (N := 5) (fs := [.null, .null, .null, .null, .int 0]) (F1 := [(0, 0), (0, 0), (0, 0), (0, 0), (1, 0)]) hx hb hts hown hK11 hP12 hD12 hS12 hA rfl zpU4 ⟨(zmT2 (i := 4) rfl rfl), (zmT2 (i := 5) rfl rfl), (zmT1 (i := 7) rfl rfl)⟩ hM12 (by decide) (fun a na aa len => ⟨rfl, zdef_4⟩) (by omega) (by omega) d57 (fun r13 H13 ws13 hP13 hD13 hS13 hM13 => ?_)
  refine lv_dup hx hb d60 rfl ?_
  refine lv_aload_n hx hb d61 rfl (lv_at hl 0 rfl) ?_
  refine zn_get (j := 0) (k := 0) hx hb hts hown hK11 hP13 rfl zpU11 (by decide) (zmT2 (i := 169) rfl rfl) hM13 rfl d62 ?_
  refine zn_ctor (n := 1) (k0 := 55) (aa2 := (fun i => ((zna na11 55 r13) 0))) (avs := [(3, 0)]) hx hb hml hown hts zTs_good zpRO2_ok hro hA hK11 hP13 hD13 hS13 zc_Passing ⟨htn2, cI, cB, cL, hcI2, hcB2, hcL2⟩ hM13 rfl rfl (by decide) (fun i hi => by
    match i, hi with
    | 0, _ => exact ⟨Nat.le_of_ble_eq_true rfl, rfl⟩) (by decide) (by decide) (Or.inl (zmT2 (i := 6) rfl rfl)) ⟨(zmT2 (i := 7) rfl rfl), (zmT1 (i := 7) rfl rfl), (zmT2 (i := 8) rfl rfl), by decide, by decide, by decide +kernel⟩ rfl hl.1 ⟨by omega, by omega⟩ (Nat.le_of_ble_eq_true rfl) d65 ⟨by omega, by omega⟩ (fun H14 locs14 ws14 na14 xs14 hx14 hK14 hP14 hD14 hS14 hn14 hM14 => ?_)
  have ex14 := hx14
  have e014 : xs14 = [] := List.map_eq_nil_iff.mp hx14
  subst e014
  rw [List.append_nil] at hK14 hM14
  refine zn_put (V := (3, 55)) (j := 4) hx hb hts hown hK14 hP14 hD14 hS14 rfl zpU11 (by decide) (zmT2 (i := 173) rfl rfl) (Or.inr ⟨rfl, hnm, rfl⟩) hM14 rfl ⟨Nat.le_of_ble_eq_true rfl, (congrArg Value.ref (hn14 55 (Nat.le_of_ble_eq_true rfl)).symm)⟩ rfl rfl d68 (fun H15 locs15 ws15 hP15 hD15 hS15 hM15 => ?_)
  refine lv_aload_n hx hb d71 rfl (lv_at hl 0 rfl) ?_
  refine zn_new (C := "PushedIn$Rules") (cj := 6) (N := 9) (fs := [.null, .null, .null, .null, .null, .null, .null, .null, .int 0]) (F1 := [(0, 0), (0, 0), (0, 0), (0, 0), (0, 0), (0, 0), (0, 0), (0, 0), (1, 0)]) hx hb hts hown hK14 hP15 hD15 hS15 hA rfl zpU6 ⟨(zmT2 (i := 26) rfl rfl), (zmT2 (i := 27) rfl rfl), (zmT1 (i := 8) rfl rfl)⟩ hM15 (by decide) (fun a na aa len => ⟨rfl, zdef_6⟩) (by omega) (by omega) d72 (fun r16 H16 ws16 hP16 hD16 hS16 hM16 => ?_)
  refine lv_dup hx hb d75 rfl ?_
  refine lv_aload_n hx hb d76 rfl (lv_at hl 0 rfl) ?_
  refine zn_get (j := 0) (k := 0) hx hb hts hown hK14 hP16 rfl zpU11 (by decide) (zmT2 (i := 169) rfl rfl) hM16 rfl d77 ?_
  refine lv_aload_n hx hb d80 rfl (lv_at hl 0 rfl) ?_
  refine zn_get (j := 1) (k := 47) hx hb hts hown hK14 hP16 rfl zpU11 (by decide) (zmT2 (i := 170) rfl rfl) hM16 rfl d81 ?_
  refine zn_ctor (n := 2) (k0 := 59) (aa2 := (fun i => if i = 0 then ((zna na14 59 r16) 0) else ((zna na14 59 r16) 47))) (avs := [(3, 0), (3, 47)]) hx hb hml hown hts zTs_good zpRO2_ok hro hA hK14 hP16 hD16 hS16 zc_Rules ⟨htn2, cI, cB, cL, hcI2, hcB2, hcL2⟩ hM16 rfl rfl (by decide) (fun i hi => by
    match i, hi with
    | 0, _ => exact ⟨Nat.le_of_ble_eq_true rfl, rfl⟩
    | 1, _ => exact ⟨Nat.le_of_ble_eq_true rfl, rfl⟩) (by decide) (by decide) (Or.inl (zmT2 (i := 28) rfl rfl)) ⟨(zmT2 (i := 29) rfl rfl), (zmT1 (i := 8) rfl rfl), (zmT2 (i := 30) rfl rfl), by decide, by decide, by decide +kernel⟩ rfl hl.1 ⟨by omega, by omega⟩ (Nat.le_of_ble_eq_true rfl) d84 ⟨by omega, by omega⟩ (fun H17 locs17 ws17 na17 xs17 hx17 hK17 hP17 hD17 hS17 hn17 hM17 => ?_)
  have ex17 := hx17
  have e017 : xs17 = [] := List.map_eq_nil_iff.mp hx17
  subst e017
  rw [List.append_nil] at hK17 hM17
  refine zn_put (V := (3, 59)) (j := 5) hx hb hts hown hK17 hP17 hD17 hS17 rfl zpU11 (by decide) (zmT2 (i := 174) rfl rfl) (Or.inr ⟨rfl, hnm, rfl⟩) hM17 rfl ⟨Nat.le_of_ble_eq_true rfl, (congrArg Value.ref (hn17 59 (Nat.le_of_ble_eq_true rfl)).symm)⟩ rfl rfl d87 (fun H18 locs18 ws18 hP18 hD18 hS18 hM18 => ?_)
  refine lv_aload_n hx hb d90 rfl (lv_at hl 0 rfl) ?_
  refine zn_new (C := "PushedIn$Survey") (cj := 7) (N := 7) (fs := [.null, .null, .null, .int 0, .int 0, .int 0, .int 0]) (F1 := [(0, 0), (0, 0), (0, 0), (1, 0), (1, 0), (1, 0), (1, 0)]) hx hb hts hown hK17 hP18 hD18 hS18 hA rfl zpU7 ⟨(zmT2 (i := 95) rfl rfl), (zmT2 (i := 96) rfl rfl), (zmT1 (i := 11) rfl rfl)⟩ hM18 (by decide) (fun a na aa len => ⟨rfl, zdef_7⟩) (by omega) (by omega) d91 (fun r19 H19 ws19 hP19 hD19 hS19 hM19 => ?_)
  refine lv_dup hx hb d94 rfl ?_
  refine lv_aload_n hx hb d95 rfl (lv_at hl 0 rfl) ?_
  refine zn_get (j := 0) (k := 0) hx hb hts hown hK17 hP19 rfl zpU11 (by decide) (zmT2 (i := 169) rfl rfl) hM19 rfl d96 ?_
  refine zn_ctor (n := 1) (k0 := 73) (aa2 := (fun i => ((zna na17 73 r19) 0))) (avs := [(3, 0)]) hx hb hml hown hts zTs_good zpRO2_ok hro hA hK17 hP19 hD19 hS19 zc_Survey ⟨htn2, cI, cB, cL, hcI2, hcB2, hcL2⟩ hM19 rfl rfl (by decide) (fun i hi => by
    match i, hi with
    | 0, _ => exact ⟨Nat.le_of_ble_eq_true rfl, rfl⟩) (by decide) (by decide) (Or.inl (zmT2 (i := 97) rfl rfl)) ⟨(zmT2 (i := 98) rfl rfl), (zmT1 (i := 11) rfl rfl), (zmT2 (i := 99) rfl rfl), by decide, by decide, by decide +kernel⟩ rfl hl.1 ⟨by omega, by omega⟩ (Nat.le_of_ble_eq_true rfl) d99 ⟨by omega, by omega⟩ (fun H20 locs20 ws20 na20 xs20 hx20 hK20 hP20 hD20 hS20 hn20 hM20 => ?_)
  have ex20 := hx20
  have e020 : xs20 = [] := List.map_eq_nil_iff.mp hx20
  subst e020
  rw [List.append_nil] at hK20 hM20
  refine zn_put (V := (3, 73)) (j := 6) hx hb hts hown hK20 hP20 hD20 hS20 rfl zpU11 (by decide) (zmT2 (i := 175) rfl rfl) (Or.inr ⟨rfl, hnm, rfl⟩) hM20 rfl ⟨Nat.le_of_ble_eq_true rfl, (congrArg Value.ref (hn20 73 (Nat.le_of_ble_eq_true rfl)).symm)⟩ rfl rfl d102 (fun H21 locs21 ws21 hP21 hD21 hS21 hM21 => ?_)
  refine lv_aload_n hx hb d105 rfl (lv_at hl 0 rfl) ?_
  refine zn_new (C := "PushedIn$Acts") (cj := 0) (N := 4) (fs := [.null, .int 0, .int 0, .int 0]) (F1 := [(0, 0), (1, 0), (1, 0), (1, 0)]) hx hb hts hown hK20 hP21 hD21 hS21 hA rfl zpU0 ⟨(zmT2 (i := 125) rfl rfl), (zmT2 (i := 126) rfl rfl), (zmT1 (i := 12) rfl rfl)⟩ hM21 (by decide) (fun a na aa len => ⟨rfl, zdef_0⟩) (by omega) (by omega) d106 (fun r22 H22 ws22 hP22 hD22 hS22 hM22 => ?_)
  refine lv_dup hx hb d109 rfl ?_
  refine zn_ctor (n := 0) (k0 := 76) (aa2 := (fun i => 0)) (avs := []) hx hb hml hown hts zTs_good zpRO2_ok hro hA hK20 hP22 hD22 hS22 zc_Acts ⟨htn2, cI, cB, cL, hcI2, hcB2, hcL2⟩ hM22 rfl rfl (by decide) (fun i hi => absurd hi (Nat.not_lt_zero i)) (by decide) (by decide) (Or.inr (hro.1.2.2.2.2.1 ("PushedIn", 66, ⟨"PushedIn$Acts", "<init>", "()V"⟩) (List.mem_of_getElem? (i := 2) rfl))) ⟨(zmT2 (i := 128) rfl rfl), (zmT1 (i := 12) rfl rfl), (zmT2 (i := 129) rfl rfl), by decide, by decide, by decide +kernel⟩ rfl hl.1 ⟨by omega, by omega⟩ (Nat.le_of_ble_eq_true rfl) d110 ⟨by omega, by omega⟩ (fun H23 locs23 ws23 na23 xs23 hx23 hK23 hP23 hD23 hS23 hn23 hM23 => ?_)
  have ex23 := hx23
  have e023 : xs23 = [] := List.map_eq_nil_iff.mp hx23
  subst e023
  rw [List.append_nil] at hK23 hM23
  refine zn_put (V := (3, 76)) (j := 7) hx hb hts hown hK23 hP23 hD23 hS23 rfl zpU11 (by decide) (zmT2 (i := 176) rfl rfl) (Or.inr ⟨rfl, hnm, rfl⟩) hM23 rfl ⟨Nat.le_of_ble_eq_true rfl, (congrArg Value.ref (hn23 76 (Nat.le_of_ble_eq_true rfl)).symm)⟩ rfl rfl d113 (fun H24 locs24 ws24 hP24 hD24 hS24 hM24 => ?_)
  refine lv_aload_n hx hb d116 rfl (lv_at hl 0 rfl) ?_
  refine zn_new (C := "PushedIn$Places") (cj := 5) (N := 4) (fs := [.null, .null, .null, .null]) (F1 := [(0, 0), (0, 0), (0, 0), (0, 0)]) hx hb hts hown hK23 hP24 hD24 hS24 hA rfl zpU5 ⟨(zmT2 (i := 146) rfl rfl), (zmT2 (i := 147) rfl rfl), (zmT1 (i := 13) rfl rfl)⟩ hM24 (by decide) (fun a na aa len => ⟨rfl, zdef_5⟩) (by omega) (by omega) d117 (fun r25 H25 ws25 hP25 hD25 hS25 hM25 => ?_)
  refine lv_dup hx hb d120 rfl ?_
  refine zn_ctor (n := 0) (k0 := 78) (aa2 := (fun i => 0)) (avs := []) hx hb hml hown hts zTs_good zpRO2_ok hro hA hK23 hP25 hD25 hS25 zc_Places ⟨htn2, cI, cB, cL, hcI2, hcB2, hcL2⟩ hM25 rfl rfl (by decide) (fun i hi => absurd hi (Nat.not_lt_zero i)) (by decide) (by decide) (Or.inl (zmT2 (i := 148) rfl rfl)) ⟨(zmT2 (i := 149) rfl rfl), (zmT1 (i := 13) rfl rfl), (zmT2 (i := 150) rfl rfl), by decide, by decide, by decide +kernel⟩ rfl hl.1 ⟨by omega, by omega⟩ (Nat.le_of_ble_eq_true rfl) d121 ⟨by omega, by omega⟩ (fun H26 locs26 ws26 na26 xs26 hx26 hK26 hP26 hD26 hS26 hn26 hM26 => ?_)
  have ex26 := hx26
  obtain ⟨x026, rfl⟩ : ∃ x0, xs26 = [x0] := List.length_eq_one_iff.mp (by rw [← List.length_map (f := Prod.snd), hx26]; rfl)
  have hcI26 : ((tys ++ [x02]) ++ [x026])[0]? = some (cI, .int) := by rw [List.getElem?_append_left (by have := htn2; omega)]; exact hcI2
  have hcB26 : ((tys ++ [x02]) ++ [x026])[1]? = some (cB, .byte) := by rw [List.getElem?_append_left (by have := htn2; omega)]; exact hcB2
  have hcL26 : ((tys ++ [x02]) ++ [x026])[2]? = some (cL, .long) := by rw [List.getElem?_append_left (by have := htn2; omega)]; exact hcL2
  have htn26 : ((tys ++ [x02]) ++ [x026]).length = 5 := by rw [List.length_append, htn2]; rfl
  refine zn_put (V := (3, 78)) (j := 8) hx hb hts hown hK26 hP26 hD26 hS26 rfl zpU11 (by decide) (zmT2 (i := 177) rfl rfl) (Or.inr ⟨rfl, hnm, rfl⟩) hM26 rfl ⟨Nat.le_of_ble_eq_true rfl, (congrArg Value.ref (hn26 78 (Nat.le_of_ble_eq_true rfl)).symm)⟩ rfl rfl d124 (fun H27 locs27 ws27 hP27 hD27 hS27 hM27 => ?_)
  have eTY : ((tys ++ [x02]) ++ [x026]) = tys ++ [x02, x026] := by rw [List.append_assoc]; rfl
  exact hret 127 _ _ _ _ _ [x02, x026] d127 (by simp only [List.map_cons, List.map_nil, List.cons.injEq, and_true] at ex2 ex26 ⊢; exact ⟨ex2, ex26⟩) (by rw [← eTY]; exact hK26) hP27 hD27 hS27 (by exact (by rw [eTY] at hM27; exact hM27))
