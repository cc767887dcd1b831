/-! MAKING: the constructors with loops, printed by wip/p2/gen98.py -/
theorem zc_Yard {l : Launch} : zCt l zpTs zpcl zpRO2 (⟨"PushedIn$Yard", "<init>", "()V"⟩ : MethodName) prog_12_method_1_code 2 3 200 46 568 0 10 3 [(0, 0), (1, 0), (0, 0), (0, 0), (0, 0), (0, 0), (0, 0), (1, 0), (1, 0), (1, 0), (1, 0)] [(3, 0), (1, 0), (3, 1), (3, 2), (3, 3), (3, 4), (3, 5), (1, 0), (1, 0), (1, 0), (1, 0)] ((3, 3, 40, [(0, 6)]) :: ([(1, 0, 6, [(0, 1), (0, 1)]), (1, 0, 6, [(0, 10), (0, 10)]), (1, 0, 12, [(0, 0), (0, 0)]), (1, 0, 12, [(0, 0), (0, 0)]), (1, 0, 12, [(0, 0), (0, 0)])] ++ List.replicate 40 (0, 2, 0, [(1, 0), (1, 0), (1, 0), (1, 0), (1, 0), (1, 0), (1, 0), (1, 0), (1, 0), (1, 0), (1, 0), (1, 0)]))) [(.object "PushedIn$Comer")] := by
  refine zct_of (by decide +kernel) (by decide) ?_
  intro p e R s m args below meth c D tys A ad ws0 q a na aa ls Q hx hb hnm hml hown hts hro hrm hA hty hl hK hP hD hM hret
  obtain ⟨hr1, hr2, hr3, hr4⟩ := hrm
  obtain ⟨htn, cI, cB, cL, hcI, hcB, hcL⟩ := hty
  have hS : va_S A s.heap s.heap [] := va_S.rf
  have d0 : decode prog_12_method_1_code 0 = .ok (.aload_n 0, 1) := by decide +kernel
  have d1 : decode prog_12_method_1_code 1 = .ok (.invokespecial 3, 3) := by decide +kernel
  have d4 : decode prog_12_method_1_code 4 = .ok (.aload_n 0, 1) := by decide +kernel
  have d5 : decode prog_12_method_1_code 5 = .ok (.bipush 40, 2) := by decide +kernel
  have d7 : decode prog_12_method_1_code 7 = .ok (.anewarray 9, 3) := by decide +kernel
  have d10 : decode prog_12_method_1_code 10 = .ok (.putfield 11, 3) := by decide +kernel
  have d13 : decode prog_12_method_1_code 13 = .ok (.aload_n 0, 1) := by decide +kernel
  have d14 : decode prog_12_method_1_code 14 = .ok (.bipush 6, 2) := by decide +kernel
  have d16 : decode prog_12_method_1_code 16 = .ok (.newarray .int, 2) := by decide +kernel
  have d18 : decode prog_12_method_1_code 18 = .ok (.putfield 17, 3) := by decide +kernel
  have d21 : decode prog_12_method_1_code 21 = .ok (.aload_n 0, 1) := by decide +kernel
  have d22 : decode prog_12_method_1_code 22 = .ok (.bipush 6, 2) := by decide +kernel
  have d24 : decode prog_12_method_1_code 24 = .ok (.newarray .int, 2) := by decide +kernel
  have d26 : decode prog_12_method_1_code 26 = .ok (.putfield 21, 3) := by decide +kernel
  have d29 : decode prog_12_method_1_code 29 = .ok (.aload_n 0, 1) := by decide +kernel
  have d30 : decode prog_12_method_1_code 30 = .ok (.bipush 12, 2) := by decide +kernel
  have d32 : decode prog_12_method_1_code 32 = .ok (.newarray .int, 2) := by decide +kernel
  have d34 : decode prog_12_method_1_code 34 = .ok (.putfield 24, 3) := by decide +kernel
  have d37 : decode prog_12_method_1_code 37 = .ok (.aload_n 0, 1) := by decide +kernel
  have d38 : decode prog_12_method_1_code 38 = .ok (.bipush 12, 2) := by decide +kernel
  have d40 : decode prog_12_method_1_code 40 = .ok (.newarray .int, 2) := by decide +kernel
  have d42 : decode prog_12_method_1_code 42 = .ok (.putfield 27, 3) := by decide +kernel
  have d45 : decode prog_12_method_1_code 45 = .ok (.aload_n 0, 1) := by decide +kernel
  have d46 : decode prog_12_method_1_code 46 = .ok (.bipush 12, 2) := by decide +kernel
  have d48 : decode prog_12_method_1_code 48 = .ok (.newarray .int, 2) := by decide +kernel
  have d50 : decode prog_12_method_1_code 50 = .ok (.putfield 30, 3) := by decide +kernel
  have d53 : decode prog_12_method_1_code 53 = .ok (.iconst 0, 1) := by decide +kernel
  have d54 : decode prog_12_method_1_code 54 = .ok (.istore_n 1, 1) := by decide +kernel
  have d55 : decode prog_12_method_1_code 55 = .ok (.iload_n 1, 1) := by decide +kernel
  have d56 : decode prog_12_method_1_code 56 = .ok (.bipush 40, 2) := by decide +kernel
  have d58 : decode prog_12_method_1_code 58 = .ok (.if_icmp .ge 22, 3) := by decide +kernel
  have d61 : decode prog_12_method_1_code 61 = .ok (.aload_n 0, 1) := by decide +kernel
  have d62 : decode prog_12_method_1_code 62 = .ok (.getfield 11, 3) := by decide +kernel
  have d65 : decode prog_12_method_1_code 65 = .ok (.iload_n 1, 1) := by decide +kernel
  have d66 : decode prog_12_method_1_code 66 = .ok (.new 9, 3) := by decide +kernel
  have d69 : decode prog_12_method_1_code 69 = .ok (.dup, 1) := by decide +kernel
  have d70 : decode prog_12_method_1_code 70 = .ok (.invokespecial 33, 3) := by decide +kernel
  have d73 : decode prog_12_method_1_code 73 = .ok (.aastore, 1) := by decide +kernel
  have d74 : decode prog_12_method_1_code 74 = .ok (.iinc 1 1, 3) := by decide +kernel
  have d77 : decode prog_12_method_1_code 77 = .ok (.goto (-22), 3) := by decide +kernel
  have d80 : decode prog_12_method_1_code 80 = .ok (.iconst 0, 1) := by decide +kernel
  have d81 : decode prog_12_method_1_code 81 = .ok (.istore_n 1, 1) := by decide +kernel
  have d82 : decode prog_12_method_1_code 82 = .ok (.iload_n 1, 1) := by decide +kernel
  have d83 : decode prog_12_method_1_code 83 = .ok (.bipush 6, 2) := by decide +kernel
  have d85 : decode prog_12_method_1_code 85 = .ok (.if_icmp .ge 24, 3) := by decide +kernel
  have d88 : decode prog_12_method_1_code 88 = .ok (.aload_n 0, 1) := by decide +kernel
  have d89 : decode prog_12_method_1_code 89 = .ok (.getfield 17, 3) := by decide +kernel
  have d92 : decode prog_12_method_1_code 92 = .ok (.iload_n 1, 1) := by decide +kernel
  have d93 : decode prog_12_method_1_code 93 = .ok (.iconst 1, 1) := by decide +kernel
  have d94 : decode prog_12_method_1_code 94 = .ok (.iastore, 1) := by decide +kernel
  have d95 : decode prog_12_method_1_code 95 = .ok (.aload_n 0, 1) := by decide +kernel
  have d96 : decode prog_12_method_1_code 96 = .ok (.getfield 21, 3) := by decide +kernel
  have d99 : decode prog_12_method_1_code 99 = .ok (.iload_n 1, 1) := by decide +kernel
  have d100 : decode prog_12_method_1_code 100 = .ok (.bipush 10, 2) := by decide +kernel
  have d102 : decode prog_12_method_1_code 102 = .ok (.iastore, 1) := by decide +kernel
  have d103 : decode prog_12_method_1_code 103 = .ok (.iinc 1 1, 3) := by decide +kernel
  have d106 : decode prog_12_method_1_code 106 = .ok (.goto (-24), 3) := by decide +kernel
  have d109 : decode prog_12_method_1_code 109 = .ok (.return_, 1) := by decide +kernel
  refine lv_aload_n hx hb d0 rfl (lv_at hl 0 rfl) ?_
  refine zn_obj hx hb hml hown hts ⟨(zmT1 (i := 35) rfl rfl), (zmT1 (i := 28) rfl rfl), (zmT1 (i := 29) rfl rfl)⟩ hl.1 ⟨by omega, by omega⟩ (Nat.le_of_ble_eq_true rfl) d1 ?_
  refine lv_aload_n hx hb d4 rfl (lv_at hl 0 rfl) ?_
  refine lv_bipush hx hb d5 rfl ?_
  refine zn_anew (N' := 40) (b := 6) hx hb hown hts hro.2.1 hK hP hD hS hA htn (zmT1 (i := 36) rfl rfl) hM (by decide) (by decide) (by decide) (by omega) (by omega) d7 (fun r1 cA1 H1 ws1 hK1 hP1 hD1 hS1 hM1 => ?_)
  have ht4 : (tys ++ [(cA1, FieldType.object "PushedIn$Comer")]).length = 4 := by rw [List.length_append, htn]; rfl
  have hcI4 : (tys ++ [(cA1, FieldType.object "PushedIn$Comer")])[0]? = some (cI, .int) := by rw [List.getElem?_append_left (by omega)]; exact hcI
  have hcB4 : (tys ++ [(cA1, FieldType.object "PushedIn$Comer")])[1]? = some (cB, .byte) := by rw [List.getElem?_append_left (by omega)]; exact hcB
  have hcL4 : (tys ++ [(cA1, FieldType.object "PushedIn$Comer")])[2]? = some (cL, .long) := by rw [List.getElem?_append_left (by omega)]; exact hcL
  refine zn_put (V := (3, 0)) (j := 0) hx hb hts hown hK1 hP1 hD1 hS1 rfl zpU10 (by decide) (zmT1 (i := 130) rfl rfl) (Or.inr ⟨rfl, hnm, rfl⟩) hM1 rfl ⟨Nat.le_of_ble_eq_true rfl, rfl⟩ rfl rfl d10 (fun H2 locs2 ws2 hP2 hD2 hS2 hM2 => ?_)
  refine lv_aload_n hx hb d13 rfl (lv_at hl 0 rfl) ?_
  refine lv_bipush hx hb d14 rfl ?_
  refine zn_newI (N' := 6) hx hb (hts _ (zmT1 (i := 129) rfl rfl)) hK1 hP2 hD2 hS2 hA hcI4 hM2 (by decide) (by decide) (by decide) (by omega) (by omega) d16 (fun r3 H3 ws3 hP3 hD3 hS3 hM3 => ?_)
  refine zn_put (V := (3, 1)) (j := 2) hx hb hts hown hK1 hP3 hD3 hS3 rfl zpU10 (by decide) (zmT1 (i := 140) rfl rfl) (Or.inr ⟨rfl, hnm, rfl⟩) hM3 rfl ⟨Nat.le_of_ble_eq_true rfl, rfl⟩ rfl rfl d18 (fun H4 locs4 ws4 hP4 hD4 hS4 hM4 => ?_)
  refine lv_aload_n hx hb d21 rfl (lv_at hl 0 rfl) ?_
  refine lv_bipush hx hb d22 rfl ?_
  refine zn_newI (N' := 6) hx hb (hts _ (zmT1 (i := 129) rfl rfl)) hK1 hP4 hD4 hS4 hA hcI4 hM4 (by decide) (by decide) (by decide) (by omega) (by omega) d24 (fun r5 H5 ws5 hP5 hD5 hS5 hM5 => ?_)
  refine zn_put (V := (3, 2)) (j := 3) hx hb hts hown hK1 hP5 hD5 hS5 rfl zpU10 (by decide) (zmT1 (i := 143) rfl rfl) (Or.inr ⟨rfl, hnm, rfl⟩) hM5 rfl ⟨Nat.le_of_ble_eq_true rfl, rfl⟩ rfl rfl d26 (fun H6 locs6 ws6 hP6 hD6 hS6 hM6 => ?_)
  refine lv_aload_n hx hb d29 rfl (lv_at hl 0 rfl) ?_
  refine lv_bipush hx hb d30 rfl ?_
  refine zn_newI (N' := 12) hx hb (hts _ (zmT1 (i := 129) rfl rfl)) hK1 hP6 hD6 hS6 hA hcI4 hM6 (by decide) (by decide) (by decide) (by omega) (by omega) d32 (fun r7 H7 ws7 hP7 hD7 hS7 hM7 => ?_)
  refine zn_put (V := (3, 3)) (j := 4) hx hb hts hown hK1 hP7 hD7 hS7 rfl zpU10 (by decide) (zmT1 (i := 145) rfl rfl) (Or.inr ⟨rfl, hnm, rfl⟩) hM7 rfl ⟨Nat.le_of_ble_eq_true rfl, rfl⟩ rfl rfl d34 (fun H8 locs8 ws8 hP8 hD8 hS8 hM8 => ?_)
  refine lv_aload_n hx hb d37 rfl (lv_at hl 0 rfl) ?_
  refine lv_bipush hx hb d38 rfl ?_
  refine zn_newI (N' := 12) hx hb (hts _ (zmT1 (i := 129) rfl rfl)) hK1 hP8 hD8 hS8 hA hcI4 hM8 (by decide) (by decide) (by decide) (by omega) (by omega) d40 (fun r9 H9 ws9 hP9 hD9 hS9 hM9 => ?_)
  refine zn_put (V := (3, 4)) (j := 5) hx hb hts hown hK1 hP9 hD9 hS9 rfl zpU10 (by decide) (zmT1 (i := 146) rfl rfl) (Or.inr ⟨rfl, hnm, rfl⟩) hM9 rfl ⟨Nat.le_of_ble_eq_true rfl, rfl⟩ rfl rfl d42 (fun H10 locs10 ws10 hP10 hD10 hS10 hM10 => ?_)
  refine lv_aload_n hx hb d45 rfl (lv_at hl 0 rfl) ?_
  refine lv_bipush hx hb d46 rfl ?_
  refine zn_newI (N' := 12) hx hb (hts _ (zmT1 (i := 129) rfl rfl)) hK1 hP10 hD10 hS10 hA hcI4 hM10 (by decide) (by decide) (by decide) (by omega) (by omega) d48 (fun r11 H11 ws11 hP11 hD11 hS11 hM11 => ?_)
  refine zn_put (V := (3, 5)) (j := 6) hx hb hts hown hK1 hP11 hD11 hS11 rfl zpU10 (by decide) (zmT1 (i := 147) rfl rfl) (Or.inr ⟨rfl, hnm, rfl⟩) hM11 rfl ⟨Nat.le_of_ble_eq_true rfl, rfl⟩ rfl rfl d50 (fun H12 locs12 ws12 hP12 hD12 hS12 hM12 => ?_)
  have hl1 := hl
  have loop2 : ∀ (k : Nat) (i : Int32) (ls : Array Slot) (H : Heap) (locs : List Loc) (ws : va_W) (na : Nat → Nat), (6 - i.toInt).toNat = k → 0 ≤ i.toInt → i.toInt ≤ 6 → lv_has ls 2 [(1, .int i), (0, .ref a)] → va_P D zpcl ws H → va_D A ws → va_S A s.heap H locs → zMW ws0 ws q a na aa (tys ++ [(cA1, FieldType.object "PushedIn$Comer")]) [(3, 0), (1, 0), (3, 1), (3, 2), (3, 3), (3, 4), (3, 5), (1, 0), (1, 0), (1, 0), (1, 0)] 10 ((3, 3, 40, [(0, 6)]) :: ([(1, 0, 6, [(0, 0), (0, 1)]), (1, 0, 6, [(0, 0), (0, 10)]), (1, 0, 12, [(0, 0), (0, 0)]), (1, 0, 12, [(0, 0), (0, 0)]), (1, 0, 12, [(0, 0), (0, 0)])] ++ List.replicate 40 (0, 2, 0, [(1, 0), (1, 0), (1, 0), (1, 0), (1, 0), (1, 0), (1, 0), (1, 0), (1, 0), (1, 0), (1, 0), (1, 0)]))) → zArr ws0 ws na 1 6 (fun j x => (j : Int) < i.toInt → x = 1) → zArr ws0 ws na 2 6 (fun j x => (j : Int) < i.toInt → x = 10) → W p l e R s m args below meth c H locs 46 568 Q (F0 m 82 ls []) := by
    intro k
    induction k using Nat.strongRecOn with
    | ind k ih =>
      intro i ls H locs ws na hk i0 i6 hl hP hD hS hM hX hY
      refine lv_iload_n hx hb d82 rfl (lv_at hl 0 rfl) ?_
      refine lv_bipush hx hb d83 rfl ?_
      refine lv_icmp_ge hx hb d85 (tgt := 109) (by decide) (fun hge => ?_) (fun hlt => ?_)
      · have i9 : 6 ≤ i.toInt := by have h8 := Int32.le_iff_toInt_le.mp hge; have e6 : ((Int8.ofInt 6).toInt32).toInt = 6 := (by decide); omega
        exact hret 109 _ _ _ _ _ [_] d109 rfl hK1 hP hD hS ((hM.same (k := 1) (u1 := 0) (u2 := 0) rfl (hX.congr (fun j x hj h => h (by omega)))).same (k := 2) (u1 := 0) (u2 := 0) rfl (hY.congr (fun j x hj h => h (by omega))))
      · have h6 : i.toInt < 6 := by have := mt Int32.le_iff_toInt_le.mpr hlt; have e6 : ((Int8.ofInt 6).toInt32).toInt = 6 := by decide
                                    omega
        have hin : vp_in i 6 := vp_in_iff.mpr ⟨by omega, by omega⟩
        refine lv_aload_n hx hb d88 rfl (lv_at hl 1 rfl) ?_
        refine zn_get (j := 2) (k := 1) hx hb hts hown hK1 hP rfl zpU10 (by decide) (zmT1 (i := 140) rfl rfl) hM rfl d89 ?_
        refine lv_iload_n hx hb d92 rfl (lv_at hl 0 rfl) ?_
        refine lv_iconst hx hb d93 rfl ?_
        refine zn_istE (v := 1) (k := 1) hx hb hK1 hP hD hS hM rfl hin (by decide) (by decide) (by decide) d94 (fun H1 locs1 ws1 hP1 hD1 hS1 hM1 hE1 hO1 => ?_)
        refine lv_aload_n hx hb d95 rfl (lv_at hl 1 rfl) ?_
        refine zn_get (j := 3) (k := 2) hx hb hts hown hK1 hP1 rfl zpU10 (by decide) (zmT1 (i := 143) rfl rfl) hM1 rfl d96 ?_
        refine lv_iload_n hx hb d99 rfl (lv_at hl 0 rfl) ?_
        refine lv_bipush hx hb d100 rfl ?_
        refine zn_istE (v := 10) (k := 2) hx hb hK1 hP1 hD1 hS1 hM1 rfl hin (by decide) (by decide) (by decide) d102 (fun H2 locs2 ws2 hP2 hD2 hS2 hM2 hE2 hO2 => ?_)
        refine lv_iinc hx hb d103 hl (k := 0) rfl rfl (by decide) rfl (fun ls3 hl3 => ?_)
        refine lv_goto hx hb d106 (tgt := 82) (by decide) ?_
        have h1 : (i + Int32.ofInt 1).toInt = i.toInt + 1 := by
          rw [Int32.toInt_add, show (Int32.ofInt 1).toInt = 1 from rfl, Int.bmod_eq_of_le (by omega) (by omega)]
        exact ih (6 - (i + Int32.ofInt 1).toInt).toNat (by omega) _ ls3 H2 locs2 ws2 na rfl (by omega) (by omega) hl3 hP2 hD2 hS2 hM2 ((hO2 1 6 _ (by decide) (hE1 _ hX)).congr (fun j y _ h hlt2 => by
        by_cases ej : j = i.toInt.toNat
        · rw [if_pos ej] at h
          exact h
        · rw [if_neg ej] at h
          exact h (by omega))) ((hE2 _ (hO1 2 6 _ (by decide) hY)).congr (fun j y _ h hlt2 => by
        by_cases ej : j = i.toInt.toNat
        · rw [if_pos ej] at h
          exact h
        · rw [if_neg ej] at h
          exact h (by omega)))
  have loop1 : ∀ (k i : Nat) (ls : Array Slot) (H : Heap) (locs : List Loc) (ws : va_W) (na : Nat → Nat), 40 - i = k → i ≤ 40 → lv_has ls 2 [(1, .int (Int32.ofNat i)), (0, .ref a)] → va_P D zpcl ws H → va_D A ws → va_S A s.heap H locs → zMW ws0 ws q a na aa (tys ++ [(cA1, FieldType.object "PushedIn$Comer")]) [(3, 0), (1, 0), (3, 1), (3, 2), (3, 3), (3, 4), (3, 5), (1, 0), (1, 0), (1, 0), (1, 0)] 10 ((5, 3, 40, [(0, 6), (0, ((i : Nat) : Int))]) :: ([(1, 0, 6, [(0, 0), (0, 0)]), (1, 0, 6, [(0, 0), (0, 0)]), (1, 0, 12, [(0, 0), (0, 0)]), (1, 0, 12, [(0, 0), (0, 0)]), (1, 0, 12, [(0, 0), (0, 0)])] ++ List.replicate i (0, 2, 0, [(1, 0), (1, 0), (1, 0), (1, 0), (1, 0), (1, 0), (1, 0), (1, 0), (1, 0), (1, 0), (1, 0), (1, 0)]))) → W p l e R s m args below meth c H locs (6 + i) (88 + 12 * i) Q (F0 m 55 ls []) := by
    intro k
    induction k using Nat.strongRecOn with
    | ind k ih =>
      intro i ls H locs ws na hk i40 hl hP hD hS hM
      have hi : (Int32.ofNat i).toInt = (i : Int) := by
        show (Int32.ofNat i).toInt = _
        rw [Int32.toInt_ofNat_of_lt (by omega)]
      have hic : (Int32.ofNat i).toNatClampNeg = i := by
        show (Int32.ofNat i).toInt.toNat = i
        rw [hi]
        exact Int.toNat_natCast i
      have e40 : ((Int8.ofInt 40).toInt32).toInt = 40 := by decide
      refine lv_iload_n hx hb d55 rfl (lv_at hl 0 rfl) ?_
      refine lv_bipush hx hb d56 rfl ?_
      refine lv_icmp_ge hx hb d58 (tgt := 80) (by decide) (fun hge => ?_) (fun hlt => ?_)
      · have e : i = 40 := by have := Int32.le_iff_toInt_le.mp hge; omega
        subst e
        have hMa := hM.wide (k := 0) (C' := (3, 3, 40, [(0, 6)])) rfl (fun x hx => by
          obtain ⟨cA, f, h1, h2, h3⟩ := hx
          exact ⟨cA, f, h1, h2, Nat.le_of_ble_eq_true rfl, fun j hj => (h3 j hj).2⟩)
        have hMb := hMa.wide (k := 1) (C' := (1, 0, 6, [(0, 0), (0, 1)])) rfl (fun x hx => by
          obtain ⟨cA, f, h1, h2, h3⟩ := hx
          exact ⟨cA, f, h1, h2, fun j hj => ⟨(h3 j hj).1, Int.le_trans (h3 j hj).2 (by decide)⟩⟩)
        have hMc := hMb.wide (k := 2) (C' := (1, 0, 6, [(0, 0), (0, 10)])) rfl (fun x hx => by
          obtain ⟨cA, f, h1, h2, h3⟩ := hx
          exact ⟨cA, f, h1, h2, fun j hj => ⟨(h3 j hj).1, Int.le_trans (h3 j hj).2 (by decide)⟩⟩)
        refine lv_iconst hx hb d80 rfl ?_
        refine lv_istore_n hx hb d81 rfl hl (by decide) rfl (fun ls3 hl3 => ?_)
        exact loop2 _ 0 ls3 H locs ws na rfl (by decide) (by decide) hl3 hP hD hS hMc (zArr.of hMc (k := 1) rfl (fun j x _ _ _ h => absurd h (by have e0 : (0 : Int32).toInt = 0 := (by decide); omega))) (zArr.of hMc (k := 2) rfl (fun j x _ _ _ h => absurd h (by have e0 : (0 : Int32).toInt = 0 := (by decide); omega)))
      · have h40 : i < 40 := by have := mt Int32.le_iff_toInt_le.mpr hlt; omega
        have hin : vp_in (Int32.ofNat i) 40 := vp_in_iff.mpr ⟨by omega, by omega⟩
        have hlen : (((5, 3, 40, [(0, 6), (0, ((i : Nat) : Int))]) :: ([(1, 0, 6, [(0, 0), (0, 0)]), (1, 0, 6, [(0, 0), (0, 0)]), (1, 0, 12, [(0, 0), (0, 0)]), (1, 0, 12, [(0, 0), (0, 0)]), (1, 0, 12, [(0, 0), (0, 0)])] ++ List.replicate i (0, 2, 0, [(1, 0), (1, 0), (1, 0), (1, 0), (1, 0), (1, 0), (1, 0), (1, 0), (1, 0), (1, 0), (1, 0), (1, 0)]))) : List zMC).length = 6 + i := by simp; omega
        refine lv_aload_n hx hb d61 rfl (lv_at hl 1 rfl) ?_
        refine zn_get (j := 0) (k := 0) hx hb hts hown hK1 hP rfl zpU10 (by decide) (zmT1 (i := 130) rfl rfl) hM rfl d62 ?_
        refine lv_iload_n hx hb d65 rfl (lv_at hl 0 rfl) ?_
        refine zn_new (C := "PushedIn$Comer") (cj := 2) (N := 12) (fs := [.int 0, .int 0, .int 0, .int 0, .int 0, .int 0, .int 0, .int 0, .int 0, .int 0, .int 0, .int 0]) (F1 := [(1, 0), (1, 0), (1, 0), (1, 0), (1, 0), (1, 0), (1, 0), (1, 0), (1, 0), (1, 0), (1, 0), (1, 0)]) hx hb hts hown hK1 hP hD hS hA rfl zpU2 ⟨(zmT1 (i := 36) rfl rfl), (zmT1 (i := 38) rfl rfl), (zmT1 (i := 3) rfl rfl)⟩ hM (by decide) (fun a na aa len => ⟨rfl, zdef_2⟩) (by omega) (by omega) d66 (fun r H1 ws1 hP1 hD1 hS1 hM1 => ?_)
        refine lv_dup hx hb d69 rfl ?_
        have hk0 : (((5, 3, 40, [(0, 6), (0, ((i : Nat) : Int))]) :: ([(1, 0, 6, [(0, 0), (0, 0)]), (1, 0, 6, [(0, 0), (0, 0)]), (1, 0, 12, [(0, 0), (0, 0)]), (1, 0, 12, [(0, 0), (0, 0)]), (1, 0, 12, [(0, 0), (0, 0)])] ++ List.replicate i (0, 2, 0, [(1, 0), (1, 0), (1, 0), (1, 0), (1, 0), (1, 0), (1, 0), (1, 0), (1, 0), (1, 0), (1, 0), (1, 0)]))) ++ [(0, 2, 0, [(1, 0), (1, 0), (1, 0), (1, 0), (1, 0), (1, 0), (1, 0), (1, 0), (1, 0), (1, 0), (1, 0), (1, 0)])] : List zMC)[6 + i]? = some (0, 2, 0, [(1, 0), (1, 0), (1, 0), (1, 0), (1, 0), (1, 0), (1, 0), (1, 0), (1, 0), (1, 0), (1, 0), (1, 0)]) := by
          rw [← hlen, List.getElem?_append_right (Nat.le_refl _), Nat.sub_self]
          rfl
        refine zn_ctor (n := 0) (k0 := 6 + i) (r := r) (aa2 := (fun i => 0)) (avs := []) hx hb hml hown hts zTs_good zpRO2_ok hro hA hK1 hP1 hD1 hS1 zc_Comer ⟨ht4, cI, cB, cL, hcI4, hcB4, hcL4⟩ hM1 hk0 (by rw [← hlen]; exact zna_self) (by decide) (fun i hi => absurd hi (Nat.not_lt_zero i)) (by decide) (by decide) (Or.inr (hro.1.2.2.2.2.1 ("PushedIn$Yard", 33, ⟨"PushedIn$Comer", "<init>", "()V"⟩) (List.mem_of_getElem? (i := 0) rfl))) ⟨(zmT1 (i := 40) rfl rfl), (zmT1 (i := 3) rfl rfl), (zmT1 (i := 41) rfl rfl), by decide, by decide, by decide +kernel⟩ rfl hl.1 ⟨by omega, by omega⟩ (Nat.le_of_ble_eq_true rfl) d70 ⟨by omega, by omega⟩ (fun H2 locs2 ws2 na2 xs2 hx2 hK2 hP2 hD2 hS2 hn2 hM2 => ?_)
        have e0 : xs2 = [] := List.map_eq_nil_iff.mp hx2
        subst e0
        rw [List.append_nil] at hK2 hM2
        rw [show (List.map (zmapC (6 + i) _ []) ([] : List zMC)) = [] from rfl, List.append_nil] at hM2
        have hmp : ∀ k0 len : Nat, List.map (zmapV k0 len []) ([(1, 0), (1, 0), (1, 0), (1, 0), (1, 0), (1, 0), (1, 0), (1, 0), (1, 0), (1, 0), (1, 0), (1, 0)] : List zMV) = [(1, 0), (1, 0), (1, 0), (1, 0), (1, 0), (1, 0), (1, 0), (1, 0), (1, 0), (1, 0), (1, 0), (1, 0)] := fun _ _ => rfl
        rw [hmp, zset_self hk0] at hM2
        have hna0 : na2 0 = na 0 := by rw [hn2 0 (by rw [List.length_append, hlen]; omega)]; exact zna_lt (by rw [hlen]; omega)
        have hnar : na2 (6 + i) = r := by rw [hn2 (6 + i) (by rw [List.length_append, hlen]; exact Nat.lt_succ_self _), ← hlen]; exact zna_self
        rw [← hna0, ← hnar]
        refine zn_ast (k := 0) (kv := 6 + i) (b := 6) (cnt := i) (T := zpX2) (N := 12) hx hb hK2 hP2 hD2 hS2 hM2 rfl hk0 rfl rfl hic hin d73 (fun H3 locs3 ws3 hP3 hD3 hS3 hM3 => ?_)
        refine lv_iinc hx hb d74 hl (k := 0) rfl rfl (by decide) rfl (fun ls3 hl3 => ?_)
        refine lv_goto hx hb d77 (tgt := 55) (by decide) ?_
        have hadd : Int32.ofNat i + Int32.ofInt 1 = Int32.ofNat (i + 1) := by
          apply Int32.toInt_inj.mp
          rw [Int32.toInt_add, hi, show (Int32.ofInt 1).toInt = 1 from rfl, Int.bmod_eq_of_le (by omega) (by omega), Int32.toInt_ofNat_of_lt (by omega)]
          omega
        rw [hadd] at hl3
        refine W.cs (cells' := 6 + (i + 1)) (slots' := 88 + 12 * (i + 1)) (by omega) (by omega) ?_
        refine ih (40 - (i + 1)) (by omega) (i + 1) ls3 H3 locs3 ws3 na2 rfl (by omega) hl3 hP3 hD3 hS3 ?_
        rw [List.replicate_succ']
        exact hM3
  refine lv_iconst hx hb d53 rfl ?_
  refine lv_istore_n hx hb d54 rfl hl (by decide) rfl (fun ls3 hl3 => ?_)
  exact loop1 _ 0 ls3 _ _ _ _ rfl (by decide) hl3 hP12 hD12 hS12 hM12
