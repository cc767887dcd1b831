/-! THE PLACE OF A SIGN AMONG THE NAMES -/
/-- the place of a sign among the names -/
def yNX (v r : Int) : Prop := (r = -1 ∧ v ≠ 119 ∧ v ≠ 115 ∧ v ≠ 109 ∧ v ≠ 108 ∧ v ≠ 110 ∧ v ≠ 100 ∧ v ≠ 97 ∧ v ≠ 98) ∨ (r = 0 ∧ v = 119) ∨ (r = 1 ∧ v = 115) ∨ (r = 2 ∧ v = 109) ∨ (r = 3 ∧ v = 108) ∨ (r = 4 ∧ v = 110) ∨ (r = 5 ∧ v = 100) ∨ (r = 6 ∧ v = 97) ∨ (r = 7 ∧ v = 98)
def yTB (j : Nat) : Int32 := ([119, 115, 109, 108, 110, 100, 97, 98] : List Int32).getD j 0
theorem yb8 {x : Int32} (h0 : 0 ≤ x.toInt ∧ x.toInt ≤ 255) : (x.toInt < 128 ∧ x.toInt8.toInt32.toInt = x.toInt) ∨ (128 ≤ x.toInt ∧ x.toInt8.toInt32.toInt = x.toInt - 256) := by
  rw [Int8.toInt_toInt32, Int32.toInt_toInt8]
  by_cases h : x.toInt < 128
  · exact Or.inl ⟨h, Int.bmod_eq_of_le (by omega) (by omega)⟩
  · refine Or.inr ⟨by omega, ?_⟩
    unfold Int.bmod
    have e1 : x.toInt % ((256 : Nat) : Int) = x.toInt := Int.emod_eq_of_lt (by omega) (by omega)
    simp only [e1]
    split <;> omega
theorem yNX_no {x : Int32} (h0 : 0 ≤ x.toInt ∧ x.toInt ≤ 255) (h : ∀ j : Nat, j < 8 → yTB j ≠ x.toInt8.toInt32) : yNX x.toInt (-1) := by
  have hb := yb8 h0
  refine Or.inl ⟨rfl, ?_, ?_, ?_, ?_, ?_, ?_, ?_, ?_⟩
  · intro e
    refine h 0 (by decide) (Int32.toInt_inj.mp ?_)
    have e2 : (yTB 0).toInt = 119 := by decide
    omega
  · intro e
    refine h 1 (by decide) (Int32.toInt_inj.mp ?_)
    have e2 : (yTB 1).toInt = 115 := by decide
    omega
  · intro e
    refine h 2 (by decide) (Int32.toInt_inj.mp ?_)
    have e2 : (yTB 2).toInt = 109 := by decide
    omega
  · intro e
    refine h 3 (by decide) (Int32.toInt_inj.mp ?_)
    have e2 : (yTB 3).toInt = 108 := by decide
    omega
  · intro e
    refine h 4 (by decide) (Int32.toInt_inj.mp ?_)
    have e2 : (yTB 4).toInt = 110 := by decide
    omega
  · intro e
    refine h 5 (by decide) (Int32.toInt_inj.mp ?_)
    have e2 : (yTB 5).toInt = 100 := by decide
    omega
  · intro e
    refine h 6 (by decide) (Int32.toInt_inj.mp ?_)
    have e2 : (yTB 6).toInt = 97 := by decide
    omega
  · intro e
    refine h 7 (by decide) (Int32.toInt_inj.mp ?_)
    have e2 : (yTB 7).toInt = 98 := by decide
    omega
theorem yNX_yes {x : Int32} (h0 : 0 ≤ x.toInt ∧ x.toInt ≤ 255) {i : Nat} (hi : i < 8) (h : yTB i = x.toInt8.toInt32) : yNX x.toInt (i : Int) := by
  have hb := yb8 h0
  rw [← h] at hb
  have hi : i = 0 ∨ i = 1 ∨ i = 2 ∨ i = 3 ∨ i = 4 ∨ i = 5 ∨ i = 6 ∨ i = 7 := by omega
  unfold yNX
  rcases hi with rfl | rfl | rfl | rfl | rfl | rfl | rfl | rfl
  · have e2 : (yTB 0).toInt = 119 := by decide
    rw [e2] at hb
    omega
  · have e2 : (yTB 1).toInt = 115 := by decide
    rw [e2] at hb
    omega
  · have e2 : (yTB 2).toInt = 109 := by decide
    rw [e2] at hb
    omega
  · have e2 : (yTB 3).toInt = 108 := by decide
    rw [e2] at hb
    omega
  · have e2 : (yTB 4).toInt = 110 := by decide
    rw [e2] at hb
    omega
  · have e2 : (yTB 5).toInt = 100 := by decide
    rw [e2] at hb
    omega
  · have e2 : (yTB 6).toInt = 97 := by decide
    rw [e2] at hb
    omega
  · have e2 : (yTB 7).toInt = 98 := by decide
    rw [e2] at hb
    omega
theorem zst_canX (x : Int32) (h0 : 0 ≤ x.toInt ∧ x.toInt ≤ 255) {l : Launch} {Ts : List Cond} {RO : zRO} : zPu l Ts RO (⟨"java/lang/StringLatin1", "canEncode", "(I)Z"⟩ : MethodName) prog_19_method_4_code 1 (some .boolean) 1 40 (fun _ As => As = [.int x]) (fun r => r = 1) := by
  refine zpu_of (by decide +kernel) (fun ad As h => by subst h; exact Nat.le_refl _) ?_
  intro p e R s m args below meth c A ad As ls hPa hx hb hr hlocks hml hown hts hro hfr hlo hl
  subst hPa
  have d0 : decode prog_19_method_4_code 0 = .ok (.iload_n 0, 1) := by decide +kernel
  have d1 : decode prog_19_method_4_code 1 = .ok (.ifCond .lt 14, 3) := by decide +kernel
  have d4 : decode prog_19_method_4_code 4 = .ok (.iload_n 0, 1) := by decide +kernel
  have d5 : decode prog_19_method_4_code 5 = .ok (.sipush 255, 3) := by decide +kernel
  have d8 : decode prog_19_method_4_code 8 = .ok (.if_icmp .gt 7, 3) := by decide +kernel
  have d11 : decode prog_19_method_4_code 11 = .ok (.iconst 1, 1) := by decide +kernel
  have d12 : decode prog_19_method_4_code 12 = .ok (.goto 4, 3) := by decide +kernel
  have d15 : decode prog_19_method_4_code 15 = .ok (.iconst 0, 1) := by decide +kernel
  have d16 : decode prog_19_method_4_code 16 = .ok (.ireturn, 1) := by decide +kernel
  have g0 := lv_at hl 0 rfl
  refine lv_iload_n hx hb d0 rfl g0 ?_
  refine lv_if_lt hx hb d1 (tgt := 15) (by decide) (fun h => absurd (zlt0.mp h) (by omega)) (fun _ => ?_)
  refine lv_iload_n hx hb d4 rfl g0 ?_
  refine lv_sipush hx hb d5 rfl ?_
  refine lv_icmp_gt hx hb d8 (tgt := 15) (by decide) (fun h => absurd (Int32.lt_iff_toInt_lt.mp h) (by
    have e : ((Int16.ofInt 255).toInt32).toInt = 255 := by decide
    omega)) (fun _ => ?_)
  refine lv_iconst hx hb d11 rfl ?_
  refine lv_goto hx hb d12 (tgt := 16) (by decide) ?_
  exact W.zret hx hb hr (by decide) (fun t ht _ => ⟨⟨_, rfl, rfl⟩, ht⟩) (fun q hq => by cases hq) d16 hlocks
theorem zst_iocX (x : Int32) (h0 : 0 ≤ x.toInt ∧ x.toInt ≤ 255) {l : Launch} {Ts : List Cond} {RO : zRO} (hS : ∀ ad A s H, RO ad A s H → zStr ad A s H) : zPu l Ts RO (⟨"java/lang/StringLatin1", "indexOfChar", "([BIII)I"⟩ : MethodName) prog_19_method_23_code 6 (some .int) 1 40 (fun ad As => As = [.ref (ad 2001), .int x, .int 0, .int 8]) (fun r => yNX x.toInt r.toInt) := by
  refine zpu_of (by decide +kernel) (fun ad As h => by subst h; exact Nat.le_of_ble_eq_true rfl) ?_
  intro p e R s m args below meth c A ad As ls hPa hx hb hr hlocks hml hown hts hro hfr hlo hl
  subst hPa
  have d0 : decode prog_19_method_23_code 0 = .ok (.iload_n 1, 1) := by decide +kernel
  have d1 : decode prog_19_method_23_code 1 = .ok (.i2b, 1) := by decide +kernel
  have d2 : decode prog_19_method_23_code 2 = .ok (.istore 4, 2) := by decide +kernel
  have d4 : decode prog_19_method_23_code 4 = .ok (.iload_n 2, 1) := by decide +kernel
  have d5 : decode prog_19_method_23_code 5 = .ok (.istore 5, 2) := by decide +kernel
  have d7 : decode prog_19_method_23_code 7 = .ok (.iload 5, 2) := by decide +kernel
  have d9 : decode prog_19_method_23_code 9 = .ok (.iload_n 3, 1) := by decide +kernel
  have d10 : decode prog_19_method_23_code 10 = .ok (.if_icmp .ge 21, 3) := by decide +kernel
  have d13 : decode prog_19_method_23_code 13 = .ok (.aload_n 0, 1) := by decide +kernel
  have d14 : decode prog_19_method_23_code 14 = .ok (.iload 5, 2) := by decide +kernel
  have d16 : decode prog_19_method_23_code 16 = .ok (.baload, 1) := by decide +kernel
  have d17 : decode prog_19_method_23_code 17 = .ok (.iload 4, 2) := by decide +kernel
  have d19 : decode prog_19_method_23_code 19 = .ok (.if_icmp .ne 6, 3) := by decide +kernel
  have d22 : decode prog_19_method_23_code 22 = .ok (.iload 5, 2) := by decide +kernel
  have d24 : decode prog_19_method_23_code 24 = .ok (.ireturn, 1) := by decide +kernel
  have d25 : decode prog_19_method_23_code 25 = .ok (.iinc 5 1, 3) := by decide +kernel
  have d28 : decode prog_19_method_23_code 28 = .ok (.goto (-21), 3) := by decide +kernel
  have d31 : decode prog_19_method_23_code 31 = .ok (.iconst (-1), 1) := by decide +kernel
  have d32 : decode prog_19_method_23_code 32 = .ok (.ireturn, 1) := by decide +kernel
  have hT := (hS _ _ _ _ hro).2.2.2.2
  refine lv_iload_n hx hb d0 rfl (lv_at hl 1 rfl) ?_
  refine lv_i2b hx hb d1 rfl ?_
  refine lv_istore hx hb d2 hl (by decide) rfl (fun ls1 hl1 => ?_)
  refine lv_iload_n hx hb d4 rfl (lv_at hl1 3 rfl) ?_
  refine lv_istore hx hb d5 hl1 (by decide) rfl (fun ls2 hl2 => ?_)
  have loop : ∀ (n : Nat) (i : Int32) (ls : Array Slot), (8 - i.toInt).toNat = n → 0 ≤ i.toInt → i.toInt ≤ 8 → (∀ j : Nat, (j : Int) < i.toInt → yTB j ≠ x.toInt8.toInt32) → lv_has ls 6 [(5, .int i), (4, .int x.toInt8.toInt32), (0, .ref (ad 2001)), (1, .int x), (2, .int 0), (3, .int 8)] → W p l e R s m args below meth c s.heap [] 0 0 (MQ below (fun _ st o t => (∃ r : Int32, o = .returned (some (.int r)) ∧ yNX x.toInt r.toInt) ∧ t.heap = st.heap) args s 0 0 A) (F0 m 7 ls []) := by
    intro n
    induction n using Nat.strongRecOn with
    | ind n ih =>
      intro i ls hn i0 i8 hz hl
      refine lv_iload hx hb d7 (lv_at hl 0 rfl) ?_
      refine lv_iload_n hx hb d9 rfl (lv_at hl 5 rfl) ?_
      refine lv_icmp_ge hx hb d10 (tgt := 31) (by decide) (fun hge => ?_) (fun h => ?_)
      · refine lv_iconst hx hb d31 rfl ?_
        have h8 : (8 : Int) ≤ i.toInt := Int32.le_iff_toInt_le.mp hge
        exact W.iret hx hb hr (fun t ht _ => ⟨⟨_, rfl, yNX_no h0 (fun j hj => hz j (by omega))⟩, ht⟩) (fun q hq => by cases hq) d32 hlocks
      · have hlt : i.toInt < 8 := by
          have h9 : ¬ (8 : Int32).toInt ≤ i.toInt := mt Int32.le_iff_toInt_le.mpr h
          have h10 : (8 : Int32).toInt = 8 := by decide
          omega
        have hin : vp_in i 8 := vp_in_iff.mpr ⟨by omega, by omega⟩
        refine lv_aload_n hx hb d13 rfl (lv_at hl 2 rfl) ?_
        refine lv_iload hx hb d14 (lv_at hl 0 rfl) ?_
        refine va_tb hx hb hT va_S.rf hin rfl d16 ?_
        refine lv_iload hx hb d17 (lv_at hl 1 rfl) ?_
        refine lv_icmp_ne hx hb d19 (tgt := 25) (by decide) (fun hne => ?_) (fun heq => ?_)
        · refine lv_iinc hx hb d25 hl (k := 0) rfl rfl (by decide) rfl (fun ls3 hl3 => ?_)
          refine lv_goto hx hb d28 (tgt := 7) (by decide) ?_
          have h1 : (i + Int32.ofInt 1).toInt = i.toInt + 1 := by
            rw [Int32.toInt_add, show (Int32.ofInt 1).toInt = 1 from rfl, Int.bmod_eq_of_le (by omega) (by omega)]
          exact ih (8 - (i + Int32.ofInt 1).toInt).toNat (by omega) _ ls3 rfl (by omega) (by omega) (fun j hj => by
            by_cases e : (j : Int) < i.toInt
            · exact hz j e
            · have ej : i.toNatClampNeg = j := by
                show i.toInt.toNat = j
                omega
              rw [← ej]
              exact hne) hl3
        · refine lv_iload hx hb d22 (lv_at hl 0 rfl) ?_
          have e9 : ((i.toNatClampNeg : Nat) : Int) = i.toInt := by
            show ((i.toInt.toNat : Nat) : Int) = i.toInt
            omega
          have h9 := yNX_yes h0 (i := i.toNatClampNeg) (by omega) heq
          rw [e9] at h9
          exact W.iret hx hb hr (fun t ht _ => ⟨⟨_, rfl, h9⟩, ht⟩) (fun q hq => by cases hq) d24 hlocks
  exact loop _ 0 ls2 rfl (by decide) (by decide) (fun j hj => absurd hj (by show ¬ (j : Int) < 0; omega)) hl2
theorem zst_io1X (x : Int32) (h0 : 0 ≤ x.toInt ∧ x.toInt ≤ 255) {l : Launch} {Ts : List Cond} {RO : zRO} (hS : ∀ ad A s H, RO ad A s H → zStr ad A s H) (hTg : ∀ w ∈ Ts, goodWord w = true) (hR : zROk RO) (hW : ∀ w ∈ zStW, w ∈ Ts) : zPu l Ts RO (⟨"java/lang/StringLatin1", "indexOf", "([BIII)I"⟩ : MethodName) prog_19_method_22_code 4 (some .int) 3 200 (fun ad As => As = [.ref (ad 2001), .int x, .int 0, .int 8]) (fun r => yNX x.toInt r.toInt) := by
  refine zpu_of (by decide +kernel) (fun ad As h => by subst h; exact Nat.le_of_ble_eq_true rfl) ?_
  intro p e R s m args below meth c A ad As ls hPa hx hb hr hlocks hml hown hts hro hfr hlo hl
  subst hPa
  have d0 : decode prog_19_method_22_code 0 = .ok (.iload_n 1, 1) := by decide +kernel
  have d1 : decode prog_19_method_22_code 1 = .ok (.invokestatic 88, 3) := by decide +kernel
  have d4 : decode prog_19_method_22_code 4 = .ok (.ifCond .ne 5, 3) := by decide +kernel
  have d7 : decode prog_19_method_22_code 7 = .ok (.iconst (-1), 1) := by decide +kernel
  have d8 : decode prog_19_method_22_code 8 = .ok (.ireturn, 1) := by decide +kernel
  have d9 : decode prog_19_method_22_code 9 = .ok (.iload_n 2, 1) := by decide +kernel
  have d10 : decode prog_19_method_22_code 10 = .ok (.iconst 0, 1) := by decide +kernel
  have d11 : decode prog_19_method_22_code 11 = .ok (.invokestatic 92, 3) := by decide +kernel
  have d14 : decode prog_19_method_22_code 14 = .ok (.istore_n 2, 1) := by decide +kernel
  have d15 : decode prog_19_method_22_code 15 = .ok (.iload_n 3, 1) := by decide +kernel
  have d16 : decode prog_19_method_22_code 16 = .ok (.aload_n 0, 1) := by decide +kernel
  have d17 : decode prog_19_method_22_code 17 = .ok (.arraylength, 1) := by decide +kernel
  have d18 : decode prog_19_method_22_code 18 = .ok (.invokestatic 38, 3) := by decide +kernel
  have d21 : decode prog_19_method_22_code 21 = .ok (.istore_n 3, 1) := by decide +kernel
  have d22 : decode prog_19_method_22_code 22 = .ok (.iload_n 2, 1) := by decide +kernel
  have d23 : decode prog_19_method_22_code 23 = .ok (.iload_n 3, 1) := by decide +kernel
  have d24 : decode prog_19_method_22_code 24 = .ok (.if_icmp .lt 5, 3) := by decide +kernel
  have d27 : decode prog_19_method_22_code 27 = .ok (.iconst (-1), 1) := by decide +kernel
  have d28 : decode prog_19_method_22_code 28 = .ok (.ireturn, 1) := by decide +kernel
  have d29 : decode prog_19_method_22_code 29 = .ok (.aload_n 0, 1) := by decide +kernel
  have d30 : decode prog_19_method_22_code 30 = .ok (.iload_n 1, 1) := by decide +kernel
  have d31 : decode prog_19_method_22_code 31 = .ok (.iload_n 2, 1) := by decide +kernel
  have d32 : decode prog_19_method_22_code 32 = .ok (.iload_n 3, 1) := by decide +kernel
  have d33 : decode prog_19_method_22_code 33 = .ok (.invokestatic 95, 3) := by decide +kernel
  have d36 : decode prog_19_method_22_code 36 = .ok (.ireturn, 1) := by decide +kernel
  have hT := (hS _ _ _ _ hro).2.2.2.2
  refine lv_iload_n hx hb d0 rfl (lv_at hl 1 rfl) ?_
  refine zpu_callS (n := 1) (As := [.int x]) (restc := []) hx hb ⟨Nat.zero_le _, Nat.zero_le _⟩ hml hown hts hTg hR hro va_S.rf (zst_canX x h0) rfl d1 ⟨(hW _ (List.mem_of_getElem? (i := 0) rfl)), (hW _ (List.mem_of_getElem? (i := 1) rfl)), (hW _ (List.mem_of_getElem? (i := 2) rfl)), (hW _ (List.mem_of_getElem? (i := 3) rfl)), by decide, by decide, by decide +kernel⟩ rfl hl.1 ⟨by omega, by omega⟩ (by decide) (fun r locs1 hr1 hS1 => ?_)
  refine lv_if_ne hx hb d4 (tgt := 9) (by decide) (fun _ => ?_) (fun hz => absurd (hr1.symm.trans hz) (by decide))
  · refine lv_iload_n hx hb d9 rfl (lv_at hl 2 rfl) ?_
    refine lv_iconst hx hb d10 rfl ?_
    refine va_mmax hx hb (hml.trans hl.1.symm) hown (hts _ (hW _ (List.mem_of_getElem? (i := 4) rfl))) (hts _ (hW _ (List.mem_of_getElem? (i := 5) rfl))) (hts _ (hW _ (List.mem_of_getElem? (i := 6) rfl))) (hts _ (hW _ (List.mem_of_getElem? (i := 7) rfl))) (by omega) (by show 0 + 13 ≤ _; omega) (Nat.zero_le _) (Nat.zero_le _) d11 ?_
    refine lv_istore_n hx hb d14 rfl hl (by decide) rfl (fun ls1 hl1 => ?_)
    refine lv_iload_n hx hb d15 rfl (lv_at hl1 3 rfl) ?_
    refine lv_aload_n hx hb d16 rfl (lv_at hl1 1 rfl) ?_
    refine va_tlen hx hb hT hS1 rfl d17 ?_
    refine va_mmin hx hb (hml.trans hl1.1.symm) hown (hts _ (hW _ (List.mem_of_getElem? (i := 8) rfl))) (hts _ (hW _ (List.mem_of_getElem? (i := 9) rfl))) (hts _ (hW _ (List.mem_of_getElem? (i := 6) rfl))) (hts _ (hW _ (List.mem_of_getElem? (i := 10) rfl))) (by omega) (by show 0 + 13 ≤ _; omega) (Nat.zero_le _) (Nat.zero_le _) d18 ?_
    refine lv_istore_n hx hb d21 rfl hl1 (by decide) rfl (fun ls2 hl2 => ?_)
    refine lv_iload_n hx hb d22 rfl (lv_at hl2 1 rfl) ?_
    refine lv_iload_n hx hb d23 rfl (lv_at hl2 0 rfl) ?_
    refine lv_icmp_lt hx hb d24 (tgt := 29) (by decide) (fun _ => ?_) (fun h => absurd (by decide) h)
    · refine lv_aload_n hx hb d29 rfl (lv_at hl2 2 rfl) ?_
      refine lv_iload_n hx hb d30 rfl (lv_at hl2 3 rfl) ?_
      refine lv_iload_n hx hb d31 rfl (lv_at hl2 1 rfl) ?_
      refine lv_iload_n hx hb d32 rfl (lv_at hl2 0 rfl) ?_
      refine zpu_callS (n := 4) (As := [.ref (ad 2001), .int x, .int 0, .int 8]) (restc := []) hx hb ⟨Nat.zero_le _, Nat.zero_le _⟩ hml hown hts hTg hR hro hS1 (zst_iocX x h0 hS) rfl d33 ⟨(hW _ (List.mem_of_getElem? (i := 11) rfl)), (hW _ (List.mem_of_getElem? (i := 1) rfl)), (hW _ (List.mem_of_getElem? (i := 12) rfl)), (hW _ (List.mem_of_getElem? (i := 13) rfl)), by decide, by decide, by decide +kernel⟩ rfl hl2.1 ⟨by omega, by omega⟩ (by decide) (fun r locs2 hr2 hS2 => ?_)
      exact W.iret hx hb hr (fun t ht _ => ⟨⟨_, rfl, hr2⟩, ht⟩) hS2.2.2 d36 hlocks
theorem zst_io2X (x : Int32) (h0 : 0 ≤ x.toInt ∧ x.toInt ≤ 255) {l : Launch} {Ts : List Cond} {RO : zRO} (hS : ∀ ad A s H, RO ad A s H → zStr ad A s H) (hTg : ∀ w ∈ Ts, goodWord w = true) (hR : zROk RO) (hW : ∀ w ∈ zStW, w ∈ Ts) : zPu l Ts RO (⟨"java/lang/String", "indexOf", "(II)I"⟩ : MethodName) prog_18_method_80_code 3 (some .int) 5 400 (fun ad As => As = [.ref (ad 2000), .int x, .int 0]) (fun r => yNX x.toInt r.toInt) := by
  refine zpu_of (by decide +kernel) (fun ad As h => by subst h; exact Nat.le_of_ble_eq_true rfl) ?_
  intro p e R s m args below meth c A ad As ls hPa hx hb hr hlocks hml hown hts hro hfr hlo hl
  subst hPa
  have d0 : decode prog_18_method_80_code 0 = .ok (.aload_n 0, 1) := by decide +kernel
  have d1 : decode prog_18_method_80_code 1 = .ok (.invokevirtual 492, 3) := by decide +kernel
  have d4 : decode prog_18_method_80_code 4 = .ok (.ifCond .eq 19, 3) := by decide +kernel
  have d7 : decode prog_18_method_80_code 7 = .ok (.aload_n 0, 1) := by decide +kernel
  have d8 : decode prog_18_method_80_code 8 = .ok (.getfield 9, 3) := by decide +kernel
  have d11 : decode prog_18_method_80_code 11 = .ok (.iload_n 1, 1) := by decide +kernel
  have d12 : decode prog_18_method_80_code 12 = .ok (.iload_n 2, 1) := by decide +kernel
  have d13 : decode prog_18_method_80_code 13 = .ok (.aload_n 0, 1) := by decide +kernel
  have d14 : decode prog_18_method_80_code 14 = .ok (.invokevirtual 505, 3) := by decide +kernel
  have d17 : decode prog_18_method_80_code 17 = .ok (.invokestatic 637, 3) := by decide +kernel
  have d20 : decode prog_18_method_80_code 20 = .ok (.goto 16, 3) := by decide +kernel
  have d36 : decode prog_18_method_80_code 36 = .ok (.ireturn, 1) := by decide +kernel
  obtain ⟨h1, h2, h3, h4, h5⟩ := hS _ _ _ _ hro
  have hrv : ∀ {H : Heap} {locs : List Loc}, va_S A s.heap H locs → ∃ cell : Cell, H[ad 2000]? = some cell ∧ cell.vm.isStatics = false ∧ s.vm.findClass "java/lang/String" = some cell.cls := fun hS1 => by
    obtain ⟨cell, q1, q2, q3, -⟩ := h2.kept hS1.2.1
    exact ⟨cell, q1, q2, q3⟩
  refine lv_aload_n hx hb d0 rfl (lv_at hl 0 rfl) ?_
  refine zpu_callV (n := 0) (As := []) hx hb ⟨Nat.zero_le _, Nat.zero_le _⟩ hml hown hts hTg hR hro va_S.rf (zst_lat hS hW) rfl (hrv va_S.rf) d1 ⟨(hW _ (List.mem_of_getElem? (i := 22) rfl)), (hW _ (List.mem_of_getElem? (i := 23) rfl)), (hW _ (List.mem_of_getElem? (i := 24) rfl)), (hW _ (List.mem_of_getElem? (i := 20) rfl)), (hW _ (List.mem_of_getElem? (i := 25) rfl)), by decide, by decide, by decide +kernel⟩ rfl hl.1 ⟨by omega, by omega⟩ (by decide) (fun r locs1 hr1 hS1 => ?_)
  subst hr1
  refine lv_if_eq hx hb d4 (tgt := 23) (by decide) (fun h => absurd h (by decide)) (fun _ => ?_)
  refine lv_aload_n hx hb d7 rfl (lv_at hl 0 rfl) ?_
  refine vk_getf hx hb h4 hS1 hown (hts _ (hW _ (List.mem_of_getElem? (i := 16) rfl))) (fun x h => h) d8 ?_
  refine lv_iload_n hx hb d11 rfl (lv_at hl 1 rfl) ?_
  refine lv_iload_n hx hb d12 rfl (lv_at hl 2 rfl) ?_
  refine lv_aload_n hx hb d13 rfl (lv_at hl 0 rfl) ?_
  refine zpu_callV (n := 0) (As := []) hx hb ⟨Nat.zero_le _, Nat.zero_le _⟩ hml hown hts hTg hR hro hS1 (zst_len hS hTg hR hW) rfl (hrv hS1) d14 ⟨(hW _ (List.mem_of_getElem? (i := 26) rfl)), (hW _ (List.mem_of_getElem? (i := 27) rfl)), (hW _ (List.mem_of_getElem? (i := 28) rfl)), (hW _ (List.mem_of_getElem? (i := 20) rfl)), (hW _ (List.mem_of_getElem? (i := 29) rfl)), by decide, by decide, by decide +kernel⟩ rfl hl.1 ⟨by omega, by omega⟩ (Nat.le_of_ble_eq_true rfl) (fun r locs2 hr2 hS2 => ?_)
  subst hr2
  refine zpu_callS (n := 4) (As := [.ref (ad 2001), .int x, .int 0, .int 8]) (restc := []) hx hb ⟨Nat.zero_le _, Nat.zero_le _⟩ hml hown hts hTg hR hro hS2 (zst_io1X x h0 hS hTg hR hW) rfl d17 ⟨(hW _ (List.mem_of_getElem? (i := 30) rfl)), (hW _ (List.mem_of_getElem? (i := 1) rfl)), (hW _ (List.mem_of_getElem? (i := 31) rfl)), (hW _ (List.mem_of_getElem? (i := 32) rfl)), by decide, by decide, by decide +kernel⟩ rfl hl.1 ⟨by omega, by omega⟩ (by decide) (fun r locs3 hr3 hS3 => ?_)
  refine lv_goto hx hb d20 (tgt := 36) (by decide) ?_
  exact W.iret hx hb hr (fun t ht _ => ⟨⟨_, rfl, hr3⟩, ht⟩) hS3.2.2 d36 hlocks
theorem zst_ioX (x : Int32) (h0 : 0 ≤ x.toInt ∧ x.toInt ≤ 255) {l : Launch} {Ts : List Cond} {RO : zRO} (hS : ∀ ad A s H, RO ad A s H → zStr ad A s H) (hTg : ∀ w ∈ Ts, goodWord w = true) (hR : zROk RO) (hW : ∀ w ∈ zStW, w ∈ Ts) : zPu l Ts RO (⟨"java/lang/String", "indexOf", "(I)I"⟩ : MethodName) prog_18_method_79_code 2 (some .int) 6 500 (fun ad As => As = [.ref (ad 2000), .int x]) (fun r => yNX x.toInt r.toInt) := by
  refine zpu_of (by decide +kernel) (fun ad As h => by subst h; exact Nat.le_of_ble_eq_true rfl) ?_
  intro p e R s m args below meth c A ad As ls hPa hx hb hr hlocks hml hown hts hro hfr hlo hl
  subst hPa
  have d0 : decode prog_18_method_79_code 0 = .ok (.aload_n 0, 1) := by decide +kernel
  have d1 : decode prog_18_method_79_code 1 = .ok (.iload_n 1, 1) := by decide +kernel
  have d2 : decode prog_18_method_79_code 2 = .ok (.iconst 0, 1) := by decide +kernel
  have d3 : decode prog_18_method_79_code 3 = .ok (.invokevirtual 633, 3) := by decide +kernel
  have d6 : decode prog_18_method_79_code 6 = .ok (.ireturn, 1) := by decide +kernel
  obtain ⟨h1, h2, h3, h4, h5⟩ := hS _ _ _ _ hro
  have hrv : ∀ {H : Heap} {locs : List Loc}, va_S A s.heap H locs → ∃ cell : Cell, H[ad 2000]? = some cell ∧ cell.vm.isStatics = false ∧ s.vm.findClass "java/lang/String" = some cell.cls := fun hS1 => by
    obtain ⟨cell, q1, q2, q3, -⟩ := h2.kept hS1.2.1
    exact ⟨cell, q1, q2, q3⟩
  refine lv_aload_n hx hb d0 rfl (lv_at hl 0 rfl) ?_
  refine lv_iload_n hx hb d1 rfl (lv_at hl 1 rfl) ?_
  refine lv_iconst hx hb d2 rfl ?_
  refine zpu_callV (n := 2) (As := [.int x, .int 0]) (restc := []) hx hb ⟨Nat.zero_le _, Nat.zero_le _⟩ hml hown hts hTg hR hro va_S.rf (zst_io2X x h0 hS hTg hR hW) rfl (hrv va_S.rf) d3 ⟨(hW _ (List.mem_of_getElem? (i := 33) rfl)), (hW _ (List.mem_of_getElem? (i := 34) rfl)), (hW _ (List.mem_of_getElem? (i := 35) rfl)), (hW _ (List.mem_of_getElem? (i := 20) rfl)), (hW _ (List.mem_of_getElem? (i := 36) rfl)), by decide, by decide, by decide +kernel⟩ rfl hl.1 ⟨by omega, by omega⟩ (by decide) (fun r locs1 hr1 hS1 => ?_)
  exact W.iret hx hb hr (fun t ht _ => ⟨⟨_, rfl, hr1⟩, ht⟩) hS1.2.2 d6 hlocks
def zRowIX (RO : zRO) (own : String) (Ts : List Cond) (idx : Nat) (x : Int32) : Prop := ∀ (p : Program) (l : Launch) (e : Env) (R : Room) (s : State) (m : MethodId) (args : Array Value) (below : List Frame) (meth : Method) (c : Code) (Q : State → Prop) (cc : ByteArray) (A : Nat → Prop) (ad : Nat → Nat) (pc : Nat) (H : Heap) (locs : List Loc) (ls : Array Slot) (rest : List Value) (ce sl : Nat) (nL : Nat), p.tables.exec = Jvm.exec → c.code = cc → c.maxLocals = nL → s.vm.findClass own = some m.cls → (∀ w ∈ Ts, w.before args s = true) → RO ad A s s.heap → 20 ≤ R.frames → 1000 ≤ R.locals → ce ≤ R.cells ∧ sl ≤ R.slots → decode cc pc = .ok (.invokevirtual idx, 3) → va_S A s.heap H locs → ls.size = nL → (rest.map fun v => v.category).sum ≤ 8 →
  (∀ (r : Int32) (locs1 : List Loc), yNX x.toInt r.toInt → va_S A s.heap H locs1 → W p l e R s m args below meth c H locs1 ce sl Q (F0 m (pc + 3) ls (.int r :: rest))) → W p l e R s m args below meth c H locs ce sl Q (F0 m pc ls (.int x :: .ref (ad 2000) :: rest))
theorem zrowIX (x : Int32) (h0 : 0 ≤ x.toInt ∧ x.toInt ≤ 255) {Ts : List Cond} {RO : zRO} {own : String} {idx : Nat} (hS : ∀ ad A s H, RO ad A s H → zStr ad A s H) (hTg : ∀ w ∈ Ts, goodWord w = true) (hR : zROk RO) (hW : ∀ w ∈ zStW, w ∈ Ts) (hl : Cond.methodLink own idx (⟨"java/lang/String", "indexOf", "(I)I"⟩ : MethodName) ∈ Ts) : zRowIX RO own Ts idx x := by
  intro p l e R s m args below meth c Q cc A ad pc H locs ls rest ce sl nL hx hb hml hown hts hro hfr hlo hcs hd hS1 hsz hsum k
  have hrv : ∃ cell : Cell, H[ad 2000]? = some cell ∧ cell.vm.isStatics = false ∧ s.vm.findClass "java/lang/String" = some cell.cls := by
    obtain ⟨cell, q1, q2, q3, -⟩ := (hS _ _ _ _ hro).2.1.kept hS1.2.1
    exact ⟨cell, q1, q2, q3⟩
  exact zpu_callV (n := 1) (As := [.int x]) (restc := rest) hx hb hcs hml hown hts hTg hR hro hS1 (zst_ioX x h0 hS hTg hR hW) rfl hrv hd ⟨hl, (hW _ (List.mem_of_getElem? (i := 37) rfl)), (hW _ (List.mem_of_getElem? (i := 38) rfl)), (hW _ (List.mem_of_getElem? (i := 20) rfl)), (hW _ (List.mem_of_getElem? (i := 39) rfl)), by decide, by decide, by decide +kernel⟩ rfl hsz ⟨by omega, by omega⟩ hsum (fun r locs1 hr hS2 => k r locs1 hr hS2)
theorem ymet_ofX {l : Launch} {Ts : List Cond} {cl : List vw_C} {Z : zZ} {RO : zRO} {RS : List (List Int)} {MT : zMT} {CS : List yC} {cn : yC} {P : zPool} {rc : Nat} (hTg : ∀ w ∈ Ts, goodWord w = true) (hR : zROk RO) (hZ : zDj Z) (hRS : zRowT RO RS) (hRb : ∀ tb ∈ RS, ∀ v ∈ tb, -2147483648 ≤ v ∧ v ≤ 2147483647) (hPk : zPok Ts cl RO MT (MT cn.1).1.cls P) (hCS : ∀ c' ∈ CS, yMet l Ts cl Z RO MT c') (hrc : zrcOk rc (MT cn.1).2.2.2) (hy : plainFor (MT cn.1).1 = true) {i1 i2 : Nat} (hSt : ∀ ad A s H, RO ad A s H → zStr ad A s H) (hW : ∀ w ∈ zStW, w ∈ Ts) (hl : Cond.methodLink (MT cn.1).1.cls i2 (⟨"java/lang/String", "indexOf", "(I)I"⟩ : MethodName) ∈ Ts) (hq6 : (i1, 2000) ∈ P.2.2.2.2.2) (hroom : 20 ≤ cn.2.1.1 ∧ 1000 ≤ cn.2.1.2) (d17 : decode (MT cn.1).2.1 17 = .ok (.ldc i1, 2)) (d19 : decode (MT cn.1).2.1 19 = .ok (.iload_n 2, 1)) (d20 : decode (MT cn.1).2.1 20 = .ok (.i2c, 1)) (d21 : decode (MT cn.1).2.1 21 = .ok (.invokevirtual i2, 3))
    {t : Nat → Option (Instr × Nat)} (ht : ∀ (pc : Nat) (q : Instr × Nat), t pc = some q → decode (MT cn.1).2.1 pc = .ok q)
    (hand : ∀ (as : List yV) (g : yM) (K : List yV → yM → Prop) (Y : yNx), cn.2.2 as g K → yCl t (Z, RS, P, MT, CS, cn.2.1, rc) K Y → (∀ (L : List yV) (g : yM) (v : Int), 0 ≤ v → v ≤ 255 → L[2]? = some (1, v) → (∀ r : Int, yNX v r → Y 24 L [(1, r)] g) → Y 17 L [] g) → Y 0 (ylayP as (MT cn.1).2.2.1) [] g) : yMet l Ts cl Z RO MT cn := by
  intro D tys A ad ws g as As K hMem hSA hlen hD hK0
  refine zofWF (cc := (MT cn.1).2.1) (maxL := (MT cn.1).2.2.1) (ret := (MT cn.1).2.2.2) hy rfl ?_
  intro p e s m args below meth c s₁ B hml hv
  obtain ⟨rfl, hP, hK, hro⟩ := hv
  have hx := B.exec
  have hb := B.bytes
  have hr := B.returns
  have hts0 := atoms_spec (ws := Cond.code (MT cn.1).1 (MT cn.1).2.1 (MT cn.1).2.2.1 (MT cn.1).2.2.2 :: Ts) B.pre
  have hts : ∀ w ∈ Ts, w.before As.toArray s = true := fun w hw => hts0 w (List.mem_cons_of_mem _ hw)
  have hown : s.vm.findClass (MT cn.1).1.cls = some m.cls := findClass_of_methodNamed B.named
  have hlocks := B.notSynchronized
  obtain ⟨q1, q2, q3, q4, q5, q6⟩ := hPk
  have C : yCtx p l e (headSpec (Cond.code (MT cn.1).1 (MT cn.1).2.1 (MT cn.1).2.2.1 (MT cn.1).2.2.2 :: Ts) (yrm cn.2.1)).room s m As.toArray below meth c (MT cn.1).2.1 (MT cn.1).1.cls (MT cn.1).2.2.1 Ts RO cl (Z, RS, P, MT, CS, cn.2.1, rc) D tys A ad s.heap 0 0 (MQ below (yQc Z D cl tys A ad K) As.toArray s 0 0 A) K := by
    refine ⟨⟨hx, hb, hml, rfl, hown⟩, ⟨hts, hTg, hK, hR, hro, hZ⟩, ⟨Nat.le_refl _, Nat.le_refl _⟩, ⟨fun f hf => ?_, fun f hf h2 => ?_, fun q hq => ⟨(q2 q hq).1, (q2 q hq).2.1, hts _ (q2 q hq).2.2⟩, fun q hq => ⟨(q3 q hq).1, (q3 q hq).2.1, hts _ (q3 q hq).2.2⟩, fun q hq => ?_⟩, fun q hq pc H locs ls rest hd hS kk => ?_, fun i tb hi pc H locs ls rest x hd hS hin kk => ?_, hRb, hCS, ⟨Nat.zero_le _, Nat.zero_le _⟩, fun kd pc len L st g hz d0 d1 d2 => yk_ret hx hb rfl hlocks (fun q => hr.trans (hrc.1 q)) (fun q => hr.trans (hrc.2.1 q)) (fun q => hr.trans (hrc.2.2.1 q)) (fun q => hr.trans (hrc.2.2.2 q)) hz d0 d1 d2⟩
    · obtain ⟨Cn, T, N, ty0, f1, f2, f3, f4, f5, f6, -⟩ := q1 f hf
      exact ⟨Cn, T, N, ty0, f1, f2, fun w hw => hts w (f3 w hw), f4, f5, Or.inl (hts _ f6)⟩
    · obtain ⟨Cn, T, N, ty0, f1, f2, f3, f4, f5, f6, f7, f8, f9, f10⟩ := q1 f hf
      exact ⟨Cn, T, N, ty0, f1, f2, fun w hw => hts w (f3 w hw), f4, f5, Or.inl (hts _ f6), f7 h2, f8, f9, f10⟩
    · obtain ⟨g1, g2, g3, -, g4⟩ := q4 q hq
      refine ⟨g1, g2, fun z Cc hCc => ?_, g4⟩
      obtain ⟨k1, host, k2⟩ := g3 z Cc hCc
      exact ⟨k1, host, k2 ad A s s.heap hro⟩
    · exact q5 q hq p l e _ s m _ below meth c _ _ A ad pc H locs ls rest 0 0 hx hb hown hts hro hd hS kk
    · exact hRS i tb hi p l e _ s m _ below meth c _ _ A ad pc H locs ls rest 0 0 x hx hb hro hd hS hin kk
  rw [lg_entry_eq]
  refine hand as g K (fun pc L st g => yWP (yG Z D cl tys A ad s.heap (MT cn.1).2.2.1) (fun H locs pc ls st => W p l e _ s m As.toArray below meth c H locs 0 0 (MQ below (yQc Z D cl tys A ad K) As.toArray s 0 0 A) (F0 m pc ls st)) pc L st g) hK0 (fun nx pc L st g q hq h hk => ystep_ok C h (ht pc q hq) hk) (fun L g v v0 v1 hL2 hk ls stc ws H locs hG => ?_) _ [] ws s.heap [] ?_
  · obtain ⟨gP, gD, gS, gM, gL, gT⟩ := hG
    cases stc with
    | cons a b => exact gT.elim
    | nil =>
      obtain ⟨val, e1, e2⟩ := gL.2.2.2 2 (1, v) hL2 (by show (1 : Nat) ≠ 0; decide)
      obtain ⟨x, rfl, hxv⟩ := yvI' e2
      refine q6 (i1, 2000) hq6 p l e _ s m _ below meth c _ _ A ad 17 H locs ls [] 0 0 hx hb hown hts hro d17 gS ?_
      refine lv_iload_n hx hb d19 rfl e1 ?_
      refine lv_i2c hx hb d20 rfl ?_
      have ec : ((x.toUInt32 % 65536).toInt32).toInt = x.toInt := by
        have f1 := znn (x := x) (by omega)
        have f2 : ((x.toUInt32 % 65536).toInt32).toBitVec.toNat = x.toBitVec.toNat % 65536 := by
          show (x.toBitVec % 65536#32).toNat = _
          rw [BitVec.toNat_umod]
          rfl
        have f3 : x.toBitVec.toNat % 65536 = x.toBitVec.toNat := Nat.mod_eq_of_lt (by omega)
        rw [znn' (by rw [f2, f3]; omega), f2, f3, ← f1]
      refine zrowIX ((x.toUInt32 % 65536).toInt32) (by rw [ec]; omega) hSt hTg hR hW hl p l e _ s m _ below meth c _ _ A ad 21 H locs ls [] 0 0 _ hx hb hml hown hts hro hroom.1 hroom.2 ⟨Nat.zero_le _, Nat.zero_le _⟩ d21 gS gL.1 (Nat.zero_le _) (fun r locs1 hr hS2 => ?_)
      rw [ec, hxv] at hr
      exact hk r.toInt hr ls [.int r] ws H locs1 ⟨gP, gD, hS2, gM, gL, yvI rfl, trivial⟩
  · exact ⟨hP, hD, va_S.rf, hMem, ylayP_ok hSA hlen, trivial⟩
theorem ymet_ofX2 {l : Launch} {Ts : List Cond} {cl : List vw_C} {Z : zZ} {RO : zRO} {RS : List (List Int)} {MT : zMT} {CS : List yC} {cn : yC} {P : zPool} {rc : Nat} (hTg : ∀ w ∈ Ts, goodWord w = true) (hR : zROk RO) (hZ : zDj Z) (hRS : zRowT RO RS) (hRb : ∀ tb ∈ RS, ∀ v ∈ tb, -2147483648 ≤ v ∧ v ≤ 2147483647) (hPk : zPok Ts cl RO MT (MT cn.1).1.cls P) (hCS : ∀ c' ∈ CS, yMet l Ts cl Z RO MT c') (hrc : zrcOk rc (MT cn.1).2.2.2) (hy : plainFor (MT cn.1).1 = true) {i1 i2 : Nat} (hSt : ∀ ad A s H, RO ad A s H → zStr ad A s H) (hW : ∀ w ∈ zStW, w ∈ Ts) (hl : Cond.methodLink (MT cn.1).1.cls i2 (⟨"java/lang/String", "indexOf", "(I)I"⟩ : MethodName) ∈ Ts) (hq6 : (i1, 2000) ∈ P.2.2.2.2.2) (hroom : 20 ≤ cn.2.1.1 ∧ 1000 ≤ cn.2.1.2) (d17 : decode (MT cn.1).2.1 17 = .ok (.ldc i1, 2)) (d19 : decode (MT cn.1).2.1 19 = .ok (.iload_n 2, 1)) (d20 : decode (MT cn.1).2.1 20 = .ok (.i2c, 1)) (d21 : decode (MT cn.1).2.1 21 = .ok (.invokevirtual i2, 3))
    {t : Nat → Option (Instr × Nat)} (ht : ∀ (pc : Nat) (q : Instr × Nat), t pc = some q → decode (MT cn.1).2.1 pc = .ok q)
    (hand : ∀ (as : List yV) (g : yM) (K : List yV → yM → Prop) (Y : yNx), cn.2.2 as g K → yAr as → yCl t (Z, RS, P, MT, CS, cn.2.1, rc) K Y → (∀ (L : List yV) (g : yM) (v : Int), 0 ≤ v → v ≤ 255 → L[2]? = some (1, v) → (∀ r : Int, yNX v r → Y 24 L [(1, r)] g) → Y 17 L [] g) → Y 0 (ylayP as (MT cn.1).2.2.1) [] g) : yMet l Ts cl Z RO MT cn := by
  intro D tys A ad ws g as As K hMem hSA hlen hD hK0
  exact ymet_ofX (cn := (cn.1, cn.2.1, fun as' g' K' => cn.2.2 as' g' K' ∧ yAr as')) hTg hR hZ hRS hRb hPk hCS hrc hy hSt hW hl hq6 hroom d17 d19 d20 d21 ht (fun as g K Y h hY hX => hand as g K Y h.1 h.2 hY hX) D tys A ad ws g as As K hMem hSA hlen hD ⟨hK0, yAr_of hSA⟩
