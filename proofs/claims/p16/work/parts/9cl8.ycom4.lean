/-! A COMER COMES: THE CLASS -/
def zpD120 (pc : Nat) : Option (Instr × Nat) := bif Nat.ble 54 pc then none else (bif Nat.ble 27 pc then (bif Nat.ble 40 pc then (bif Nat.ble 46 pc then (bif Nat.ble 50 pc then (bif Nat.ble 53 pc then (bif Nat.beq pc 53 then some (.return_, 1) else none) else (bif Nat.beq pc 50 then some (.invokevirtual 49, 3) else none)) else (bif Nat.ble 49 pc then (bif Nat.beq pc 49 then some (.aload_n 0, 1) else none) else (bif Nat.beq pc 46 then some (.putfield 34, 3) else none))) else (bif Nat.ble 44 pc then (bif Nat.ble 45 pc then (bif Nat.beq pc 45 then some (.iadd, 1) else none) else (bif Nat.beq pc 44 then some (.iconst 1, 1) else none)) else (bif Nat.ble 41 pc then (bif Nat.beq pc 41 then some (.getfield 34, 3) else none) else (bif Nat.beq pc 40 then some (.dup, 1) else none)))) else (bif Nat.ble 34 pc then (bif Nat.ble 36 pc then (bif Nat.ble 39 pc then (bif Nat.beq pc 39 then some (.aload_n 0, 1) else none) else (bif Nat.beq pc 36 then some (.putfield 46, 3) else none)) else (bif Nat.ble 35 pc then (bif Nat.beq pc 35 then some (.iconst (-1), 1) else none) else (bif Nat.beq pc 34 then some (.aaload, 1) else none))) else (bif Nat.ble 30 pc then (bif Nat.ble 31 pc then (bif Nat.beq pc 31 then some (.getfield 34, 3) else none) else (bif Nat.beq pc 30 then some (.aload_n 0, 1) else none)) else (bif Nat.beq pc 27 then some (.getfield 11, 3) else none)))) else (bif Nat.ble 14 pc then (bif Nat.ble 19 pc then (bif Nat.ble 23 pc then (bif Nat.ble 26 pc then (bif Nat.beq pc 26 then some (.aload_n 0, 1) else none) else (bif Nat.beq pc 23 then some (.putfield 42, 3) else none)) else (bif Nat.ble 20 pc then (bif Nat.beq pc 20 then some (.getfield 45, 3) else none) else (bif Nat.beq pc 19 then some (.aload_n 0, 1) else none))) else (bif Nat.ble 15 pc then (bif Nat.ble 18 pc then (bif Nat.beq pc 18 then some (.aaload, 1) else none) else (bif Nat.beq pc 15 then some (.getfield 34, 3) else none)) else (bif Nat.beq pc 14 then some (.aload_n 0, 1) else none))) else (bif Nat.ble 6 pc then (bif Nat.ble 10 pc then (bif Nat.ble 11 pc then (bif Nat.beq pc 11 then some (.getfield 11, 3) else none) else (bif Nat.beq pc 10 then some (.aload_n 0, 1) else none)) else (bif Nat.ble 9 pc then (bif Nat.beq pc 9 then some (.return_, 1) else none) else (bif Nat.beq pc 6 then some (.if_icmp .lt 4, 3) else none))) else (bif Nat.ble 1 pc then (bif Nat.ble 4 pc then (bif Nat.beq pc 4 then some (.bipush 40, 2) else none) else (bif Nat.beq pc 1 then some (.getfield 34, 3) else none)) else (bif Nat.beq pc 0 then some (.aload_n 0, 1) else none)))))
theorem zpDk120 : ∀ (pc : Nat) (q : Instr × Nat), zpD120 pc = some q → decode (zpMT 120).2.1 pc = .ok q := zDok_ok (n := 54) (fun pc h => by unfold zpD120; rw [Nat.ble_eq_true_of_le h]; rfl) (by decide +kernel)
def zpD7 (pc : Nat) : Option (Instr × Nat) := bif Nat.ble 72 pc then none else (bif Nat.ble 38 pc then (bif Nat.ble 54 pc then (bif Nat.ble 63 pc then (bif Nat.ble 69 pc then (bif Nat.ble 70 pc then (bif Nat.ble 71 pc then (bif Nat.beq pc 71 then some (.ireturn, 1) else none) else (bif Nat.beq pc 70 then some (.isub, 1) else none)) else (bif Nat.beq pc 69 then some (.iconst 1, 1) else none)) else (bif Nat.ble 66 pc then (bif Nat.beq pc 66 then some (.getfield 115, 3) else none) else (bif Nat.beq pc 63 then some (.getfield 10, 3) else none))) else (bif Nat.ble 56 pc then (bif Nat.ble 59 pc then (bif Nat.ble 62 pc then (bif Nat.beq pc 62 then some (.aload_n 0, 1) else none) else (bif Nat.beq pc 59 then some (.invokevirtual 129, 3) else none)) else (bif Nat.beq pc 56 then some (.getfield 10, 3) else none)) else (bif Nat.ble 55 pc then (bif Nat.beq pc 55 then some (.aload_n 0, 1) else none) else (bif Nat.beq pc 54 then some (.ireturn, 1) else none)))) else (bif Nat.ble 46 pc then (bif Nat.ble 50 pc then (bif Nat.ble 52 pc then (bif Nat.ble 53 pc then (bif Nat.beq pc 53 then some (.isub, 1) else none) else (bif Nat.beq pc 52 then some (.iload_n 1, 1) else none)) else (bif Nat.beq pc 50 then some (.bipush (-100), 2) else none)) else (bif Nat.ble 47 pc then (bif Nat.beq pc 47 then some (.if_icmp .eq 8, 3) else none) else (bif Nat.beq pc 46 then some (.iconst (-1), 1) else none))) else (bif Nat.ble 42 pc then (bif Nat.ble 45 pc then (bif Nat.beq pc 45 then some (.iload_n 1, 1) else none) else (bif Nat.beq pc 42 then some (.invokevirtual 126, 3) else none)) else (bif Nat.ble 39 pc then (bif Nat.beq pc 39 then some (.getfield 19, 3) else none) else (bif Nat.beq pc 38 then some (.aload_n 0, 1) else none))))) else (bif Nat.ble 19 pc then (bif Nat.ble 27 pc then (bif Nat.ble 33 pc then (bif Nat.ble 34 pc then (bif Nat.ble 37 pc then (bif Nat.beq pc 37 then some (.istore_n 1, 1) else none) else (bif Nat.beq pc 34 then some (.invokevirtual 122, 3) else none)) else (bif Nat.beq pc 33 then some (.aaload, 1) else none)) else (bif Nat.ble 30 pc then (bif Nat.beq pc 30 then some (.getfield 115, 3) else none) else (bif Nat.beq pc 27 then some (.getfield 10, 3) else none))) else (bif Nat.ble 23 pc then (bif Nat.ble 26 pc then (bif Nat.beq pc 26 then some (.aload_n 0, 1) else none) else (bif Nat.beq pc 23 then some (.getfield 118, 3) else none)) else (bif Nat.ble 20 pc then (bif Nat.beq pc 20 then some (.getfield 10, 3) else none) else (bif Nat.beq pc 19 then some (.aload_n 0, 1) else none)))) else (bif Nat.ble 9 pc then (bif Nat.ble 14 pc then (bif Nat.ble 15 pc then (bif Nat.ble 16 pc then (bif Nat.beq pc 16 then some (.getfield 28, 3) else none) else (bif Nat.beq pc 15 then some (.aload_n 0, 1) else none)) else (bif Nat.beq pc 14 then some (.ireturn, 1) else none)) else (bif Nat.ble 12 pc then (bif Nat.beq pc 12 then some (.bipush (-3), 2) else none) else (bif Nat.beq pc 9 then some (.if_icmp .lt 6, 3) else none))) else (bif Nat.ble 4 pc then (bif Nat.ble 7 pc then (bif Nat.beq pc 7 then some (.bipush 40, 2) else none) else (bif Nat.beq pc 4 then some (.getfield 115, 3) else none)) else (bif Nat.ble 1 pc then (bif Nat.beq pc 1 then some (.getfield 10, 3) else none) else (bif Nat.beq pc 0 then some (.aload_n 0, 1) else none))))))
theorem zpDk7 : ∀ (pc : Nat) (q : Instr × Nat), zpD7 pc = some q → decode (zpMT 7).2.1 pc = .ok q := zDok_ok (n := 72) (fun pc h => by unfold zpD7; rw [Nat.ble_eq_true_of_le h]; rfl) (by decide +kernel)
def zpD8 (pc : Nat) : Option (Instr × Nat) := bif Nat.ble 127 pc then none else (bif Nat.ble 57 pc then (bif Nat.ble 90 pc then (bif Nat.ble 110 pc then (bif Nat.ble 119 pc then (bif Nat.ble 124 pc then (bif Nat.ble 126 pc then (bif Nat.beq pc 126 then some (.ireturn, 1) else none) else (bif Nat.beq pc 124 then some (.iload 4, 2) else none)) else (bif Nat.ble 121 pc then (bif Nat.beq pc 121 then some (.goto (-64), 3) else none) else (bif Nat.beq pc 119 then some (.lstore 5, 2) else none))) else (bif Nat.ble 115 pc then (bif Nat.ble 118 pc then (bif Nat.beq pc 118 then some (.ladd, 1) else none) else (bif Nat.beq pc 115 then some (.ldc2_w 143, 3) else none)) else (bif Nat.ble 113 pc then (bif Nat.beq pc 113 then some (.lload 5, 2) else none) else (bif Nat.beq pc 110 then some (.iinc 4 1, 3) else none)))) else (bif Nat.ble 100 pc then (bif Nat.ble 104 pc then (bif Nat.ble 107 pc then (bif Nat.beq pc 107 then some (.invokevirtual 129, 3) else none) else (bif Nat.beq pc 104 then some (.getfield 10, 3) else none)) else (bif Nat.ble 103 pc then (bif Nat.beq pc 103 then some (.aload_n 0, 1) else none) else (bif Nat.beq pc 100 then some (.ifCond .eq 24, 3) else none))) else (bif Nat.ble 96 pc then (bif Nat.ble 97 pc then (bif Nat.beq pc 97 then some (.invokevirtual 139, 3) else none) else (bif Nat.beq pc 96 then some (.aaload, 1) else none)) else (bif Nat.ble 93 pc then (bif Nat.beq pc 93 then some (.getfield 115, 3) else none) else (bif Nat.beq pc 90 then some (.getfield 10, 3) else none))))) else (bif Nat.ble 75 pc then (bif Nat.ble 82 pc then (bif Nat.ble 86 pc then (bif Nat.ble 89 pc then (bif Nat.beq pc 89 then some (.aload_n 0, 1) else none) else (bif Nat.beq pc 86 then some (.getfield 118, 3) else none)) else (bif Nat.ble 83 pc then (bif Nat.beq pc 83 then some (.getfield 10, 3) else none) else (bif Nat.beq pc 82 then some (.aload_n 0, 1) else none))) else (bif Nat.ble 79 pc then (bif Nat.ble 80 pc then (bif Nat.beq pc 80 then some (.lload 5, 2) else none) else (bif Nat.beq pc 79 then some (.iload_n 1, 1) else none)) else (bif Nat.ble 76 pc then (bif Nat.beq pc 76 then some (.getfield 74, 3) else none) else (bif Nat.beq pc 75 then some (.aload_n 0, 1) else none)))) else (bif Nat.ble 64 pc then (bif Nat.ble 70 pc then (bif Nat.ble 72 pc then (bif Nat.beq pc 72 then some (.if_icmp .ge 52, 3) else none) else (bif Nat.beq pc 70 then some (.bipush 40, 2) else none)) else (bif Nat.ble 67 pc then (bif Nat.beq pc 67 then some (.getfield 115, 3) else none) else (bif Nat.beq pc 64 then some (.getfield 10, 3) else none))) else (bif Nat.ble 60 pc then (bif Nat.ble 63 pc then (bif Nat.beq pc 63 then some (.aload_n 0, 1) else none) else (bif Nat.beq pc 60 then some (.if_icmp .ge 64, 3) else none)) else (bif Nat.ble 59 pc then (bif Nat.beq pc 59 then some (.iload_n 3, 1) else none) else (bif Nat.beq pc 57 then some (.iload 4, 2) else none)))))) else (bif Nat.ble 30 pc then (bif Nat.ble 44 pc then (bif Nat.ble 51 pc then (bif Nat.ble 54 pc then (bif Nat.ble 55 pc then (bif Nat.beq pc 55 then some (.lstore 5, 2) else none) else (bif Nat.beq pc 54 then some (.i2l, 1) else none)) else (bif Nat.ble 53 pc then (bif Nat.beq pc 53 then some (.iload_n 2, 1) else none) else (bif Nat.beq pc 51 then some (.istore 4, 2) else none))) else (bif Nat.ble 49 pc then (bif Nat.ble 50 pc then (bif Nat.beq pc 50 then some (.iconst 0, 1) else none) else (bif Nat.beq pc 49 then some (.ireturn, 1) else none)) else (bif Nat.ble 47 pc then (bif Nat.beq pc 47 then some (.bipush (-12), 2) else none) else (bif Nat.beq pc 44 then some (.ifCond .ne 6, 3) else none)))) else (bif Nat.ble 36 pc then (bif Nat.ble 40 pc then (bif Nat.ble 41 pc then (bif Nat.beq pc 41 then some (.invokevirtual 136, 3) else none) else (bif Nat.beq pc 40 then some (.iconst 1, 1) else none)) else (bif Nat.ble 39 pc then (bif Nat.beq pc 39 then some (.iload_n 1, 1) else none) else (bif Nat.beq pc 36 then some (.getfield 74, 3) else none))) else (bif Nat.ble 34 pc then (bif Nat.ble 35 pc then (bif Nat.beq pc 35 then some (.aload_n 0, 1) else none) else (bif Nat.beq pc 34 then some (.ireturn, 1) else none)) else (bif Nat.ble 33 pc then (bif Nat.beq pc 33 then some (.iconst 0, 1) else none) else (bif Nat.beq pc 30 then some (.ifCond .eq 5, 3) else none))))) else (bif Nat.ble 15 pc then (bif Nat.ble 22 pc then (bif Nat.ble 26 pc then (bif Nat.ble 27 pc then (bif Nat.beq pc 27 then some (.invokevirtual 132, 3) else none) else (bif Nat.beq pc 26 then some (.iload_n 1, 1) else none)) else (bif Nat.ble 23 pc then (bif Nat.beq pc 23 then some (.getfield 74, 3) else none) else (bif Nat.beq pc 22 then some (.aload_n 0, 1) else none))) else (bif Nat.ble 20 pc then (bif Nat.ble 21 pc then (bif Nat.beq pc 21 then some (.ireturn, 1) else none) else (bif Nat.beq pc 20 then some (.iconst (-1), 1) else none)) else (bif Nat.ble 17 pc then (bif Nat.beq pc 17 then some (.if_icmp .le 5, 3) else none) else (bif Nat.beq pc 15 then some (.bipush 12, 2) else none)))) else (bif Nat.ble 9 pc then (bif Nat.ble 11 pc then (bif Nat.ble 14 pc then (bif Nat.beq pc 14 then some (.iload_n 3, 1) else none) else (bif Nat.beq pc 11 then some (.if_icmp .lt 9, 3) else none)) else (bif Nat.ble 10 pc then (bif Nat.beq pc 10 then some (.iconst 1, 1) else none) else (bif Nat.beq pc 9 then some (.iload_n 3, 1) else none))) else (bif Nat.ble 3 pc then (bif Nat.ble 6 pc then (bif Nat.beq pc 6 then some (.ifCond .eq 14, 3) else none) else (bif Nat.beq pc 3 then some (.invokestatic 78, 3) else none)) else (bif Nat.ble 1 pc then (bif Nat.beq pc 1 then some (.bipush 6, 2) else none) else (bif Nat.beq pc 0 then some (.iload_n 1, 1) else none)))))))
theorem zpDk8 : ∀ (pc : Nat) (q : Instr × Nat), zpD8 pc = some q → decode (zpMT 8).2.1 pc = .ok q := zDok_ok (n := 127) (fun pc h => by unfold zpD8; rw [Nat.ble_eq_true_of_le h]; rfl) (by decide +kernel)
/-- the one behind the last is taken in -/
def yadm (g : yM) : yM := yset (yset (yset g (50 + Int.toNat (g 1 1)) 0 (g 1 8)) (50 + Int.toNat (g 1 1)) 8 (-1)) 1 1 (g 1 1 + 1)
theorem yadm_ty {g : yM} (h : yTy zpZ g) (h1 : g 1 1 < 40) (hm : 0 ≤ g (50 + Int.toNat (g 1 1)) 4 ∧ g (50 + Int.toNat (g 1 1)) 4 ≤ 5) : yTy zpZ (yadm g) := by
  have hz := h.sz
  have hd := h.fO (j := 8) (List.mem_of_getElem? (i := 1) rfl) rfl
  have t1 := h.sR (q := 50 + Int.toNat (g 1 1)) (j := 0) (v := g 1 8) (List.mem_of_getElem? (i := 41) rfl) (by omega) (by omega) rfl (by omega) ⟨by omega, by omega⟩
  have t2 := t1.sR (q := 50 + Int.toNat (g 1 1)) (j := 8) (v := -1) (List.mem_of_getElem? (i := 41) rfl) (by omega) (by omega) rfl (by omega) ⟨by decide, by decide⟩
  have e : yset (yset g (50 + Int.toNat (g 1 1)) 0 (g 1 8)) (50 + Int.toNat (g 1 1)) 8 (-1) 1 1 = g 1 1 := by rw [yset_nc (by omega), yset_nc (by omega)]
  have t3 := t2.grow (by rw [e]; exact h1) (fun i hi => by
    rw [e] at hi
    have ei : i = Int.toNat (g 1 1) := by omega
    subst ei
    rw [yset_ne (by omega), yset_ne (by omega)]
    exact hm)
  rw [e] at t3
  exact t3
theorem yadm_nc {g : yM} {a b : Nat} (h : ¬ (a = 50 + Int.toNat (g 1 1) ∧ (b = 0 ∨ b = 8)) ∧ ¬ (a = 1 ∧ b = 1)) : yadm g a b = g a b := by
  unfold yadm
  rw [yset_ne (by omega), yset_ne (by omega), yset_ne (by omega)]
theorem yadm_11 (g : yM) : yadm g 1 1 = g 1 1 + 1 := yset_eq
theorem yadm_0 (g : yM) : yadm g (50 + Int.toNat (g 1 1)) 0 = g 1 8 ∧ yadm g (50 + Int.toNat (g 1 1)) 8 = -1 := by
  unfold yadm
  exact ⟨by rw [yset_ne (by omega), yset_ne (by omega), yset_eq], by rw [yset_ne (by omega), yset_eq]⟩
def yP_ADM : yPT := fun as g K => as = [(3, 1)] ∧ (yTy zpZ g) ∧ (0 ≤ g 1 1 ∧ g 1 1 < 40) ∧ (0 ≤ g (50 + Int.toNat (g 1 1)) 4 ∧ g (50 + Int.toNat (g 1 1)) 4 ≤ 5) ∧ (∀ (g' : yM), (yTy zpZ g') → (yWz (yadm g) g') → K [] g')
def yC_ADM : yC := (120, (4, 110), yP_ADM)
set_option maxRecDepth 8000 in
theorem yv_ADM {K : List yV → yM → Prop} {Y : yNx} {g : yM} (hY : yCl zpD120 (zpZ, zpRS, zpP11, zpMT, [yC_SE], (4, 110), 0) K Y) (hp0 : yTy zpZ g) (hp1 : 0 ≤ g 1 1 ∧ g 1 1 < 40) (hp2 : 0 ≤ g (50 + Int.toNat (g 1 1)) 4 ∧ g (50 + Int.toNat (g 1 1)) 4 ≤ 5) (hK : ∀ (g' : yM), (yTy zpZ g') → (yWz (yadm g) g') → K [] g') : Y 0 [(3, 1)] [] g := by
  refine yrun_ok (sp := fun pc => false) hY 28 0 _ [] g ?_
  show (((g 1 1) < 40 → (((0 : Int) ≤ (g 1 1) ∧ (g 1 1) < ((40 : Nat) : Int)) ∧ (((0 : Int) ≤ ((yset g (50 + Int.toNat (g 1 1)) 0 (g 1 8)) 1 1) ∧ ((yset g (50 + Int.toNat (g 1 1)) 0 (g 1 8)) 1 1) < ((40 : Nat) : Int)) ∧ ([(3, 1)] = [(3, 1)] ∧ (yTy zpZ (yset (yset (yset g (50 + Int.toNat (g 1 1)) 0 (g 1 8)) (50 + Int.toNat ((yset g (50 + Int.toNat (g 1 1)) 0 (g 1 8)) 1 1)) 8 (-1)) 1 1 (yw (((yset (yset g (50 + Int.toNat (g 1 1)) 0 (g 1 8)) (50 + Int.toNat ((yset g (50 + Int.toNat (g 1 1)) 0 (g 1 8)) 1 1)) 8 (-1)) 1 1) + 1)))) ∧ (∀ (g2 : yM), (yTy zpZ g2) → (yWz (yset (yset (yset g (50 + Int.toNat (g 1 1)) 0 (g 1 8)) (50 + Int.toNat ((yset g (50 + Int.toNat (g 1 1)) 0 (g 1 8)) 1 1)) 8 (-1)) 1 1 (yw (((yset (yset g (50 + Int.toNat (g 1 1)) 0 (g 1 8)) (50 + Int.toNat ((yset g (50 + Int.toNat (g 1 1)) 0 (g 1 8)) 1 1)) 8 (-1)) 1 1) + 1))) g2) → (K [] g2)))))) ∧ (¬ ((g 1 1) < 40) → (K [] g)))
  refine ⟨fun h1 => ?_, fun h1 => ?_⟩
  · refine ⟨(by omega), ?_⟩
    refine ⟨(by have := show ((yset g (50 + Int.toNat (g 1 1)) 0 (g 1 8)) 1 1) = (g 1 1) from (by simp [yset_ap, ycpy_ap]); omega), ?_⟩
    refine ⟨rfl, (by
      have hq : yw ((g 1 1) + 1) = g 1 1 + 1 := by have := yw_s (g 1 1 + 1); omega
      rw [show ((yset (yset g (50 + Int.toNat (g 1 1)) 0 (g 1 8)) (50 + Int.toNat ((yset g (50 + Int.toNat (g 1 1)) 0 (g 1 8)) 1 1)) 8 (-1)) 1 1) = (g 1 1) from by simp [yset_ap, ycpy_ap]]
      rw [show ((yset g (50 + Int.toNat (g 1 1)) 0 (g 1 8)) 1 1) = (g 1 1) from by simp [yset_ap, ycpy_ap]]
      rw [hq]
      exact yadm_ty hp0 hp1.2 hp2), ?_⟩
    intro g2 p30 p31
    have hq : yw ((g 1 1) + 1) = g 1 1 + 1 := by have := yw_s (g 1 1 + 1); omega
    rw [show ((yset (yset g (50 + Int.toNat (g 1 1)) 0 (g 1 8)) (50 + Int.toNat ((yset g (50 + Int.toNat (g 1 1)) 0 (g 1 8)) 1 1)) 8 (-1)) 1 1) = (g 1 1) from by simp [yset_ap, ycpy_ap]] at p31
    rw [show ((yset g (50 + Int.toNat (g 1 1)) 0 (g 1 8)) 1 1) = (g 1 1) from by simp [yset_ap, ycpy_ap]] at p31
    rw [hq] at p31
    exact hK _ p30 p31
  · omega
theorem yM_ADM {l : Launch} {Ts : List Cond} {cl : List vw_C} {RO : zRO} (H : zHyp Ts cl RO) : yMet l Ts cl zpZ RO zpMT yC_ADM := ymet_of2 H.1 H.2.1 zpDj H.2.2.1 yRb H.p11 (ymets_cons (yM_SE H) ymets_nil) (zrc0 rfl) (plainFor_of_name zpy11) zpDk120 (fun as g K Y h hA hY => by
  obtain ⟨rfl, hp0, hp1, hp2, hK⟩ := h
  exact yv_ADM hY  hp0 hp1 hp2 hK)
def yP_CCO : yPT := fun as g K => as = [(3, 0)] ∧ (yTy zpZ g) ∧ (∀ (r : Int) (g' : yM), (g 1 1 = 40 → r = -3 ∧ g' = g) → (g 1 1 < 40 → yPf (ySc g) (g 2 2) ≠ -1 → r = -100 - yPf (ySc g) (g 2 2) ∧ yTy zpZ g' ∧ g' 2 2 = 0 ∧ (∀ a b : Nat, ¬ (a = 2 ∧ 1 ≤ b ∧ b ≤ 3) → ¬ (a = (50 + Int.toNat (g 1 1)) ∧ 1 ≤ b ∧ b ≤ 7) → g' a b = g a b)) → (g 1 1 < 40 → yPf (ySc g) (g 2 2) = -1 → r = g 1 1 ∧ yTy zpZ g' ∧ g' 2 2 = 0 ∧ g' 1 1 = g 1 1 + 1 ∧ (∀ j : Nat, 1 ≤ j → j ≤ 7 → g' (50 + Int.toNat (g 1 1)) j = yPv (ySc g) j) ∧ g' (50 + Int.toNat (g 1 1)) 0 = g 1 8 ∧ g' (50 + Int.toNat (g 1 1)) 8 = -1 ∧ (∀ a b : Nat, ¬ (a = 2 ∧ 1 ≤ b ∧ b ≤ 3) → a ≠ (50 + Int.toNat (g 1 1)) → ¬ (a = 1 ∧ b = 1) → ¬ ((50 ≤ a ∧ a ≤ 89) ∧ (9 ≤ b ∧ b ≤ 11)) → g' a b = g a b) ∧ yStl g') → K [(1, r)] g')
def yC_CCO : yC := (7, (5, 130), yP_CCO)
set_option maxRecDepth 8000 in
theorem yv_CCO {K : List yV → yM → Prop} {Y : yNx} {g : yM} (hY : yCl zpD7 (zpZ, zpRS, zpP0, zpMT, [yC_RI, yC_CR, yC_ADM], (5, 130), 1) K Y) (hp0 : yTy zpZ g) (hK : ∀ (r : Int) (g' : yM), (g 1 1 = 40 → r = -3 ∧ g' = g) → (g 1 1 < 40 → yPf (ySc g) (g 2 2) ≠ -1 → r = -100 - yPf (ySc g) (g 2 2) ∧ yTy zpZ g' ∧ g' 2 2 = 0 ∧ (∀ a b : Nat, ¬ (a = 2 ∧ 1 ≤ b ∧ b ≤ 3) → ¬ (a = (50 + Int.toNat (g 1 1)) ∧ 1 ≤ b ∧ b ≤ 7) → g' a b = g a b)) → (g 1 1 < 40 → yPf (ySc g) (g 2 2) = -1 → r = g 1 1 ∧ yTy zpZ g' ∧ g' 2 2 = 0 ∧ g' 1 1 = g 1 1 + 1 ∧ (∀ j : Nat, 1 ≤ j → j ≤ 7 → g' (50 + Int.toNat (g 1 1)) j = yPv (ySc g) j) ∧ g' (50 + Int.toNat (g 1 1)) 0 = g 1 8 ∧ g' (50 + Int.toNat (g 1 1)) 8 = -1 ∧ (∀ a b : Nat, ¬ (a = 2 ∧ 1 ≤ b ∧ b ≤ 3) → a ≠ (50 + Int.toNat (g 1 1)) → ¬ (a = 1 ∧ b = 1) → ¬ ((50 ≤ a ∧ a ≤ 89) ∧ (9 ≤ b ∧ b ≤ 11)) → g' a b = g a b) ∧ yStl g') → K [(1, r)] g') : Y 0 [(3, 0), (0, 0)] [] g := by
  refine yrun_ok (sp := fun pc => false) hY 31 0 _ [] g ?_
  show (((g 1 1) < 40 → (((0 : Int) ≤ (g 1 1) ∧ (g 1 1) < ((40 : Nat) : Int)) ∧ (∃ (c2 : Int), [(3, 3), (141, (g 1 1))] = [(3, 3), (141, c2)] ∧ (0 ≤ c2 ∧ c2 < 40) ∧ (g 1 1 ≤ c2) ∧ (yTy zpZ g) ∧ (∀ (r3 : Int) (g4 : yM), (r3 = yPf (ySc g) (g 2 2)) → (yTy zpZ g4) → (∀ a b : Nat, ¬ (a = 2 ∧ (b = 1 ∨ b = 3)) → ¬ (a = 50 + Int.toNat c2 ∧ 1 ≤ b ∧ b ≤ 7) → g4 a b = g a b) → (r3 = -1 → ∀ j : Nat, 1 ≤ j → j ≤ 7 → g4 (50 + Int.toNat c2) j = yPv (ySc g) j) → ([(3, 2)] = [(3, 2)] ∧ (∀ (g6 : yM), (g6 = yset g4 2 2 0) → ((r3 = (-1) → ([(3, 1)] = [(3, 1)] ∧ (yTy zpZ g6) ∧ (0 ≤ g6 1 1 ∧ g6 1 1 < 40) ∧ (0 ≤ g6 (50 + Int.toNat (g6 1 1)) 4 ∧ g6 (50 + Int.toNat (g6 1 1)) 4 ≤ 5) ∧ (∀ (g9 : yM), (yTy zpZ g9) → (yWz (yadm g6) g9) → (K [(1, (yw ((g9 1 1) - 1)))] g9)))) ∧ (¬ (r3 = (-1)) → (K [(1, (yw ((-100) - r3)))] g6))))))))) ∧ (¬ ((g 1 1) < 40) → (K [(1, (-3))] g)))
  refine ⟨fun h1 => ?_, fun h1 => ?_⟩
  · refine ⟨(by have hz := hp0.sz; first | exact hp0 | omega), ?_⟩
    refine ⟨_, rfl, (by have hz := hp0.sz; first | exact hp0 | omega), (by have hz := hp0.sz; first | exact hp0 | omega), (by have hz := hp0.sz; first | exact hp0 | omega), ?_⟩
    intro r3 g4 p50 p51 p52 p53
    refine ⟨rfl, ?_⟩
    intro g6 p70
    subst p70
    refine ⟨fun h8 => ?_, fun h8 => ?_⟩
    · refine ⟨rfl, (by
      have hz := hp0.sz
      have e1 : g4 1 1 = g 1 1 := p52 1 1 (by omega) (by omega)
      exact yTy.sO p51 (List.mem_of_getElem? (i := 2) rfl) rfl (by decide +kernel) ⟨by decide, by decide⟩), (by
      have hz := hp0.sz
      have e1 : g4 1 1 = g 1 1 := p52 1 1 (by omega) (by omega)
      have e2 : (yset g4 2 2 0) 1 1 = g4 1 1 := yset_nc (by decide)
      omega), (by
      have hz := hp0.sz
      have e1 : g4 1 1 = g 1 1 := p52 1 1 (by omega) (by omega)
      have e4 := (yPv_b (ySc_sb hp0) (len := g 2 2) (by omega)).2.2.1
      have e5 := p53 (by omega) 4 (by decide) (by decide)
      rw [show ∀ j : Nat, (yset g4 2 2 0) (50 + Int.toNat ((yset g4 2 2 0) 1 1)) j = g4 (50 + Int.toNat (g 1 1)) j from fun j => by rw [yset_nc (q := 2) (by omega), yset_nc (q := 2) (by decide), e1]]
      rw [e5]
      exact e4), ?_⟩
      intro g9 p100 p101
      have hz := hp0.sz
      have e1 : g4 1 1 = g 1 1 := p52 1 1 (by omega) (by omega)
      have e2 : (yset g4 2 2 0) 1 1 = g 1 1 := by rw [yset_nc (by decide)]; exact e1
      have w : ∀ a b : Nat, ¬ ((50 ≤ a ∧ a ≤ 89) ∧ (9 ≤ b ∧ b ≤ 11)) → g9 a b = yadm (yset g4 2 2 0) a b := p101.1
      have e3 : g9 1 1 = g 1 1 + 1 := by rw [w 1 1 (by omega), yadm_11, e2]
      have e0 := yadm_0 (yset g4 2 2 0)
      rw [e2] at e0
      have hq := yw_s (g9 1 1 - 1)
      have hF : yPf (ySc g) (g 2 2) = -1 := by omega
      have nc : ∀ a b : Nat, ¬ (a = (50 + Int.toNat (g 1 1)) ∧ (b = 0 ∨ b = 8)) ∧ ¬ (a = 1 ∧ b = 1) → yadm (yset g4 2 2 0) a b = (yset g4 2 2 0) a b := fun a b h => yadm_nc (by rw [e2]; exact h)
      refine hK _ _ (fun h => absurd h (by omega)) (fun _ h => absurd hF h) (fun _ _ => ⟨by omega, p100, ?_, e3, fun j j1 j7 => ?_, ?_, ?_, fun a b h1 h2 h3 h4 => ?_, p101.2⟩)
      · rw [w 2 2 (by omega), nc 2 2 (by omega), yset_eq]
      · rw [w _ _ (by omega), nc _ _ (by omega), yset_nc (by omega)]
        exact p53 (by omega) j j1 j7
      · rw [w _ _ (by omega), e0.1, yset_nc (by decide)]
        exact p52 1 8 (by omega) (by omega)
      · rw [w _ _ (by omega)]
        exact e0.2
      · rw [w _ _ h4, nc _ _ (by omega), yset_ne (by omega)]
        exact p52 a b (by omega) (by omega)
    · have hz := hp0.sz
      have b13 := (yS13_b (ySc_sb hp0)).2.1
      have b12 := (yS13_b (ySc_sb hp0)).1
      have bF : -1 ≤ yPf (ySc g) (g 2 2) ∧ yPf (ySc g) (g 2 2) ≤ 60 := by unfold yPf; split <;> omega
      have hq := yw_s (-100 - r3)
      refine hK _ _ (fun h => absurd h (by omega)) (fun _ _ => ⟨by omega, ?_, yset_eq, fun a b h1 h2 => ?_⟩) (fun _ h => absurd h (by omega))
      · exact yTy.sO p51 (List.mem_of_getElem? (i := 2) rfl) rfl (by decide +kernel) ⟨by decide, by decide⟩
      · rw [yset_ne (by omega)]
        exact p52 a b (by omega) h2
  · have hz := hp0.sz
    exact hK _ _ (fun _ => ⟨rfl, rfl⟩) (fun h => absurd h (by omega)) (fun h => absurd h (by omega))
theorem yM_CCO {l : Launch} {Ts : List Cond} {cl : List vw_C} {RO : zRO} (H : zHyp Ts cl RO) : yMet l Ts cl zpZ RO zpMT yC_CCO := ymet_of2 H.1 H.2.1 zpDj H.2.2.1 yRb H.p0 (ymets_cons (yM_RI H) (ymets_cons (yM_CR H) (ymets_cons (yM_ADM H) ymets_nil))) (zrc1 rfl) (plainFor_of_name zpy0) zpDk7 (fun as g K Y h hA hY => by
  obtain ⟨rfl, hp0, hK⟩ := h
  exact yv_CCO hY  hp0 hK)
