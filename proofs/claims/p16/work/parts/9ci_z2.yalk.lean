/-! THE REFERENCE'S CHANGES KEEP WHAT THE LAW KEEPS -/
theorem yshd_ty {g : yM} (n : Nat) (hn : n ≤ 39) (h : yTy zpZ g) : yTy zpZ (yshd g n) := by
  obtain ⟨gh, hg, hT⟩ := h
  have key : ∀ e ∈ zpZ.1, 92 ≤ e.2.1 → e.1 ≤ 94 → e.2.2.1 = 1 ∧ e.2.2.2.2.1 = 40 ∧ (e.1 = 92 ∨ e.1 = 93 ∨ e.1 = 94) ∧ e.2.1 = e.1 := by decide +kernel
  have k6 : ∀ e ∈ zpZ.1, e.2.2.1 = 6 → e.1 = 31 ∧ e.2.1 = 32 ∧ (e.2.2.2.2.2.headD (0, 0, 0)).1 = 2 := by decide +kernel
  refine ⟨gh, hg, fun e he q h1 h2 => ?_⟩
  have ht := hT e he q h1 h2
  by_cases hq : 92 ≤ q ∧ q ≤ 94
  · obtain ⟨k1, k2, k3, k4⟩ := key e he (by omega) (by omega)
    generalize e.2.2 = ct at ht k1 k2 ⊢
    obtain ⟨tg, ci, len, fts⟩ := ct
    have k1 : tg = 1 := k1
    have k2 : len = 40 := k2
    subst k1
    subst k2
    intro j ft hj h0
    by_cases hjn : j < n
    · rw [yshd_in ⟨hq, hjn⟩]
      have h9 := ht (j + 1) ft (by omega) h0
      exact h9
    · rw [yshd_out (by omega)]
      exact ht j ft hj h0
  · have h9 : ∀ j, yshd g n q j = g q j := fun j => yshd_nc (by omega)
    have hp := k6 e he
    generalize e.2.2 = ct at ht hp ⊢
    obtain ⟨tg, ci, len, fts⟩ := ct
    match tg, ht with
    | 0, ht => exact fun j ft hj => by rw [h9]; exact ht j ft hj
    | 1, ht => exact fun j ft hj h0 => by rw [h9]; exact ht j ft hj h0
    | 2, ht => exact fun j ft hj h0 => by rw [h9]; exact ht j ft hj h0
    | 3, _ => trivial
    | 4, _ => trivial
    | 5, _ => trivial
    | 6, ⟨t1, t2⟩ =>
      obtain ⟨a1, a2, a3⟩ := hp rfl
      have a3 : (fts.headD (0, 0, 0)).1 = 2 := a3
      have h8 : ∀ j, yshd g n (q + (fts.headD (0, 0, 0)).1) j = g (q + (fts.headD (0, 0, 0)).1) j := fun j => yshd_nc (by rw [a3]; omega)
      exact ⟨fun j hj => by rw [h9, h8]; exact t1 j hj, fun a b => ⟨(t2 a b).1, by rw [h9]; exact (t2 a b).2⟩⟩
    | n + 7, _ => trivial
theorem ybd_b {g : yM} (h : 0 ≤ g 90 5 ∧ g 90 5 ≤ 40) : 0 ≤ ybd g ∧ ybd g ≤ 39 := by
  unfold ybd
  split <;> omega
theorem ybs_nc {g : yM} {a b : Nat} (h : (a < 92 ∨ 94 < a) ∧ ¬ (a = 90 ∧ b = 5)) : ybs g a b = g a b := by
  unfold ybs
  split
  · rw [yset_ne h.2, yshd_nc h.1]
  · rfl
theorem ybf_nc {M : yM} {d w v u : Int} {a b : Nat} (h : (a < 90 ∨ 94 < a) ∨ (a = 90 ∧ b ≠ 4 ∧ b ≠ 5)) : ybf M d w v u a b = M a b := by
  unfold ybf
  rw [yset_ne (by omega), yset_ne (by omega), yset_ne (by omega), yset_ne (by omega), yset_ne (by omega), yset_ne (by omega)]
theorem ybec_nc {g : yM} {w v : Int} {a b : Nat} (h : (a < 90 ∨ 94 < a) ∨ (a = 90 ∧ b ≠ 4 ∧ b ≠ 5)) : ybec g w v a b = g a b := by
  unfold ybec
  rw [ybf_nc h, ybs_nc (by omega)]
theorem ybec_5 {g : yM} {w v : Int} : ybec g w v 90 5 = ybd g + 1 := by
  unfold ybec ybf
  rw [yset_ne (by omega), yset_ne (by omega), yset_eq]
theorem ybec_4 {g : yM} {w v : Int} : ybec g w v 90 4 = ybd g + 1 := by
  unfold ybec ybf
  rw [yset_ne (by omega), yset_eq]
theorem ybec_ty {g : yM} {w v : Int} (h : yTy zpZ g) (hw : 0 ≤ w ∧ w < 53) (hv : -2147483648 ≤ v ∧ v ≤ 2147483647) : yTy zpZ (ybec g w v) := by
  have hd := ybd_b (yTy.fO (j := 5) h (List.mem_of_getElem? (i := 42) rfl) rfl)
  have hu := yTy.fA (j := Int.toNat w) h (List.mem_of_getElem? (i := 43) rfl) (by omega)
  unfold ybec ybf
  refine yTy.sA ?_ (List.mem_of_getElem? (i := 43) rfl) (by decide +kernel) hv
  refine yTy.sO ?_ (List.mem_of_getElem? (i := 42) rfl) rfl (by decide +kernel) ⟨by omega, by omega⟩
  refine yTy.sO ?_ (List.mem_of_getElem? (i := 42) rfl) rfl (by decide +kernel) ⟨by omega, by omega⟩
  refine yTy.sA ?_ (List.mem_of_getElem? (i := 46) rfl) (by decide +kernel) hv
  refine yTy.sA ?_ (List.mem_of_getElem? (i := 45) rfl) (by decide +kernel) hu
  refine yTy.sA ?_ (List.mem_of_getElem? (i := 44) rfl) (by decide +kernel) ⟨by omega, by omega⟩
  unfold ybs
  split
  · refine yTy.sO ?_ (List.mem_of_getElem? (i := 42) rfl) rfl (by decide +kernel) ⟨by omega, by omega⟩
    exact yshd_ty 39 (by decide) h
  · exact h
theorem yRA.kd {g g' : yM} (h : yRA g) (e : ∀ a b : Nat, (a < 90 ∨ 94 < a) ∨ (a = 90 ∧ b = 38) → g' a b = g a b) (h5 : 0 ≤ g' 90 5 ∧ g' 90 5 ≤ g' 90 4 ∧ g' 90 4 ≤ 40) : yRA g' := by
  obtain ⟨h1, h2, h3, h4, -⟩ := h
  refine ⟨by rw [e 6 8 (by omega), e 90 38 (by omega)]; exact h1, fun p hp => ?_, fun p k hp hk => ?_, fun r hr => ?_, h5⟩
  · rw [e 40 p (by omega), e 121 p (by omega), e 6 8 (by omega), e 41 p (by omega), e 122 p (by omega), e 42 p (by omega)]
    exact h2 p hp
  · rw [e 123 _ (by omega), e (44 + p) k (by omega)]
    exact h3 p k hp hk
  · rw [e 114 r (by omega), e 30 r (by omega)]
    exact h4 r hr
theorem ybec_I {g : yM} {w v : Int} (h : yInv g) (hw : 0 ≤ w ∧ w < 53) (hv : -2147483648 ≤ v ∧ v ≤ 2147483647) : yInv (ybec g w v) := by
  have hd := ybd_b (yTy.fO (j := 5) h.1 (List.mem_of_getElem? (i := 42) rfl) rfl)
  refine ⟨ybec_ty h.1 hw hv, h.2.kd (fun a b hab => ybec_nc (by omega)) ?_⟩
  rw [ybec_5, ybec_4]
  omega
theorem yh92 {g : yM} (h : yTy zpZ g) : ∀ k : Nat, k < 40 → 0 ≤ g 92 k ∧ g 92 k < 53 := fun k hk => by
  have := yTy.fA (j := k) h (List.mem_of_getElem? (i := 44) rfl) hk
  omega
theorem yap_MMA0 {g : yM} (h : yInv g) : 0 ≤ g 90 5 ∧ g 90 5 ≤ 40 := yTy.fO (j := 5) h.1 (List.mem_of_getElem? (i := 42) rfl) rfl
theorem yak_MMA {g g1 : yM} {a b v r : Int} (h : yInv g) (a0 : ¬ (0 ≤ a ∧ a < 6 ∧ 0 ≤ b ∧ b ≤ 1 ∧ 1 ≤ v ∧ v ≤ 99 ∧ (b = 0 → v ≤ g 91 (Int.toNat (46 + a))) ∧ (b = 1 → g 91 (Int.toNat (40 + a)) ≤ v)) → r = -1 ∧ g1 = g) (a1 : (0 ≤ a ∧ a < 6 ∧ 0 ≤ b ∧ b ≤ 1 ∧ 1 ≤ v ∧ v ≤ 99 ∧ (b = 0 → v ≤ g 91 (Int.toNat (46 + a))) ∧ (b = 1 → g 91 (Int.toNat (40 + a)) ≤ v)) → b = 0 → r = g 91 (Int.toNat (40 + a)) ∧ (g 91 (Int.toNat (40 + a)) = v → g1 = g) ∧ (g 91 (Int.toNat (40 + a)) ≠ v → g1 = ybec g (40 + a) v)) (a2 : (0 ≤ a ∧ a < 6 ∧ 0 ≤ b ∧ b ≤ 1 ∧ 1 ≤ v ∧ v ≤ 99 ∧ (b = 0 → v ≤ g 91 (Int.toNat (46 + a))) ∧ (b = 1 → g 91 (Int.toNat (40 + a)) ≤ v)) → b = 1 → r = g 91 (Int.toNat (46 + a)) ∧ (g 91 (Int.toNat (46 + a)) = v → g1 = g) ∧ (g 91 (Int.toNat (46 + a)) ≠ v → g1 = ybec g (46 + a) v)) : yInv g1 := by
  by_cases ok : (0 ≤ a ∧ a < 6 ∧ 0 ≤ b ∧ b ≤ 1 ∧ 1 ≤ v ∧ v ≤ 99 ∧ (b = 0 → v ≤ g 91 (Int.toNat (46 + a))) ∧ (b = 1 → g 91 (Int.toNat (40 + a)) ≤ v))
  · by_cases hb : b = 0
    · have a1 := a1 ok hb    
      obtain ⟨-, c1, c2⟩ := a1
      by_cases he : g 91 (Int.toNat (40 + a)) = v
      · rw [c1 he]
        exact h
      · rw [c2 he]
        exact ybec_I h ⟨by omega, by omega⟩ ⟨by omega, by omega⟩
    · have a2 := a2 ok (by omega)    
      obtain ⟨-, c1, c2⟩ := a2
      by_cases he : g 91 (Int.toNat (46 + a)) = v
      · rw [c1 he]
        exact h
      · rw [c2 he]
        exact ybec_I h ⟨by omega, by omega⟩ ⟨by omega, by omega⟩
  · rw [(a0 ok).2]
    exact h
theorem yap_MYA0 {g : yM} (h : yInv g) : 0 ≤ g 90 5 ∧ g 90 5 ≤ 40 := yTy.fO (j := 5) h.1 (List.mem_of_getElem? (i := 42) rfl) rfl
theorem yak_MYA {g g1 : yM} {a v r : Int} (h : yInv g) (a0 : ¬ (0 ≤ a ∧ a ≤ 2 ∧ 0 ≤ v ∧ v ≤ 30 ∧ (a = 0 → v ≤ 3) ∧ (a = 2 → v ≤ 1)) → r = -1 ∧ g1 = g) (a1 : (0 ≤ a ∧ a ≤ 2 ∧ 0 ≤ v ∧ v ≤ 30 ∧ (a = 0 → v ≤ 3) ∧ (a = 2 → v ≤ 1)) → a = 0 → r = g 90 10 ∧ g1 = yset g 90 10 v) (a2 : (0 ≤ a ∧ a ≤ 2 ∧ 0 ≤ v ∧ v ≤ 30 ∧ (a = 0 → v ≤ 3) ∧ (a = 2 → v ≤ 1)) → a = 2 → r = g 90 11 ∧ g1 = yset g 90 11 v) (a3 : (0 ≤ a ∧ a ≤ 2 ∧ 0 ≤ v ∧ v ≤ 30 ∧ (a = 0 → v ≤ 3) ∧ (a = 2 → v ≤ 1)) → a = 1 → r = g 91 52 ∧ (g 91 52 = v → g1 = g) ∧ (g 91 52 ≠ v → g1 = ybec g 52 v)) : yInv g1 := by
  by_cases ok : (0 ≤ a ∧ a ≤ 2 ∧ 0 ≤ v ∧ v ≤ 30 ∧ (a = 0 → v ≤ 3) ∧ (a = 2 → v ≤ 1))
  · by_cases hb : a = 1
    · have a3 := a3 ok hb    
      obtain ⟨-, c1, c2⟩ := a3
      by_cases he : g 91 52 = v
      · rw [c1 he]
        exact h
      · rw [c2 he]
        exact ybec_I h ⟨by omega, by omega⟩ ⟨by omega, by omega⟩
    · by_cases hc : a = 0
      · rw [(a1 ok hc).2]
        refine ⟨?_, h.2.kd (fun x y hxy => yset_ne (by omega)) ?_⟩
        · refine yTy.sO h.1 (List.mem_of_getElem? (i := 42) rfl) rfl (by decide +kernel) ⟨by omega, by omega⟩
        · rw [yset_ne (by omega), yset_ne (by omega)]
          exact h.2.2.2.2.2
      · rw [(a2 ok (by omega)).2]
        refine ⟨?_, h.2.kd (fun x y hxy => yset_ne (by omega)) ?_⟩
        · refine yTy.sO h.1 (List.mem_of_getElem? (i := 42) rfl) rfl (by decide +kernel) ⟨by omega, by omega⟩
        · rw [yset_ne (by omega), yset_ne (by omega)]
          exact h.2.2.2.2.2
  · rw [(a0 ok).2]
    exact h
theorem yap_MCA0 {g : yM} (h : yInv g) : 0 ≤ g 90 5 ∧ g 90 5 ≤ 40 := yTy.fO (j := 5) h.1 (List.mem_of_getElem? (i := 42) rfl) rfl
theorem yap_MCA1 {g : yM} (h : yInv g) : 0 ≤ g 90 22 ∧ g 90 22 ≤ 40 := yTy.fO (j := 22) h.1 (List.mem_of_getElem? (i := 42) rfl) rfl
theorem yak_MCA {g g1 : yM} {w v r : Int} (h : yInv g) (a0 : ¬ (0 ≤ w ∧ w < g 90 22 ∧ 0 ≤ v ∧ v < g 102 (Int.toNat w)) → r = -1 ∧ g1 = g) (a1 : (0 ≤ w ∧ w < g 90 22 ∧ 0 ≤ v ∧ v < g 102 (Int.toNat w)) → r = g 91 (Int.toNat (w)) ∧ (g 91 (Int.toNat (w)) = v → g1 = g) ∧ (g 91 (Int.toNat (w)) ≠ v → g1 = ybec g (w) v)) : yInv g1 := by
  have hc := yTy.fO (j := 22) h.1 (List.mem_of_getElem? (i := 42) rfl) rfl
  by_cases ok : (0 ≤ w ∧ w < g 90 22 ∧ 0 ≤ v ∧ v < g 102 (Int.toNat w))
  · have a1 := a1 ok
    have hv := yTy.fA (j := Int.toNat w) h.1 (List.mem_of_getElem? (i := 54) rfl) (by omega)  
    obtain ⟨-, c1, c2⟩ := a1
    by_cases he : g 91 (Int.toNat w) = v
    · rw [c1 he]
      exact h
    · rw [c2 he]
      exact ybec_I h ⟨by omega, by omega⟩ ⟨by omega, by omega⟩
  · rw [(a0 ok).2]
    exact h
theorem yap_MUN0 {g : yM} (h : yInv g) : 0 ≤ g 90 5 ∧ g 90 5 ≤ 40 := yTy.fO (j := 5) h.1 (List.mem_of_getElem? (i := 42) rfl) rfl
theorem yap_MUN1 {g : yM} (h : yInv g) : ∀ k : Nat, k < 40 → 0 ≤ g 92 k ∧ g 92 k < 53 := yh92 h.1
theorem yak_MUN {g g1 : yM} {r : Int} (h : yInv g) (a0 : (r = -5 ∧ g 90 5 = 0) ∨ (r = g 90 5 - 1 ∧ 0 < g 90 5)) (a1 : g 90 5 = 0 → g1 = g) (a2 : 0 < g 90 5 → g1 = yset (yset g 90 5 (g 90 5 - 1)) 91 (Int.toNat (g 92 (Int.toNat (g 90 5 - 1)))) (g 93 (Int.toNat (g 90 5 - 1)))) : yInv g1 := by
  have hd := h.2.2.2.2.2
  by_cases h0 : g 90 5 = 0
  · rw [a1 h0]
    exact h
  · rw [a2 (by omega)]
    refine ⟨?_, h.2.kd (fun x y hxy => by rw [yset_ne (by omega), yset_ne (by omega)]) ?_⟩
    · refine yTy.sA ?_ (List.mem_of_getElem? (i := 43) rfl) (by decide +kernel) (yTy.fA h.1 (List.mem_of_getElem? (i := 45) rfl) (by omega))
      exact yTy.sO h.1 (List.mem_of_getElem? (i := 42) rfl) rfl (by decide +kernel) ⟨by omega, by omega⟩
    · rw [yset_nc (by decide), yset_eq, yset_nc (by decide), yset_ne (by omega)]
      omega
theorem yap_MRE0 {g : yM} (h : yInv g) : 0 ≤ g 90 5 ∧ g 90 5 ≤ g 90 4 ∧ g 90 4 ≤ 40 := h.2.2.2.2.2
theorem yap_MRE1 {g : yM} (h : yInv g) : ∀ k : Nat, k < 40 → 0 ≤ g 92 k ∧ g 92 k < 53 := yh92 h.1
theorem yak_MRE {g g1 : yM} {r : Int} (h : yInv g) (a0 : (r = -5 ∧ g 90 5 = g 90 4) ∨ (r = g 90 4 - (g 90 5 + 1) ∧ g 90 5 < g 90 4)) (a1 : g 90 5 = g 90 4 → g1 = g) (a2 : g 90 5 < g 90 4 → g1 = yset (yset g 91 (Int.toNat (g 92 (Int.toNat (g 90 5)))) (g 94 (Int.toNat (g 90 5)))) 90 5 (g 90 5 + 1)) : yInv g1 := by
  have hd := h.2.2.2.2.2
  by_cases h0 : g 90 5 = g 90 4
  · rw [a1 h0]
    exact h
  · rw [a2 (by omega)]
    refine ⟨?_, h.2.kd (fun x y hxy => by rw [yset_ne (by omega), yset_ne (by omega)]) ?_⟩
    · refine yTy.sO ?_ (List.mem_of_getElem? (i := 42) rfl) rfl (by decide +kernel) ⟨by omega, by omega⟩
      exact yTy.sA h.1 (List.mem_of_getElem? (i := 43) rfl) (by decide +kernel) (yTy.fA h.1 (List.mem_of_getElem? (i := 46) rfl) (by omega))
    · rw [yset_eq, yset_ne (by omega), yset_nc (by decide)]
      omega
