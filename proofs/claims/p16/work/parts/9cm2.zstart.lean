/-! THE BEGINNING: the two are made, printed by wip/p2/gen9g.py -/
theorem zlT1 {w : Cond} {i : Nat} (h : tables_1_1[i]? = some w) : w ∈ lw_tbl := List.mem_append.mpr (Or.inr (List.mem_append.mpr (Or.inl (List.mem_of_getElem? h))))
theorem zlT2 {w : Cond} {i : Nat} (h : tables_1_2[i]? = some w) : w ∈ lw_tbl := List.mem_append.mpr (Or.inr (List.mem_append.mpr (Or.inr (List.mem_append.mpr (Or.inl (List.mem_of_getElem? h))))))
theorem zlT3 {w : Cond} {i : Nat} (h : tables_1_3[i]? = some w) : w ∈ lw_tbl := List.mem_append.mpr (Or.inr (List.mem_append.mpr (Or.inr (List.mem_append.mpr (Or.inr (List.mem_append.mpr (Or.inl (List.mem_of_getElem? h))))))))
theorem zlT4 {w : Cond} {i : Nat} (h : tables_1_4[i]? = some w) : w ∈ lw_tbl := List.mem_append.mpr (Or.inr (List.mem_append.mpr (Or.inr (List.mem_append.mpr (Or.inr (List.mem_append.mpr (Or.inr (List.mem_append.mpr (Or.inl (List.mem_of_getElem? h))))))))))
theorem zlT5 {w : Cond} {i : Nat} (h : tables_1_5[i]? = some w) : w ∈ lw_tbl := List.mem_append.mpr (Or.inr (List.mem_append.mpr (Or.inr (List.mem_append.mpr (Or.inr (List.mem_append.mpr (Or.inr (List.mem_append.mpr (Or.inr (List.mem_append.mpr (Or.inl (List.mem_of_getElem? h))))))))))))
theorem zlT6 {w : Cond} {i : Nat} (h : tables_1_6[i]? = some w) : w ∈ lw_tbl := List.mem_append.mpr (Or.inr (List.mem_append.mpr (Or.inr (List.mem_append.mpr (Or.inr (List.mem_append.mpr (Or.inr (List.mem_append.mpr (Or.inr (List.mem_append.mpr (Or.inr (List.mem_append.mpr (Or.inl (List.mem_of_getElem? h))))))))))))))
theorem zlT7 {w : Cond} {i : Nat} (h : tables_1_7[i]? = some w) : w ∈ lw_tbl := List.mem_append.mpr (Or.inr (List.mem_append.mpr (Or.inr (List.mem_append.mpr (Or.inr (List.mem_append.mpr (Or.inr (List.mem_append.mpr (Or.inr (List.mem_append.mpr (Or.inr (List.mem_append.mpr (Or.inr (List.mem_of_getElem? h))))))))))))))
theorem zro_N {b : Nat} {s : State} (hts : ∀ w ∈ lw_tbl, w.before #[Value.ref b] s = true) : ∀ q ∈ zpMN, va_Nw (zNWM q) s := List.forall_mem_cons.mpr ⟨va_Nw.of rfl (hts _ (zlT1 (i := 39) rfl)), List.forall_mem_cons.mpr ⟨va_Nw.of rfl (hts _ (zlT1 (i := 183) rfl)), List.forall_mem_cons.mpr ⟨va_Nw.of rfl (hts _ (zlT2 (i := 127) rfl)), List.forall_mem_cons.mpr ⟨va_Nw.of rfl (hts _ (zlT3 (i := 3) rfl)), List.forall_mem_cons.mpr ⟨va_Nw.of rfl (hts _ (zlT3 (i := 47) rfl)), List.forall_mem_cons.mpr ⟨va_Nw.of rfl (hts _ (zlT3 (i := 88) rfl)), List.forall_mem_cons.mpr ⟨va_Nw.of rfl (hts _ (zlT4 (i := 81) rfl)), List.forall_mem_cons.mpr ⟨va_Nw.of rfl (hts _ (zlT4 (i := 97) rfl)), List.forall_mem_cons.mpr ⟨va_Nw.of rfl (hts _ (zlT5 (i := 40) rfl)), fun _ h => absurd h List.not_mem_nil⟩⟩⟩⟩⟩⟩⟩⟩⟩
theorem zro_B {b : Nat} {s : State} {A : Nat → Prop} (h : (Jvm.Cond.and given_1 narrow_1).before #[Value.ref b] s = true) (hA : ∀ a : Nat, a < s.heap.size → ¬ A a) : ∃ t : Nat, (Term.static "PushedIn$Acts" "BODIES" "[I").eval #[Value.ref b] s none [] s = some (.ref t) ∧ zTbl t zpBO A s s.heap := by
  have hs := flat_of_before _ h
  refine va_Tof (by decide) (hs _ (List.mem_of_getElem? (i := 10) rfl)) (va_eqt (hs _ (List.mem_of_getElem? (i := 11) rfl))) (fun j hj => ?_) hA
  match j, hj with
  | 0, _ => exact va_eqt (hs (Cond.eq (.elem (.static "PushedIn$Acts" "BODIES" "[I") (.int 0)) (.int 1)) (List.mem_of_getElem? (i := 12) rfl))
  | 1, _ => exact va_eqt (hs (Cond.eq (.elem (.static "PushedIn$Acts" "BODIES" "[I") (.int 1)) (.int 10)) (List.mem_of_getElem? (i := 13) rfl))
  | 2, _ => exact va_eqt (hs (Cond.eq (.elem (.static "PushedIn$Acts" "BODIES" "[I") (.int 2)) (.int 11)) (List.mem_of_getElem? (i := 14) rfl))
  | 3, _ => exact va_eqt (hs (Cond.eq (.elem (.static "PushedIn$Acts" "BODIES" "[I") (.int 3)) (.int 2)) (List.mem_of_getElem? (i := 15) rfl))
  | 4, _ => exact va_eqt (hs (Cond.eq (.elem (.static "PushedIn$Acts" "BODIES" "[I") (.int 4)) (.int 20)) (List.mem_of_getElem? (i := 16) rfl))
  | 5, _ => exact va_eqt (hs (Cond.eq (.elem (.static "PushedIn$Acts" "BODIES" "[I") (.int 5)) (.int 0)) (List.mem_of_getElem? (i := 17) rfl))
  | 6, _ => exact va_eqt (hs (Cond.eq (.elem (.static "PushedIn$Acts" "BODIES" "[I") (.int 6)) (.int 0)) (List.mem_of_getElem? (i := 18) rfl))
  | 7, _ => exact va_eqt (hs (Cond.eq (.elem (.static "PushedIn$Acts" "BODIES" "[I") (.int 7)) (.int 0)) (List.mem_of_getElem? (i := 19) rfl))
  | 8, _ => exact va_eqt (hs (Cond.eq (.elem (.static "PushedIn$Acts" "BODIES" "[I") (.int 8)) (.int 0)) (List.mem_of_getElem? (i := 20) rfl))
  | 9, _ => exact va_eqt (hs (Cond.eq (.elem (.static "PushedIn$Acts" "BODIES" "[I") (.int 9)) (.int 0)) (List.mem_of_getElem? (i := 21) rfl))
  | 10, _ => exact va_eqt (hs (Cond.eq (.elem (.static "PushedIn$Acts" "BODIES" "[I") (.int 10)) (.int 30)) (List.mem_of_getElem? (i := 22) rfl))
  | 11, _ => exact va_eqt (hs (Cond.eq (.elem (.static "PushedIn$Acts" "BODIES" "[I") (.int 11)) (.int 0)) (List.mem_of_getElem? (i := 23) rfl))
  | 12, _ => exact va_eqt (hs (Cond.eq (.elem (.static "PushedIn$Acts" "BODIES" "[I") (.int 12)) (.int 0)) (List.mem_of_getElem? (i := 24) rfl))
  | 13, _ => exact va_eqt (hs (Cond.eq (.elem (.static "PushedIn$Acts" "BODIES" "[I") (.int 13)) (.int 40)) (List.mem_of_getElem? (i := 25) rfl))
  | 14, _ => exact va_eqt (hs (Cond.eq (.elem (.static "PushedIn$Acts" "BODIES" "[I") (.int 14)) (.int 0)) (List.mem_of_getElem? (i := 26) rfl))
  | 15, _ => exact va_eqt (hs (Cond.eq (.elem (.static "PushedIn$Acts" "BODIES" "[I") (.int 15)) (.int 0)) (List.mem_of_getElem? (i := 27) rfl))
  | 16, _ => exact va_eqt (hs (Cond.eq (.elem (.static "PushedIn$Acts" "BODIES" "[I") (.int 16)) (.int 50)) (List.mem_of_getElem? (i := 28) rfl))
  | 17, _ => exact va_eqt (hs (Cond.eq (.elem (.static "PushedIn$Acts" "BODIES" "[I") (.int 17)) (.int 0)) (List.mem_of_getElem? (i := 29) rfl))
  | 18, _ => exact va_eqt (hs (Cond.eq (.elem (.static "PushedIn$Acts" "BODIES" "[I") (.int 18)) (.int 0)) (List.mem_of_getElem? (i := 30) rfl))
  | 19, _ => exact va_eqt (hs (Cond.eq (.elem (.static "PushedIn$Acts" "BODIES" "[I") (.int 19)) (.int 0)) (List.mem_of_getElem? (i := 31) rfl))
  | 20, _ => exact va_eqt (hs (Cond.eq (.elem (.static "PushedIn$Acts" "BODIES" "[I") (.int 20)) (.int 0)) (List.mem_of_getElem? (i := 32) rfl))
  | 21, _ => exact va_eqt (hs (Cond.eq (.elem (.static "PushedIn$Acts" "BODIES" "[I") (.int 21)) (.int 0)) (List.mem_of_getElem? (i := 33) rfl))
  | 22, _ => exact va_eqt (hs (Cond.eq (.elem (.static "PushedIn$Acts" "BODIES" "[I") (.int 22)) (.int 0)) (List.mem_of_getElem? (i := 34) rfl))
  | 23, _ => exact va_eqt (hs (Cond.eq (.elem (.static "PushedIn$Acts" "BODIES" "[I") (.int 23)) (.int 60)) (List.mem_of_getElem? (i := 35) rfl))
  | 24, _ => exact va_eqt (hs (Cond.eq (.elem (.static "PushedIn$Acts" "BODIES" "[I") (.int 24)) (.int 71)) (List.mem_of_getElem? (i := 36) rfl))
  | 25, _ => exact va_eqt (hs (Cond.eq (.elem (.static "PushedIn$Acts" "BODIES" "[I") (.int 25)) (.int 70)) (List.mem_of_getElem? (i := 37) rfl))
  | 26, _ => exact va_eqt (hs (Cond.eq (.elem (.static "PushedIn$Acts" "BODIES" "[I") (.int 26)) (.int 0)) (List.mem_of_getElem? (i := 38) rfl))
  | 27, _ => exact va_eqt (hs (Cond.eq (.elem (.static "PushedIn$Acts" "BODIES" "[I") (.int 27)) (.int 0)) (List.mem_of_getElem? (i := 39) rfl))
  | 28, _ => exact va_eqt (hs (Cond.eq (.elem (.static "PushedIn$Acts" "BODIES" "[I") (.int 28)) (.int 0)) (List.mem_of_getElem? (i := 40) rfl))
  | 29, _ => exact va_eqt (hs (Cond.eq (.elem (.static "PushedIn$Acts" "BODIES" "[I") (.int 29)) (.int 0)) (List.mem_of_getElem? (i := 41) rfl))
  | 30, _ => exact va_eqt (hs (Cond.eq (.elem (.static "PushedIn$Acts" "BODIES" "[I") (.int 30)) (.int 80)) (List.mem_of_getElem? (i := 42) rfl))
  | 31, _ => exact va_eqt (hs (Cond.eq (.elem (.static "PushedIn$Acts" "BODIES" "[I") (.int 31)) (.int 0)) (List.mem_of_getElem? (i := 43) rfl))
  | n + 32, hj => exact absurd hj (by show ¬ n + 32 < 32; omega)
theorem zro_K {b : Nat} {s : State} {A : Nat → Prop} (h : (Jvm.Cond.and given_1 narrow_1).before #[Value.ref b] s = true) (hA : ∀ a : Nat, a < s.heap.size → ¬ A a) : ∃ t : Nat, (Term.static "PushedIn" "KIND_ABOVE" "[I").eval #[Value.ref b] s none [] s = some (.ref t) ∧ zTbl t zpKA A s s.heap := by
  have hs := flat_of_before _ h
  refine va_Tof (by decide) (hs _ (List.mem_of_getElem? (i := 45) rfl)) (va_eqt (hs _ (List.mem_of_getElem? (i := 46) rfl))) (fun j hj => ?_) hA
  match j, hj with
  | 0, _ => exact va_eqt (hs (Cond.eq (.elem (.static "PushedIn" "KIND_ABOVE" "[I") (.int 0)) (.int (-1))) (List.mem_of_getElem? (i := 47) rfl))
  | 1, _ => exact va_eqt (hs (Cond.eq (.elem (.static "PushedIn" "KIND_ABOVE" "[I") (.int 1)) (.int 0)) (List.mem_of_getElem? (i := 48) rfl))
  | 2, _ => exact va_eqt (hs (Cond.eq (.elem (.static "PushedIn" "KIND_ABOVE" "[I") (.int 2)) (.int 0)) (List.mem_of_getElem? (i := 49) rfl))
  | 3, _ => exact va_eqt (hs (Cond.eq (.elem (.static "PushedIn" "KIND_ABOVE" "[I") (.int 3)) (.int 1)) (List.mem_of_getElem? (i := 50) rfl))
  | 4, _ => exact va_eqt (hs (Cond.eq (.elem (.static "PushedIn" "KIND_ABOVE" "[I") (.int 4)) (.int 1)) (List.mem_of_getElem? (i := 51) rfl))
  | 5, _ => exact va_eqt (hs (Cond.eq (.elem (.static "PushedIn" "KIND_ABOVE" "[I") (.int 5)) (.int 0)) (List.mem_of_getElem? (i := 52) rfl))
  | 6, _ => exact va_eqt (hs (Cond.eq (.elem (.static "PushedIn" "KIND_ABOVE" "[I") (.int 6)) (.int 3)) (List.mem_of_getElem? (i := 53) rfl))
  | 7, _ => exact va_eqt (hs (Cond.eq (.elem (.static "PushedIn" "KIND_ABOVE" "[I") (.int 7)) (.int 0)) (List.mem_of_getElem? (i := 54) rfl))
  | n + 8, hj => exact absurd hj (by show ¬ n + 8 < 8; omega)
theorem zro_S {b : Nat} {s : State} {A : Nat → Prop} (h : (Jvm.Cond.and given_1 narrow_1).before #[Value.ref b] s = true) (hA : ∀ a : Nat, a < s.heap.size → ¬ A a) : ∃ a v : Nat, (Term.string "PushedIn$Rules" 11).eval #[Value.ref b] s none [] s = some (.ref a) ∧ va_O "java/lang/String" a A s s.heap ∧ va_OF "java/lang/String" "coder" "B" (.int 0) a A s s.heap ∧ va_OF "java/lang/String" "value" "[B" (.ref v) a A s s.heap ∧ va_T .byte v 8 (fun j => .int (([119, 115, 109, 108, 110, 100, 97, 98] : List Int32).getD j 0)) A s s.heap := by
  have hs := flat_of_before _ h
  obtain ⟨a, c, cA, kA, q1, q2, q3, q4, q5, q6, -⟩ := Cond.exactly_spec (args := #[Value.ref b]) (first := s) (o := none) (s := s) (idx := []) (t := .string "PushedIn$Rules" 11) (cls := "java/lang/String") (hs _ (List.mem_of_getElem? (i := 55) rfl))
  obtain ⟨t, ht, hT⟩ := va_Tof (args := #[Value.ref b]) (tm := .field (.string "PushedIn$Rules" 11) "java/lang/String" "value" "[B") (ty := .byte) (N := 8) (f := fun j => .int (([119, 115, 109, 108, 110, 100, 97, 98] : List Int32).getD j 0)) (A := A) (by decide) (hs _ (List.mem_of_getElem? (i := 57) rfl)) (va_eqt (hs _ (List.mem_of_getElem? (i := 58) rfl))) (fun j hj => by
    match j, hj with
    | 0, _ => exact va_eqt (hs (Cond.eq (.elem (.field (.string "PushedIn$Rules" 11) "java/lang/String" "value" "[B") (.int 0)) (.int 119)) (List.mem_of_getElem? (i := 59) rfl))
    | 1, _ => exact va_eqt (hs (Cond.eq (.elem (.field (.string "PushedIn$Rules" 11) "java/lang/String" "value" "[B") (.int 1)) (.int 115)) (List.mem_of_getElem? (i := 60) rfl))
    | 2, _ => exact va_eqt (hs (Cond.eq (.elem (.field (.string "PushedIn$Rules" 11) "java/lang/String" "value" "[B") (.int 2)) (.int 109)) (List.mem_of_getElem? (i := 61) rfl))
    | 3, _ => exact va_eqt (hs (Cond.eq (.elem (.field (.string "PushedIn$Rules" 11) "java/lang/String" "value" "[B") (.int 3)) (.int 108)) (List.mem_of_getElem? (i := 62) rfl))
    | 4, _ => exact va_eqt (hs (Cond.eq (.elem (.field (.string "PushedIn$Rules" 11) "java/lang/String" "value" "[B") (.int 4)) (.int 110)) (List.mem_of_getElem? (i := 63) rfl))
    | 5, _ => exact va_eqt (hs (Cond.eq (.elem (.field (.string "PushedIn$Rules" 11) "java/lang/String" "value" "[B") (.int 5)) (.int 100)) (List.mem_of_getElem? (i := 64) rfl))
    | 6, _ => exact va_eqt (hs (Cond.eq (.elem (.field (.string "PushedIn$Rules" 11) "java/lang/String" "value" "[B") (.int 6)) (.int 97)) (List.mem_of_getElem? (i := 65) rfl))
    | 7, _ => exact va_eqt (hs (Cond.eq (.elem (.field (.string "PushedIn$Rules" 11) "java/lang/String" "value" "[B") (.int 7)) (.int 98)) (List.mem_of_getElem? (i := 66) rfl))
    | n + 8, hj => exact absurd hj (by omega)) hA
  exact ⟨a, t, q1, ⟨cA, q3, q5, by rw [q6]; exact q2, hA a (Array.getElem?_eq_some_iff.mp q3).1⟩, vk_OFof q1 (va_eqt (hs _ (List.mem_of_getElem? (i := 56) rfl))) hA, vk_OFof q1 ht hA, hT⟩
theorem zeqR {args : Array Value} {s : State} {t u : Term} {a b : Nat} (h : (Cond.eq t u).before args s = true) (ht : t.eval args s none [] s = some (.ref a)) (hu : u.eval args s none [] s = some (.ref b)) : b = a := by
  simp [Cond.before, Cond.holds, Cond.value, ht, hu] at h
  exact h.symm
theorem zro_T {b a : Nat} {s : State} (h : (Jvm.Cond.and given_1 narrow_1).before #[Value.ref b] s = true) (ha : (Term.string "PushedIn$Rules" 11).eval #[Value.ref b] s none [] s = some (.ref a)) : (Term.string "PushedIn$Text" 78).eval #[Value.ref b] s none [] s = some (.ref a) := by
  have hs := flat_of_before _ h
  obtain ⟨a', c, cA, kA, q1, q2, q3, q4, q5, q6, -⟩ := Cond.exactly_spec (args := #[Value.ref b]) (first := s) (o := none) (s := s) (idx := []) (t := .string "PushedIn$Text" 78) (cls := "java/lang/String") (hs _ (List.mem_of_getElem? (i := 67) rfl))
  rw [q1, zeqR (hs (Cond.eq (.string "PushedIn$Rules" 11) (.string "PushedIn$Text" 78)) (List.mem_of_getElem? (i := 79) rfl)) ha q1]
theorem zro_all {b : Nat} {s : State} {A : Nat → Prop} (hts : ∀ w ∈ lw_tbl, w.before #[Value.ref b] s = true) (h : (Jvm.Cond.and given_1 narrow_1).before #[Value.ref b] s = true) (hA : ∀ a : Nat, a < s.heap.size → ¬ A a) : ∃ adR : Nat → Nat, zpRO2 adR A s s.heap := by
  have hs := flat_of_before _ h
  obtain ⟨tB, b1, b2⟩ := zro_B h hA
  obtain ⟨tK, k1, k2⟩ := zro_K h hA
  obtain ⟨a, v, s1, s2, s3, s4, s5⟩ := zro_S h hA
  refine ⟨fun q => if q = 1000 then tK else if q = 1001 then tB else if q = 2000 then a else v, ⟨⟨va_Zof (hts _ (zlT5 (i := 44) rfl)) (hts _ (zlT1 (i := 1) rfl)) k1 hA, k2, va_Zof (hts _ (zlT5 (i := 42) rfl)) (hts _ (zlT1 (i := 12) rfl)) b1 hA, b2⟩, ⟨va_Zof (hts _ (zlT2 (i := 42) rfl)) (hts _ (zlT1 (i := 9) rfl)) (va_eqi (hs _ (List.mem_of_getElem? (i := 4) rfl))) hA, s2, s3, s4, s5⟩, vk_R.of (hts _ (zlT2 (i := 32) rfl)) s1, vk_R.of (hts _ (zlT4 (i := 7) rfl)) (zro_T h s1), zro_N hts, va_Nw.of rfl (hts _ (zlT5 (i := 43) rfl))⟩, by
    have h9 := hts (Cond.arrayOver (.object "PushedIn$Comer")) (zlT1 (i := 37) rfl)
    first | exact h9 | simpa only [va_AO, Cond.before, Cond.holds, Cond.value] using h9, by
    have h9 := hts (Cond.arrayOver (.array .long)) (zlT2 (i := 153) rfl)
    first | exact h9 | simpa only [Cond.before, Cond.holds, Cond.value] using h9⟩
theorem zro_congr {ad ad' : Nat → Nat} {A : Nat → Prop} {U : State} {H : Heap} (h1 : ad' 1000 = ad 1000) (h2 : ad' 1001 = ad 1001) (h3 : ad' 2000 = ad 2000) (h4 : ad' 2001 = ad 2001) (h : zpRO ad A U H) : zpRO ad' A U H := by
  unfold zpRO zROx zStr at h ⊢
  rw [h1, h2, h3, h4]
  exact h
theorem zKn {b : Nat} {s : State} (hts : ∀ w ∈ zpTs, w.before #[Value.ref b] s = true) : ∀ c : Nat, ∃ y : ClassId × (Nat → Nat), ∀ q : vw_C, zpcl[c]? = some q → u_Kn s q.1 q.2.1 q.2.2 y.1 y.2 := by
  intro c
  match c with
  | 0 => obtain ⟨x, y, h⟩ := u_known hts zpU0.1 (hts _ ((zmT2 (i := 126) rfl rfl) : Cond.instantiable "PushedIn$Acts" 4 ∈ zpTs)); exact ⟨(x, y), fun q hq => by cases hq; exact h⟩
  | 1 => obtain ⟨x, y, h⟩ := u_known hts zpU1.1 (hts _ ((zmT1 (i := 215) rfl rfl) : Cond.instantiable "PushedIn$Changes" 7 ∈ zpTs)); exact ⟨(x, y), fun q hq => by cases hq; exact h⟩
  | 2 => obtain ⟨x, y, h⟩ := u_known hts zpU2.1 (hts _ ((zmT1 (i := 38) rfl rfl) : Cond.instantiable "PushedIn$Comer" 12 ∈ zpTs)); exact ⟨(x, y), fun q hq => by cases hq; exact h⟩
  | 3 => obtain ⟨x, y, h⟩ := u_known hts zpU3.1 (hts _ ((zmT1 (i := 205) rfl rfl) : Cond.instantiable "PushedIn$ComerReader" 1 ∈ zpTs)); exact ⟨(x, y), fun q hq => by cases hq; exact h⟩
  | 4 => obtain ⟨x, y, h⟩ := u_known hts zpU4.1 (hts _ ((zmT2 (i := 5) rfl rfl) : Cond.instantiable "PushedIn$Passing" 5 ∈ zpTs)); exact ⟨(x, y), fun q hq => by cases hq; exact h⟩
  | 5 => obtain ⟨x, y, h⟩ := u_known hts zpU5.1 (hts _ ((zmT2 (i := 147) rfl rfl) : Cond.instantiable "PushedIn$Places" 4 ∈ zpTs)); exact ⟨(x, y), fun q hq => by cases hq; exact h⟩
  | 6 => obtain ⟨x, y, h⟩ := u_known hts zpU6.1 (hts _ ((zmT2 (i := 27) rfl rfl) : Cond.instantiable "PushedIn$Rules" 9 ∈ zpTs)); exact ⟨(x, y), fun q hq => by cases hq; exact h⟩
  | 7 => obtain ⟨x, y, h⟩ := u_known hts zpU7.1 (hts _ ((zmT2 (i := 96) rfl rfl) : Cond.instantiable "PushedIn$Survey" 7 ∈ zpTs)); exact ⟨(x, y), fun q hq => by cases hq; exact h⟩
  | 8 => obtain ⟨x, y, h⟩ := u_known hts zpU8.1 (hts _ ((zmT1 (i := 182) rfl rfl) : Cond.instantiable "PushedIn$Tape" 4 ∈ zpTs)); exact ⟨(x, y), fun q hq => by cases hq; exact h⟩
  | 9 => obtain ⟨x, y, h⟩ := u_known hts zpU9.1 (hts _ ((zmT2 (i := 44) rfl rfl) : Cond.instantiable "PushedIn$Text" 5 ∈ zpTs)); exact ⟨(x, y), fun q hq => by cases hq; exact h⟩
  | 10 => obtain ⟨x, y, h⟩ := u_known hts zpU10.1 (hts _ ((zmT1 (i := 31) rfl rfl) : Cond.instantiable "PushedIn$Yard" 11 ∈ zpTs)); exact ⟨(x, y), fun q hq => by cases hq; exact h⟩
  | 11 => obtain ⟨x, y, h⟩ := u_known hts zpU11.1 (hts _ ((zmT1 (i := 23) rfl rfl) : Cond.instantiable "PushedIn" 9 ∈ zpTs)); exact ⟨(x, y), fun q hq => by cases hq; exact h⟩
  | 12 => obtain ⟨x, y, h⟩ := u_known hts zpU12.1 (hts _ ((zmT5 (i := 127) rfl rfl) : Cond.instantiable "PushedInModel" 53 ∈ zpTs)); exact ⟨(x, y), fun q hq => by cases hq; exact h⟩
  | n + 13 => exact ⟨(0, fun _ => 0), fun q hq => by cases hq⟩
theorem zarr_K {args : Array Value} {s : State} {ty : FieldType} (h : (Cond.arrayClass ty).before args s = true) : ∃ cA : ClassId, s.vm.findClass ("[" ++ ty.toString) = some cA ∧ ArrOfT s cA ty := by
  obtain ⟨cA, kA, comp, h1, h2, h3⟩ := Cond.arrayClass_spec h
  exact ⟨cA, h1, fun n z => ⟨fun k h => (by cases h), kA, h2, comp, h3⟩⟩
def zpDF0 : List zMV := [(3, 0), (3, 47), (3, 49), (3, 50), (3, 55), (3, 59), (3, 73), (3, 76), (3, 78)]
def zpDA0 : List zMC := [(0, 10, 0, [(3, 1), (1, 0), (3, 2), (3, 3), (3, 4), (3, 5), (3, 6), (1, 0), (1, 0), (1, 0), (1, 0)]), (3, 3, 40, [(0, 7)]), (1, 0, 6, [(0, 1), (0, 1)]), (1, 0, 6, [(0, 10), (0, 10)]), (1, 0, 12, [(0, 0), (0, 0)]), (1, 0, 12, [(0, 0), (0, 0)]), (1, 0, 12, [(0, 0), (0, 0)]), (0, 2, 0, [(1, 0), (1, 0), (1, 0), (1, 0), (1, 0), (1, 0), (1, 0), (1, 0), (1, 0), (1, 0), (1, 0), (1, 0)]), (0, 2, 0, [(1, 0), (1, 0), (1, 0), (1, 0), (1, 0), (1, 0), (1, 0), (1, 0), (1, 0), (1, 0), (1, 0), (1, 0)]), (0, 2, 0, [(1, 0), (1, 0), (1, 0), (1, 0), (1, 0), (1, 0), (1, 0), (1, 0), (1, 0), (1, 0), (1, 0), (1, 0)]), (0, 2, 0, [(1, 0), (1, 0), (1, 0), (1, 0), (1, 0), (1, 0), (1, 0), (1, 0), (1, 0), (1, 0), (1, 0), (1, 0)]), (0, 2, 0, [(1, 0), (1, 0), (1, 0), (1, 0), (1, 0), (1, 0), (1, 0), (1, 0), (1, 0), (1, 0), (1, 0), (1, 0)]), (0, 2, 0, [(1, 0), (1, 0), (1, 0), (1, 0), (1, 0), (1, 0), (1, 0), (1, 0), (1, 0), (1, 0), (1, 0), (1, 0)]), (0, 2, 0, [(1, 0), (1, 0), (1, 0), (1, 0), (1, 0), (1, 0), (1, 0), (1, 0), (1, 0), (1, 0), (1, 0), (1, 0)]), (0, 2, 0, [(1, 0), (1, 0), (1, 0), (1, 0), (1, 0), (1, 0), (1, 0), (1, 0), (1, 0), (1, 0), (1, 0), (1, 0)]), (0, 2, 0, [(1, 0), (1, 0), (1, 0), (1, 0), (1, 0), (1, 0), (1, 0), (1, 0), (1, 0), (1, 0), (1, 0), (1, 0)]), (0, 2, 0, [(1, 0), (1, 0), (1, 0), (1, 0), (1, 0), (1, 0), (1, 0), (1, 0), (1, 0), (1, 0), (1, 0), (1, 0)]), (0, 2, 0, [(1, 0), (1, 0), (1, 0), (1, 0), (1, 0), (1, 0), (1, 0), (1, 0), (1, 0), (1, 0), (1, 0), (1, 0)]), (0, 2, 0, [(1, 0), (1, 0), (1, 0), (1, 0), (1, 0), (1, 0), (1, 0), (1, 0), (1, 0), (1, 0), (1, 0), (1, 0)]), (0, 2, 0, [(1, 0), (1, 0), (1, 0), (1, 0), (1, 0), (1, 0), (1, 0), (1, 0), (1, 0), (1, 0), (1, 0), (1, 0)]), (0, 2, 0, [(1, 0), (1, 0), (1, 0), (1, 0), (1, 0), (1, 0), (1, 0), (1, 0), (1, 0), (1, 0), (1, 0), (1, 0)]), (0, 2, 0, [(1, 0), (1, 0), (1, 0), (1, 0), (1, 0), (1, 0), (1, 0), (1, 0), (1, 0), (1, 0), (1, 0), (1, 0)]), (0, 2, 0, [(1, 0), (1, 0), (1, 0), (1, 0), (1, 0), (1, 0), (1, 0), (1, 0), (1, 0), (1, 0), (1, 0), (1, 0)]), (0, 2, 0, [(1, 0), (1, 0), (1, 0), (1, 0), (1, 0), (1, 0), (1, 0), (1, 0), (1, 0), (1, 0), (1, 0), (1, 0)]), (0, 2, 0, [(1, 0), (1, 0), (1, 0), (1, 0), (1, 0), (1, 0), (1, 0), (1, 0), (1, 0), (1, 0), (1, 0), (1, 0)]), (0, 2, 0, [(1, 0), (1, 0), (1, 0), (1, 0), (1, 0), (1, 0), (1, 0), (1, 0), (1, 0), (1, 0), (1, 0), (1, 0)]), (0, 2, 0, [(1, 0), (1, 0), (1, 0), (1, 0), (1, 0), (1, 0), (1, 0), (1, 0), (1, 0), (1, 0), (1, 0), (1, 0)]), (0, 2, 0, [(1, 0), (1, 0), (1, 0), (1, 0), (1, 0), (1, 0), (1, 0), (1, 0), (1, 0), (1, 0), (1, 0), (1, 0)]), (0, 2, 0, [(1, 0), (1, 0), (1, 0), (1, 0), (1, 0), (1, 0), (1, 0), (1, 0), (1, 0), (1, 0), (1, 0), (1, 0)]), (0, 2, 0, [(1, 0), (1, 0), (1, 0), (1, 0), (1, 0), (1, 0), (1, 0), (1, 0), (1, 0), (1, 0), (1, 0), (1, 0)]), (0, 2, 0, [(1, 0), (1, 0), (1, 0), (1, 0), (1, 0), (1, 0), (1, 0), (1, 0), (1, 0), (1, 0), (1, 0), (1, 0)]), (0, 2, 0, [(1, 0), (1, 0), (1, 0), (1, 0), (1, 0), (1, 0), (1, 0), (1, 0), (1, 0), (1, 0), (1, 0), (1, 0)]), (0, 2, 0, [(1, 0), (1, 0), (1, 0), (1, 0), (1, 0), (1, 0), (1, 0), (1, 0), (1, 0), (1, 0), (1, 0), (1, 0)]), (0, 2, 0, [(1, 0), (1, 0), (1, 0), (1, 0), (1, 0), (1, 0), (1, 0), (1, 0), (1, 0), (1, 0), (1, 0), (1, 0)]), (0, 2, 0, [(1, 0), (1, 0), (1, 0), (1, 0), (1, 0), (1, 0), (1, 0), (1, 0), (1, 0), (1, 0), (1, 0), (1, 0)]), (0, 2, 0, [(1, 0), (1, 0), (1, 0), (1, 0), (1, 0), (1, 0), (1, 0), (1, 0), (1, 0), (1, 0), (1, 0), (1, 0)]), (0, 2, 0, [(1, 0), (1, 0), (1, 0), (1, 0), (1, 0), (1, 0), (1, 0), (1, 0), (1, 0), (1, 0), (1, 0), (1, 0)]), (0, 2, 0, [(1, 0), (1, 0), (1, 0), (1, 0), (1, 0), (1, 0), (1, 0), (1, 0), (1, 0), (1, 0), (1, 0), (1, 0)]), (0, 2, 0, [(1, 0), (1, 0), (1, 0), (1, 0), (1, 0), (1, 0), (1, 0), (1, 0), (1, 0), (1, 0), (1, 0), (1, 0)]), (0, 2, 0, [(1, 0), (1, 0), (1, 0), (1, 0), (1, 0), (1, 0), (1, 0), (1, 0), (1, 0), (1, 0), (1, 0), (1, 0)]), (0, 2, 0, [(1, 0), (1, 0), (1, 0), (1, 0), (1, 0), (1, 0), (1, 0), (1, 0), (1, 0), (1, 0), (1, 0), (1, 0)]), (0, 2, 0, [(1, 0), (1, 0), (1, 0), (1, 0), (1, 0), (1, 0), (1, 0), (1, 0), (1, 0), (1, 0), (1, 0), (1, 0)]), (0, 2, 0, [(1, 0), (1, 0), (1, 0), (1, 0), (1, 0), (1, 0), (1, 0), (1, 0), (1, 0), (1, 0), (1, 0), (1, 0)]), (0, 2, 0, [(1, 0), (1, 0), (1, 0), (1, 0), (1, 0), (1, 0), (1, 0), (1, 0), (1, 0), (1, 0), (1, 0), (1, 0)]), (0, 2, 0, [(1, 0), (1, 0), (1, 0), (1, 0), (1, 0), (1, 0), (1, 0), (1, 0), (1, 0), (1, 0), (1, 0), (1, 0)]), (0, 2, 0, [(1, 0), (1, 0), (1, 0), (1, 0), (1, 0), (1, 0), (1, 0), (1, 0), (1, 0), (1, 0), (1, 0), (1, 0)]), (0, 2, 0, [(1, 0), (1, 0), (1, 0), (1, 0), (1, 0), (1, 0), (1, 0), (1, 0), (1, 0), (1, 0), (1, 0), (1, 0)]), (0, 8, 0, [(3, 48), (1, 0), (1, 0), (1, 0)]), (6, 1, 60, []), (0, 3, 0, [(3, 47)]), (0, 1, 0, [(3, 0), (3, 51), (3, 52), (3, 53), (3, 54), (1, 0), (1, 0)]), (1, 0, 40, [(0, 0), (0, 0)]), (1, 0, 40, [(0, 0), (0, 0)]), (1, 0, 40, [(0, 0), (0, 0)]), (1, 0, 40, [(0, 0), (0, 0)]), (0, 4, 0, [(3, 0), (3, 56), (3, 57), (3, 58), (1, 0)]), (1, 0, 6, [(0, 0), (0, 0)]), (1, 0, 6, [(0, 0), (0, 0)]), (1, 0, 64, [(0, 0), (0, 0)]), (0, 6, 0, [(3, 0), (3, 60), (3, 61), (3, 62), (3, 63), (3, 65), (3, 69), (3, 64), (1, 0)]), (1, 0, 8, [(0, 0), (0, 0)]), (1, 0, 20, [(0, 0), (0, 0)]), (1, 0, 20, [(0, 0), (0, 0)]), (1, 0, 20, [(0, 0), (0, 0)]), (1, 0, 20, [(0, 0), (0, 0)]), (0, 9, 0, [(3, 47), (3, 66), (3, 67), (3, 68), (1, 0)]), (1, 0, 61, [(0, 0), (0, 0)]), (1, 0, 61, [(0, 0), (0, 0)]), (1, 0, 61, [(0, 0), (0, 0)]), (0, 9, 0, [(3, 47), (3, 70), (3, 71), (3, 72), (1, 0)]), (1, 0, 61, [(0, 0), (0, 0)]), (1, 0, 61, [(0, 0), (0, 0)]), (1, 0, 61, [(0, 0), (0, 0)]), (0, 7, 0, [(3, 0), (3, 74), (3, 75), (1, 0), (1, 0), (1, 0), (1, 0)]), (1, 0, 40, [(0, 0), (0, 0)]), (1, 0, 40, [(0, 0), (0, 0)]), (0, 0, 0, [(3, 77), (1, 0), (1, 0), (1, 0)]), (1, 0, 24, [(0, 0), (0, 0)]), (0, 5, 0, [(3, 79), (3, 80), (3, 81), (3, 82)]), (1, 0, 6, [(0, (-1)), (0, (-1))]), (1, 0, 6, [(0, 0), (0, 0)]), (1, 0, 6, [(0, 0), (0, 0)]), (4, 4, 6, [(0, 83)]), (2, 2, 60, []), (2, 2, 60, []), (2, 2, 60, []), (2, 2, 60, []), (2, 2, 60, []), (2, 2, 60, [])]
def zpDF1 : List zMV := [(3, 0), (3, 1), (3, 2), (3, 3), (1, 0), (1, 0), (1, 0), (3, 4), (3, 5), (3, 6), (1, 0), (1, 0), (3, 7), (1, 0), (3, 8), (1, (-1)), (1, 0), (1, 0), (1, 0), (1, 0), (1, 0), (3, 9), (1, 0), (3, 10), (3, 11), (3, 12), (3, 13), (3, 14), (3, 15), (3, 16), (3, 17), (3, 18), (3, 19), (3, 20), (3, 21), (3, 22), (1, 0), (1, 0), (1, 0), (3, 23), (3, 24), (3, 25), (3, 26), (3, 27), (3, 28), (3, 29), (1, 0), (1, 0), (1, 0), (3, 30), (3, 31), (3, 32), (3, 33)]
def zpDA1 : List zMC := [(7, 0, 53, [(0, 0), (0, 0), (0, 0), (0, 0), (0, 0), (0, 0), (0, 0), (0, 0), (0, 0), (0, 0), (0, 0), (0, 0), (0, 0), (0, 0), (0, 0), (0, 0), (0, 0), (0, 0), (0, 0), (0, 0), (0, 0), (0, 0), (0, 0), (0, 0), (0, 0), (0, 0), (0, 0), (0, 0), (0, 0), (0, 0), (0, 0), (0, 0), (0, 0), (0, 0), (0, 0), (0, 0), (0, 0), (0, 0), (0, 0), (0, 0), (0, 1), (0, 1), (0, 1), (0, 1), (0, 1), (0, 1), (0, 10), (0, 10), (0, 10), (0, 10), (0, 10), (0, 10), (0, 0)]), (1, 0, 40, [(0, 0), (0, 0)]), (1, 0, 40, [(0, 0), (0, 0)]), (1, 0, 40, [(0, 0), (0, 0)]), (1, 0, 12, [(0, 0), (0, 0)]), (1, 0, 12, [(0, 0), (0, 0)]), (1, 0, 12, [(0, 0), (0, 0)]), (1, 0, 60, [(0, 0), (0, 0)]), (1, 0, 60, [(0, 0), (0, 0)]), (1, 0, 8, [(0, 0), (0, 0)]), (1, 0, 40, [(0, 0), (0, 0)]), (1, 0, 40, [(0, 0), (0, 0)]), (1, 0, 40, [(0, 0), (0, 0)]), (1, 0, 40, [(0, 0), (0, 0)]), (1, 0, 40, [(0, 0), (0, 0)]), (1, 0, 40, [(0, 0), (0, 0)]), (1, 0, 40, [(0, 0), (0, 0)]), (1, 0, 40, [(0, 0), (0, 0)]), (1, 0, 7, [(0, 0), (0, 0)]), (1, 0, 40, [(0, 0), (0, 0)]), (1, 0, 40, [(0, 0), (0, 0)]), (1, 0, 6, [(0, 0), (0, 0)]), (1, 0, 6, [(0, 0), (0, 0)]), (1, 0, 20, [(0, 0), (0, 0)]), (1, 0, 20, [(0, 0), (0, 0)]), (1, 0, 20, [(0, 0), (0, 0)]), (1, 0, 20, [(0, 0), (0, 0)]), (1, 0, 40, [(0, 0), (0, 0)]), (1, 0, 40, [(0, 0), (0, 0)]), (1, 0, 24, [(0, 0), (0, 0)]), (1, 0, 6, [(0, (-1)), (0, (-1))]), (1, 0, 6, [(0, 0), (0, 0)]), (2, 2, 360, []), (2, 2, 60, [])]
def zpDC : List zMC := ((0, 11, 0, zpDF0.map (zmapV 0 1 [])) :: zpDA0.map (zmapC 0 1 [])) ++ ((0, 12, 0, zpDF1.map (zmapV 90 91 [])) :: zpDA1.map (zmapC 90 91 []))
def zpPm : List Nat := [0, 1, 48, 50, 51, 56, 60, 74, 77, 79, 66, 70, 2, 3, 4, 5, 6, 7, 49, 52, 53, 54, 55, 57, 58, 59, 61, 62, 63, 64, 65, 67, 71, 68, 72, 69, 73, 75, 76, 78, 80, 81, 82, 83, 84, 85, 86, 87, 88, 89, 8, 9, 10, 11, 12, 13, 14, 15, 16, 17, 18, 19, 20, 21, 22, 23, 24, 25, 26, 27, 28, 29, 30, 31, 32, 33, 34, 35, 36, 37, 38, 39, 40, 41, 42, 43, 44, 45, 46, 47, 90, 91, 92, 93, 94, 95, 96, 97, 98, 99, 100, 101, 102, 103, 104, 105, 106, 107, 108, 109, 110, 111, 112, 113, 114, 115, 116, 117, 118, 119, 120, 121, 122, 123, 124]
def zpIn : List Nat := [0, 1, 12, 13, 14, 15, 16, 17, 50, 51, 52, 53, 54, 55, 56, 57, 58, 59, 60, 61, 62, 63, 64, 65, 66, 67, 68, 69, 70, 71, 72, 73, 74, 75, 76, 77, 78, 79, 80, 81, 82, 83, 84, 85, 86, 87, 88, 89, 2, 18, 3, 4, 19, 20, 21, 22, 5, 23, 24, 25, 6, 26, 27, 28, 29, 30, 10, 31, 33, 35, 11, 32, 34, 36, 7, 37, 38, 8, 39, 9, 40, 41, 42, 43, 44, 45, 46, 47, 48, 49, 90, 91, 92, 93, 94, 95, 96, 97, 98, 99, 100, 101, 102, 103, 104, 105, 106, 107, 108, 109, 110, 111, 112, 113, 114, 115, 116, 117, 118, 119, 120, 121, 122, 123, 124]
theorem zpWB : zwB zpZ zpDC zpPm zpIn 125 = true := by decide +kernel
theorem zpPmL : zpPm.length = 125 ∧ va_nd zpPm = true ∧ zpPm.all (fun z => decide (z < 125)) = true := by decide +kernel
theorem zpDCl : (zpDF0.all (zargB 0) = true ∧ zpDA0.all (zargC 0) = true ∧ zpDA0.length = 89) ∧ zpDF1.all (zargB 0) = true ∧ zpDA1.all (zargC 0) = true ∧ zpDA1.length = 34 := by decide +kernel
theorem zMW.piece {ws0 ws wsF : va_W} {q r : Nat} {na adc : Nat → Nat} {tys tys' : List (ClassId × FieldType)} {F : List zMV} {ci len' : Nat} {cs : List zMC} (h : zMW ws0 ws q r na (fun _ => 0) tys F ci cs) (hq : ws0.length = q + 1) (hag : ∀ i, q ≤ i → i < q + 1 + cs.length → wsF[i]? = ws[i]?) (hadc : ∀ i x, wsF[i]? = some x → adc i = x.1) (ht : ∀ (t : Nat) (y : ClassId × FieldType), tys[t]? = some y → tys'[t]? = some y) (hF : F.all (zargB 0) = true) (hC : cs.all (zargC 0) = true) (hl : q + 1 + cs.length ≤ len') : ∀ (k : Nat) (C : zMC), ((0, ci, 0, F.map (zmapV q (q + 1) [])) :: cs.map (zmapC q (q + 1) []))[k]? = some C → ∃ x, wsF[q + k]? = some (adc (q + k), x) ∧ zcr 0 adc (fun _ => 0) len' tys' C x := by
  obtain ⟨h1, h2, h3, ⟨fs, h4, h5⟩, h6⟩ := h
  have hr : adc q = r := by
    have := hadc q _ ((hag q (Nat.le_refl _) (by omega)).trans h4)
    exact this
  have hn : ∀ i, i < cs.length → adc (q + 1 + i) = na i := fun i hi => by
    obtain ⟨x, x1, -⟩ := h6 i _ (List.getElem?_eq_getElem hi)
    rw [hq] at x1
    exact hadc _ _ ((hag _ (by omega) (by omega)).trans x1)
  have hav : ∀ i, i < 0 → zvr 0 adc (fun _ => 0) len' (([] : List zMV).getD i (0, 0)) (.ref ((fun _ => 0) i)) := fun i hi => absurd hi (Nat.not_lt_zero i)
  intro k C hk
  cases k with
  | zero =>
    cases hk
    refine ⟨.inr (ci, fs), by rw [Nat.add_zero, hag q (Nat.le_refl _) (by omega), h4, hr], fs, rfl, by rw [List.length_map]; exact h5.1, fun j V v hV hv => ?_⟩
    rw [List.getElem?_map] at hV
    obtain ⟨V0, hV0, rfl⟩ := Option.map_eq_some_iff.mp hV
    exact (h5.2 j V0 v hV0 hv).map (n := 0) hr (by omega) (by omega) hn hav (List.all_eq_true.mp hF V0 (List.mem_of_getElem? hV0))
  | succ k =>
    rw [List.getElem?_cons_succ, List.getElem?_map] at hk
    obtain ⟨C0, hC0, rfl⟩ := Option.map_eq_some_iff.mp hk
    have lk : k < cs.length := (List.getElem?_eq_some_iff.mp hC0).1
    obtain ⟨x, x1, x2⟩ := h6 k C0 hC0
    rw [hq] at x1
    refine ⟨x, ?_, (x2.mono (fun _ _ => rfl) (Nat.le_refl _) ht).map (n := 0) hr (by omega) (by omega) hn hav (List.all_eq_true.mp hC C0 (List.mem_of_getElem? hC0))⟩
    rw [show q + (k + 1) = q + 1 + k by omega, hag _ (by omega) (by omega), x1, hn k lk]
section ZST
variable {p : Program} {l : Launch} {e : Env} {R : Room} {s : State} {m : MethodId} {args : Array Value} {below : List Frame} {meth : Method} {c : Code} {Q : State → Prop} {cc : ByteArray} {pc ce sl nL : Nat} {D : va_G} {cl : List vw_C} {tys : List (ClassId × FieldType)} {A : Nat → Prop} {ad : Nat → Nat} {H : Heap} {locs : List Loc} {ls : Array Slot} {rest : List Value} {ws : va_W} {q : Nat} {Ts : List Cond} {own : String} {RO : zRO}
theorem zn_ctorL (hx : p.tables.exec = Jvm.exec) (hb : c.code = cc) (hml : c.maxLocals = nL) (hown : s.vm.findClass own = some m.cls) (hts : ∀ w ∈ Ts, w.before args s = true) (hTg : ∀ w ∈ Ts, goodWord w = true) (hR : zROk RO) (hro : RO ad A s s.heap) (hA : ∀ p : Nat, s.heap.size ≤ p → A p) (hK : va_K D cl tys s) (hP : va_P D cl ws H) (hD : va_D A ws) (hS : va_S A s.heap H locs)
    {y : MethodName} {bytes : ByteArray} {maxL fr lo mc ms cj tn idx r : Nat} {F1 Ff : List zMV} {cs2 : List zMC} {ext : List FieldType} (hCt : zCt l Ts cl RO y bytes maxL fr lo mc ms 0 cj tn F1 Ff cs2 ext) (hty : zTy3 tn tys) {fs : List Value} (hq : ws[q]? = some (r, .inr (cj, fs))) (hz : zvs r (fun _ => 0) (fun _ => 0) 0 F1 fs)
    (hl : Cond.methodLink own idx y ∈ Ts) (hw : Cond.instanceMethod y ∈ Ts ∧ Cond.initialized y.cls ∈ Ts ∧ Cond.code y bytes maxL none ∈ Ts ∧ y.cls ≠ "java/lang/invoke/MethodHandle" ∧ y.cls ≠ "java/lang/invoke/VarHandle" ∧ (parseMethodDescriptor y.desc).map (fun d => d.parameters.length) = some 0) (hyn : y.name = "<init>") (hsz : ls.size = nL) (hroom : fr + 1 ≤ R.frames ∧ 8 + (maxL + 11) + lo ≤ R.locals) (hsum : (rest.map fun v => v.category).sum ≤ 8) (hd : decode cc pc = .ok (.invokespecial idx, 3)) (hcs : ce + mc ≤ R.cells ∧ sl + ms ≤ R.slots)
    (kk : ∀ (H1 : Heap) (locs1 : List Loc) (ws1 : va_W) (na1 : Nat → Nat) (xs : List (ClassId × FieldType)), xs.map Prod.snd = ext → va_K D cl (tys ++ xs) s → va_P D cl ws1 H1 → va_D A ws1 → va_S A s.heap H1 locs1 → zMW ws ws1 q r na1 (fun _ => 0) (tys ++ xs) Ff cj cs2 → W p l e R s m args below meth c H1 locs1 (ce + mc) (sl + ms) Q (F0 m (pc + 3) ls rest)) : W p l e R s m args below meth c H locs ce sl Q (F0 m pc ls (.ref r :: rest)) := by
  obtain ⟨l2, l4, l5, l6, l7, l8⟩ := hw
  have hgd : GoodIn Ts (Cond.code y bytes maxL none :: Ts) := zgoodIn hTg (fun w hw => by
    rcases List.mem_cons.mp hw with rfl | hw
    · exact l5
    · exact hw)
  have hMet := hCt D tys A ad ws q r (fun _ => 0) hty ⟨fs, hq, hz⟩ hD
  have hpre : PreS s H (fun ar U => ar = (Value.ref r :: (List.range 0).map (fun i => Value.ref ((fun _ => 0) i))).toArray ∧ va_P D cl ws U.heap ∧ va_K D cl tys U ∧ RO ad A U U.heap ∧ ∀ p : Nat, U.heap.size ≤ p → A p) [Value.ref r] := by
    refine ⟨fun ar U g mk hU => ⟨hU.1, hU.2.1, va_K.moved (u := U) (U := U.calling g mk ar) (Vm.Alike.refl U.vm) hU.2.2.1, hR.2.1 ad A U _ _ rfl hU.2.2.2.1, hU.2.2.2.2⟩, fun U hU hW => ⟨rfl, by rw [hU]; exact hP, va_K.moved hW.alike hK, by
      rw [hU]
      exact hR.1 ad A s U H hW (hR.2.2 ad A s s.heap H (fun a h1 h2 => hS.2.1 a h1 h2) hro), fun p hp => hA p (by rw [hU] at hp; exact Nat.le_trans hS.1 hp)⟩⟩
  have hrun : va_Run p l e R s m args below meth c H locs ce sl mc ms (F0 m pc ls (.ref r :: rest)) rest (fun st o t => va_F A st t ∧ o = .returned none ∧ ∃ (ws' : va_W) (na : Nat → Nat) (xs : List (ClassId × FieldType)), xs.map Prod.snd = ext ∧ va_K D cl (tys ++ xs) t ∧ va_P D cl ws' t.heap ∧ va_D A ws' ∧ zMW ws ws' q r na (fun _ => 0) (tys ++ xs) Ff cj cs2) A :=
    va_runI (As := []) (rest := rest) (n := 0) ⟨hx, hb, hml, hown, hts⟩ hMet ⟨callB_of 0 hts hgd rfl rfl rfl (hts _ l4) (hts _ hl) ⟨l6, l7, l8⟩ hroom, hyn, hts _ l2⟩ hpre rfl rfl hsz rfl (lv_room hsum) hd hcs
  intro T0 hT X
  obtain ⟨v, st₀, t, T', L', g0, X', hL, e1, e2, ⟨⟨hz', hk'⟩, hv, ws', na2, xs, hxs, hK', hP', hD', hM'⟩, hst⟩ := hrun T0 hT X
  cases hv
  rw [g0] at hz' hk'
  have hS1 : va_S A s.heap T'.heap (locs ++ L') := ⟨Nat.le_trans hS.1 (by rw [e1]; exact hz'), fun q h1 h2 => by rw [e1, hk' q (Nat.lt_of_lt_of_le h1 hS.1) h2]; exact hS.2.1 q h1 h2, fun q hq => by
    rcases List.mem_append.mp hq with h | h
    · exact hS.2.2 q h
    · exact hL q h⟩
  have hal : t.vm.Alike s.vm := by
    have h1 := X'.warmed.alike
    rw [e2] at h1
    exact h1.symm
  obtain ⟨t2, a1, b1⟩ := kk T'.heap _ ws' _ xs hxs (va_K.moved hal hK') (by rw [e1]; exact hP') hD' hS1 hM' T' rfl X'
  exact ⟨t2, hst t2 a1, b1⟩
end ZST
/-- the world behind the two: typed -/
def zDK0 (ws : va_W) : Prop := ∃ dn kp : Int32, zfv ws 90 5 = some (.int dn) ∧ zfv ws 90 4 = some (.int kp) ∧ 0 ≤ dn.toInt ∧ dn.toInt ≤ kp.toInt ∧ kp.toInt ≤ 40
def zDK (ws : va_W) : Prop := zDK0 ws ∧ True
theorem yini_i {ad adc aa : Nat → Nat} {L : Nat} {tys : List (ClassId × FieldType)} {ws : va_W} {g : yM} {q t0 len t n u1 u2 : Nat} {lo hi : Int} {fts : List zFT} {x : va_E} (hM : yMem zpZ ad tys ws g) (he : (q, q, (1, t0, len, fts)) ∈ zpZ.1) (hx : ws[q]? = some (ad q, x) ∧ zcr 0 adc aa L tys (1, t, n, [(u1, lo), (u2, hi)]) x) (hn : len ≤ n) : ∀ j : Nat, j < len → lo ≤ g q j ∧ g q j ≤ hi := by
  obtain ⟨h1, cA, f, rfl, -, h3⟩ := hx
  obtain ⟨cA', f', h4, -, h6⟩ := hM _ he q (Nat.le_refl _) (Nat.le_refl _)
  rw [h1] at h4
  cases h4
  intro j hj
  have h7 := h3 j (by omega)
  rw [← h6 j hj]
  exact h7
theorem yini_l {ad adc aa : Nat → Nat} {L : Nat} {tys : List (ClassId × FieldType)} {ws : va_W} {g : yM} {a b q t0 len t n : Nat} {bb : List zMV} {fts : List zFT} {x : va_E} (hM : yMem zpZ ad tys ws g) (he : (a, b, (3, t0, len, fts)) ∈ zpZ.1) (h1 : a ≤ q) (h2 : q ≤ b) (hx : ws[q]? = some (ad q, x) ∧ zcr 0 adc aa L tys (2, t, n, bb) x) : ∀ j : Nat, j < len → g q j = 0 := by
  obtain ⟨h3, cA, rfl, -⟩ := hx
  obtain ⟨cA', f', h4, -, h6⟩ := hM _ he q h1 h2
  rw [h3] at h4
  cases h4
  intro j hj
  rw [← h6 j hj]
  rfl
theorem yini_o {ad adc aa : Nat → Nat} {L : Nat} {tys : List (ClassId × FieldType)} {ws : va_W} {g : yM} {q ci ln ci2 j : Nat} {fts : List zFT} {Vs : List zMV} {ft : zFT} {n : Int} {x : va_E} (hM : yMem zpZ ad tys ws g) (he : (q, q, (0, ci, ln, fts)) ∈ zpZ.1) (hx : ws[q]? = some (ad q, x) ∧ zcr 0 adc aa L tys (0, ci2, 0, Vs) x) (hf : fts[j]? = some ft) (hi : yint ft = true) (hV : Vs[j]? = some (1, n)) (hn : -2147483648 ≤ n ∧ n ≤ 2147483647) : g q j = n := by
  obtain ⟨h3, fs, rfl, f1, f2⟩ := hx
  obtain ⟨fs', h4, h5, h6⟩ := hM _ he q (Nat.le_refl _) (Nat.le_refl _)
  rw [h3] at h4
  cases h4
  have lj : j < fs.length := by rw [h5]; exact (List.getElem?_eq_some_iff.mp hf).1
  have hv := List.getElem?_eq_getElem lj
  have v1 : fs[j] = .int (Int32.ofInt n) := f2 j _ _ hV hv
  have v2 := h6 j ft _ hf hv
  rw [v1] at v2
  have v3 : ∃ y : Int32, Value.int (Int32.ofInt n) = .int y ∧ y.toInt = g q j := by
    obtain ⟨tg, lo, hi2⟩ := ft
    match tg, hi, v2 with
    | 0, _, v2 => exact v2
    | 3, _, v2 => exact v2
    | n + 5, _, v2 => exact v2
  obtain ⟨y, y1, y2⟩ := v3
  cases y1
  rw [← y2, zofI hn.1 hn.2]
theorem yini {ad : Nat → Nat} {tys1 : List (ClassId × FieldType)} {ws : va_W} {g : yM} {adc : Nat → Nat} (hM : yMem zpZ ad tys1 ws g) (hcr : ∀ (r z : Nat) (d : zMC), r < 125 → zpPm[r]? = some z → zpDC[z]? = some d → ∃ x, ws[r]? = some (ad r, x) ∧ zcr 0 adc (fun _ => 0) 125 tys1 d x) : yRA g := by
  have c40 := yini_i hM (List.mem_of_getElem? (i := 36) rfl) (Exists.choose_spec (hcr 40 _ (1, 0, 6, [(0, (-1)), (0, (-1))]) (by decide) rfl rfl)) (by decide)
  have c42 := yini_i hM (List.mem_of_getElem? (i := 38) rfl) (Exists.choose_spec (hcr 42 _ (1, 0, 6, [(0, 0), (0, 0)]) (by decide) rfl rfl)) (by decide)
  have c121 := yini_i hM (List.mem_of_getElem? (i := 73) rfl) (Exists.choose_spec (hcr 121 _ (1, 0, 6, [(0, (-1)), (0, (-1))]) (by decide) rfl rfl)) (by decide)
  have c122 := yini_i hM (List.mem_of_getElem? (i := 74) rfl) (Exists.choose_spec (hcr 122 _ (1, 0, 6, [(0, 0), (0, 0)]) (by decide) rfl rfl)) (by decide)
  have c30 := yini_i hM (List.mem_of_getElem? (i := 29) rfl) (Exists.choose_spec (hcr 30 _ (1, 0, 20, [(0, 0), (0, 0)]) (by decide) rfl rfl)) (by decide)
  have c114 := yini_i hM (List.mem_of_getElem? (i := 66) rfl) (Exists.choose_spec (hcr 114 _ (1, 0, 20, [(0, 0), (0, 0)]) (by decide) rfl rfl)) (by decide)
  have c44 := yini_l hM (List.mem_of_getElem? (i := 40) rfl) (by decide) (by decide) (Exists.choose_spec (hcr 44 _ (2, 2, 60, []) (by decide) rfl rfl))
  have c45 := yini_l hM (List.mem_of_getElem? (i := 40) rfl) (by decide) (by decide) (Exists.choose_spec (hcr 45 _ (2, 2, 60, []) (by decide) rfl rfl))
  have c46 := yini_l hM (List.mem_of_getElem? (i := 40) rfl) (by decide) (by decide) (Exists.choose_spec (hcr 46 _ (2, 2, 60, []) (by decide) rfl rfl))
  have c47 := yini_l hM (List.mem_of_getElem? (i := 40) rfl) (by decide) (by decide) (Exists.choose_spec (hcr 47 _ (2, 2, 60, []) (by decide) rfl rfl))
  have c48 := yini_l hM (List.mem_of_getElem? (i := 40) rfl) (by decide) (by decide) (Exists.choose_spec (hcr 48 _ (2, 2, 60, []) (by decide) rfl rfl))
  have c49 := yini_l hM (List.mem_of_getElem? (i := 40) rfl) (by decide) (by decide) (Exists.choose_spec (hcr 49 _ (2, 2, 60, []) (by decide) rfl rfl))
  have c123 := yini_l hM (List.mem_of_getElem? (i := 75) rfl) (by decide) (by decide) (Exists.choose_spec (hcr 123 _ (2, 2, 360, []) (by decide) rfl rfl))
  have o1 := yini_o (j := 8) (n := 0) hM (List.mem_of_getElem? (i := 6) rfl) (Exists.choose_spec (hcr 6 _ _ (by decide) rfl rfl)) rfl rfl rfl (by decide)
  have o2 := yini_o (j := 38) (n := 0) hM (List.mem_of_getElem? (i := 42) rfl) (Exists.choose_spec (hcr 90 _ _ (by decide) rfl rfl)) rfl rfl rfl (by decide)
  have o3 := yini_o (j := 4) (n := 0) hM (List.mem_of_getElem? (i := 42) rfl) (Exists.choose_spec (hcr 90 _ _ (by decide) rfl rfl)) rfl rfl rfl (by decide)
  have o4 := yini_o (j := 5) (n := 0) hM (List.mem_of_getElem? (i := 42) rfl) (Exists.choose_spec (hcr 90 _ _ (by decide) rfl rfl)) rfl rfl rfl (by decide)
  refine ⟨⟨by omega, by omega, by omega⟩, fun p hp => ?_, fun p k hp hk => ?_, fun r hr => ?_, by omega⟩
  · have h1 := c40 p hp
    have h2 := c42 p hp
    have h3 := c121 p hp
    have h4 := c122 p hp
    omega
  · rw [c123 _ (by omega)]
    match p, hp with
    | 0, _ => exact (c44 k hk).symm
    | 1, _ => exact (c45 k hk).symm
    | 2, _ => exact (c46 k hk).symm
    | 3, _ => exact (c47 k hk).symm
    | 4, _ => exact (c48 k hk).symm
    | 5, _ => exact (c49 k hk).symm
  · have h1 := c30 r hr
    have h2 := c114 r hr
    omega
theorem yini_x {ad adc aa : Nat → Nat} {L : Nat} {tys : List (ClassId × FieldType)} {ws : va_W} {g : yM} {q t0 len t n : Nat} {b : List zMV} {fts : List zFT} {x : va_E} (hM : yMem zpZ ad tys ws g) (he : (q, q, (1, t0, len, fts)) ∈ zpZ.1) (hx : ws[q]? = some (ad q, x) ∧ zcr 0 adc aa L tys (7, t, n, b) x) (hn : len ≤ n) : ∀ (j : Nat) (e : zMV), j < len → b[j]? = some e → g q j = e.2 := by
  obtain ⟨h1, cA, f, rfl, -, h3⟩ := hx
  obtain ⟨cA', f', h4, -, h6⟩ := hM _ he q (Nat.le_refl _) (Nat.le_refl _)
  rw [h1] at h4
  cases h4
  intro j e hj hb
  rw [← h6 j hj]
  exact h3 j e (by omega) hb
theorem yiniV {g : yM} (a1 : g 90 13 = 0) (a2 : g 2 2 = 0) (a3 : g 90 22 = 0) (a4 : g 1 1 = 0) (a5 : g 90 5 = 0) (a6 : g 90 4 = 0) (a7 : g 4 5 = 0) (a8 : g 4 6 = 0) (a9 : g 90 6 = 0) (b1 : g 1 7 = 0) (b2 : g 90 10 = 0) (b3 : g 1 8 = 0) (b4 : g 90 11 = 0) (b5 : g 1 10 = 0) (b6 : g 1 9 = 0) (c13 : ∀ j : Nat, j < 6 → 1 ≤ g 13 j ∧ g 13 j ≤ 1) (c14 : ∀ j : Nat, j < 6 → 10 ≤ g 14 j ∧ g 14 j ≤ 10) (c91 : ∀ (j : Nat) (e : zMV), j < 53 → ([(0, 0), (0, 0), (0, 0), (0, 0), (0, 0), (0, 0), (0, 0), (0, 0), (0, 0), (0, 0), (0, 0), (0, 0), (0, 0), (0, 0), (0, 0), (0, 0), (0, 0), (0, 0), (0, 0), (0, 0), (0, 0), (0, 0), (0, 0), (0, 0), (0, 0), (0, 0), (0, 0), (0, 0), (0, 0), (0, 0), (0, 0), (0, 0), (0, 0), (0, 0), (0, 0), (0, 0), (0, 0), (0, 0), (0, 0), (0, 0), (0, 1), (0, 1), (0, 1), (0, 1), (0, 1), (0, 1), (0, 10), (0, 10), (0, 10), (0, 10), (0, 10), (0, 10), (0, 0)] : List zMV)[j]? = some e → g 91 j = e.2) : yRV g := by
  refine ⟨⟨by omega, by omega, fun k hk => absurd hk (by omega)⟩, ⟨by omega, by omega, fun i hi => absurd hi (by omega)⟩, fun k o hk => ?_, ⟨by omega, fun k hk => absurd hk (by omega)⟩, ⟨by omega, by omega, by omega, fun j hj => absurd hj (by omega)⟩⟩
  rcases hk with ⟨rfl, h⟩ | ⟨rfl, h⟩ | ⟨rfl, h⟩ | ⟨rfl, h⟩
  · omega
  · have e1 : g 91 (40 + Int.toNat o) = if 40 ≤ 40 + Int.toNat o ∧ 40 + Int.toNat o < 46 then (1 : Int) else if 46 ≤ 40 + Int.toNat o ∧ 40 + Int.toNat o < 52 then 10 else 0 := c91 _ _ (by omega) (zmay_ok _ (by omega))
    rw [if_pos (by omega)] at e1
    have e2 := c13 (Int.toNat o) (by omega)
    rw [ycod_1, ykv_1, show Int.toNat (40 + o) = 40 + Int.toNat o by omega]
    exact ⟨by omega, fun h0 => absurd h0 (by decide), fun _ => by omega, fun h0 => absurd h0 (by decide)⟩
  · have e1 : g 91 (46 + Int.toNat o) = if 40 ≤ 46 + Int.toNat o ∧ 46 + Int.toNat o < 46 then (1 : Int) else if 46 ≤ 46 + Int.toNat o ∧ 46 + Int.toNat o < 52 then 10 else 0 := c91 _ _ (by omega) (zmay_ok _ (by omega))
    rw [if_neg (by omega), if_pos (by omega)] at e1
    have e2 := c14 (Int.toNat o) (by omega)
    rw [ycod_2, ykv_2, show Int.toNat (46 + o) = 46 + Int.toNat o by omega]
    exact ⟨by omega, fun h0 => absurd h0 (by decide), fun _ => by omega, fun h0 => absurd h0 (by decide)⟩
  · have e1 : g 91 52 = if 40 ≤ 52 ∧ 52 < 46 then (1 : Int) else if 46 ≤ 52 ∧ 52 < 52 then 10 else 0 := c91 52 _ (by decide) (zmay_ok 52 (by decide))
    rw [if_neg (by decide), if_neg (by decide)] at e1
    rw [ycod_3, ykv_3, show Int.toNat 52 = 52 from rfl]
    exact ⟨by omega, fun h0 => absurd h0 (by decide), fun h0 => absurd h0 (by decide), fun _ => by omega⟩
theorem yiniJ {ad : Nat → Nat} {tys1 : List (ClassId × FieldType)} {ws : va_W} {g : yM} {adc : Nat → Nat} (hM : yMem zpZ ad tys1 ws g) (hcr : ∀ (r z : Nat) (d : zMC), r < 125 → zpPm[r]? = some z → zpDC[z]? = some d → ∃ x, ws[r]? = some (ad r, x) ∧ zcr 0 adc (fun _ => 0) 125 tys1 d x) : yRV g :=
  yiniV (yini_o (j := 13) (n := 0) hM (List.mem_of_getElem? (i := 42) rfl) (Exists.choose_spec (hcr 90 _ _ (by decide) rfl rfl)) rfl rfl rfl (by decide)) (yini_o (j := 2) (n := 0) hM (List.mem_of_getElem? (i := 2) rfl) (Exists.choose_spec (hcr 2 _ _ (by decide) rfl rfl)) rfl rfl rfl (by decide)) (yini_o (j := 22) (n := 0) hM (List.mem_of_getElem? (i := 42) rfl) (Exists.choose_spec (hcr 90 _ _ (by decide) rfl rfl)) rfl rfl rfl (by decide)) (yini_o (j := 1) (n := 0) hM (List.mem_of_getElem? (i := 1) rfl) (Exists.choose_spec (hcr 1 _ _ (by decide) rfl rfl)) rfl rfl rfl (by decide)) (yini_o (j := 5) (n := 0) hM (List.mem_of_getElem? (i := 42) rfl) (Exists.choose_spec (hcr 90 _ _ (by decide) rfl rfl)) rfl rfl rfl (by decide)) (yini_o (j := 4) (n := 0) hM (List.mem_of_getElem? (i := 42) rfl) (Exists.choose_spec (hcr 90 _ _ (by decide) rfl rfl)) rfl rfl rfl (by decide)) (yini_o (j := 5) (n := 0) hM (List.mem_of_getElem? (i := 4) rfl) (Exists.choose_spec (hcr 4 _ _ (by decide) rfl rfl)) rfl rfl rfl (by decide)) (yini_o (j := 6) (n := 0) hM (List.mem_of_getElem? (i := 4) rfl) (Exists.choose_spec (hcr 4 _ _ (by decide) rfl rfl)) rfl rfl rfl (by decide)) (yini_o (j := 6) (n := 0) hM (List.mem_of_getElem? (i := 42) rfl) (Exists.choose_spec (hcr 90 _ _ (by decide) rfl rfl)) rfl rfl rfl (by decide)) (yini_o (j := 7) (n := 0) hM (List.mem_of_getElem? (i := 1) rfl) (Exists.choose_spec (hcr 1 _ _ (by decide) rfl rfl)) rfl rfl rfl (by decide)) (yini_o (j := 10) (n := 0) hM (List.mem_of_getElem? (i := 42) rfl) (Exists.choose_spec (hcr 90 _ _ (by decide) rfl rfl)) rfl rfl rfl (by decide)) (yini_o (j := 8) (n := 0) hM (List.mem_of_getElem? (i := 1) rfl) (Exists.choose_spec (hcr 1 _ _ (by decide) rfl rfl)) rfl rfl rfl (by decide)) (yini_o (j := 11) (n := 0) hM (List.mem_of_getElem? (i := 42) rfl) (Exists.choose_spec (hcr 90 _ _ (by decide) rfl rfl)) rfl rfl rfl (by decide)) (yini_o (j := 10) (n := 0) hM (List.mem_of_getElem? (i := 1) rfl) (Exists.choose_spec (hcr 1 _ _ (by decide) rfl rfl)) rfl rfl rfl (by decide)) (yini_o (j := 9) (n := 0) hM (List.mem_of_getElem? (i := 1) rfl) (Exists.choose_spec (hcr 1 _ _ (by decide) rfl rfl)) rfl rfl rfl (by decide)) (yini_i hM (List.mem_of_getElem? (i := 12) rfl) (Exists.choose_spec (hcr 13 _ (1, 0, 6, [(0, 1), (0, 1)]) (by decide) rfl rfl)) (by decide)) (yini_i hM (List.mem_of_getElem? (i := 13) rfl) (Exists.choose_spec (hcr 14 _ (1, 0, 6, [(0, 10), (0, 10)]) (by decide) rfl rfl)) (by decide)) (yini_x hM (List.mem_of_getElem? (i := 43) rfl) (Exists.choose_spec (hcr 91 _ (7, 0, 53, [(0, 0), (0, 0), (0, 0), (0, 0), (0, 0), (0, 0), (0, 0), (0, 0), (0, 0), (0, 0), (0, 0), (0, 0), (0, 0), (0, 0), (0, 0), (0, 0), (0, 0), (0, 0), (0, 0), (0, 0), (0, 0), (0, 0), (0, 0), (0, 0), (0, 0), (0, 0), (0, 0), (0, 0), (0, 0), (0, 0), (0, 0), (0, 0), (0, 0), (0, 0), (0, 0), (0, 0), (0, 0), (0, 0), (0, 0), (0, 0), (0, 1), (0, 1), (0, 1), (0, 1), (0, 1), (0, 1), (0, 10), (0, 10), (0, 10), (0, 10), (0, 10), (0, 10), (0, 0)]) (by decide) rfl rfl)) (by decide))
theorem yiniS {ad : Nat → Nat} {tys1 : List (ClassId × FieldType)} {ws : va_W} {g : yM} {adc : Nat → Nat} (hM : yMem zpZ ad tys1 ws g) (hcr : ∀ (r z : Nat) (d : zMC), r < 125 → zpPm[r]? = some z → zpDC[z]? = some d → ∃ x, ws[r]? = some (ad r, x) ∧ zcr 0 adc (fun _ => 0) 125 tys1 d x) : yStV g := by
  have e1 := yini_o (j := 1) (n := 0) hM (List.mem_of_getElem? (i := 1) rfl) (Exists.choose_spec (hcr 1 _ _ (by decide) rfl rfl)) rfl rfl rfl (by decide)
  have e7 := yini_o (j := 7) (n := 0) hM (List.mem_of_getElem? (i := 1) rfl) (Exists.choose_spec (hcr 1 _ _ (by decide) rfl rfl)) rfl rfl rfl (by decide)
  exact ⟨fun i hi => absurd hi (by omega), fun j hj => absurd hj (by omega)⟩
theorem zworld0 {D : va_G} {A : Nat → Prop} {H : Heap} {adR : Nat → Nat} {b r0 r1 : Nat} {tys1 : List (ClassId × FieldType)} {ws0 ws1 ws2 ws3 : va_W} {na0 na1 : Nat → Nat} (g0 : ws0.length = 1) (hM0 : zMW ws0 ws1 0 r0 na0 (fun _ => 0) tys1 zpDF0 11 zpDA0) (g2 : ∃ x, ws2 = ws1 ++ [x]) (hM1 : zMW ws2 ws3 90 r1 na1 (fun _ => 0) tys1 zpDF1 12 zpDA1) (hP : va_P D zpcl ws3 H) (hD : va_D A ws3) : ∃ (ad : Nat → Nat) (ws : va_W), (∀ q, 125 ≤ q → ad q = if q = 3000 then b else adR q) ∧ ad 0 = r0 ∧ ad 90 = r1 ∧ va_P D zpcl ws H ∧ va_D A ws ∧ zW zpZ ad zgh0 tys1 ws ∧ zDK ws ∧ ∃ adc : Nat → Nat, ∀ (r z : Nat) (d : zMC), r < 125 → zpPm[r]? = some z → zpDC[z]? = some d → ∃ x, ws[r]? = some (ad r, x) ∧ zcr 0 adc (fun _ => 0) 125 tys1 d x := by
  obtain ⟨⟨a1, a2, a3⟩, b1, b2, b3⟩ := zpDCl
  obtain ⟨m1, m2, m3⟩ := zpPmL
  obtain ⟨x2, rfl⟩ := g2
  have l1 : ws1.length = 90 := by rw [hM0.2.1, g0, a3]
  have l3 : ws3.length = 125 := by rw [hM1.2.1, List.length_append, l1, b3]; rfl
  generalize hdd : ((0, .inr (0, [])) : Nat × va_E) = dd
  have hget : ∀ z, z < 125 → ws3[z]? = some (ws3.getD z dd) := fun z hz => by
    rw [List.getD_eq_getElem?_getD, List.getElem?_eq_getElem (by omega)]
    rfl
  have hadc : ∀ i x, ws3[i]? = some x → (fun z => (ws3.getD z dd).1) i = x.1 := fun i x hx => by
    show (ws3.getD i dd).1 = x.1
    rw [List.getD_eq_getElem?_getD, hx]
    rfl
  have p0 := hM0.piece (wsF := ws3) (adc := fun z => (ws3.getD z dd).1) (len' := 125) (tys' := tys1) (by rw [g0]) (fun i h1 h2 => by
    rw [hM1.2.2.1 i (by rw [List.length_append, l1]; simp; omega) (by omega), List.getElem?_append_left (by omega)]) hadc (fun _ _ h => h) a1 a2 (by omega)
  have p1 := hM1.piece (wsF := ws3) (adc := fun z => (ws3.getD z dd).1) (len' := 125) (tys' := tys1) (by rw [List.length_append, l1]; rfl) (fun i h1 h2 => rfl) hadc (fun _ _ h => h) b1 b2 (by omega)
  have hDC : ∀ (z : Nat) (C : zMC), zpDC[z]? = some C → ∃ x, ws3[z]? = some ((fun z => (ws3.getD z dd).1) z, x) ∧ zcr 0 (fun z => (ws3.getD z dd).1) (fun _ => 0) 125 tys1 C x := fun z C hC => by
    unfold zpDC at hC
    by_cases hz : z < 90
    · rw [List.getElem?_append_left (by rw [List.length_cons, List.length_map, a3]; exact hz)] at hC
      have := p0 z C hC
      rwa [Nat.zero_add] at this
    · rw [List.getElem?_append_right (by rw [List.length_cons, List.length_map, a3]; omega)] at hC
      have e0 : z - ((0, 11, 0, zpDF0.map (zmapV 0 1 [])) :: zpDA0.map (zmapC 0 1 []) : List zMC).length = z - 90 := by rw [List.length_cons, List.length_map, a3]
      rw [e0] at hC
      have := p1 _ C hC
      rwa [show 90 + (z - 90) = z by omega] at this
  refine ⟨fun q => if q < 125 then (ws3.getD (zpPm.getD q 0) dd).1 else if q = 3000 then b else adR q, zpPm.map (fun z => ws3.getD z dd), fun q hq => if_neg (by omega), ?_, ?_, ?_, ?_, ?_, ?_, fun z => (ws3.getD z dd).1, fun r z d hr hz hd => ?_⟩
  · exact hadc 0 _ ((hM1.2.2.1 0 (by rw [List.length_append, l1]; simp) (by omega)).trans ((List.getElem?_append_left (by omega)).trans hM0.2.2.2.1.choose_spec.1))
  · exact hadc 90 _ hM1.2.2.2.1.choose_spec.1
  · intro k q hk
    rw [List.getElem?_map] at hk
    obtain ⟨z, hz, rfl⟩ := Option.map_eq_some_iff.mp hk
    exact hP z _ (hget z (of_decide_eq_true (List.all_eq_true.mp m3 z (List.mem_of_getElem? hz))))
  · refine hD.sub zpPm m2 ?_
    rw [List.map_map]
    exact List.map_congr_left (fun z hz => hget z (of_decide_eq_true (List.all_eq_true.mp m3 z hz)))
  · refine zwB_ok (DC := zpDC) (perm := zpPm) (inv := zpIn) (nc := 125) (adc := fun z => (ws3.getD z dd).1) (aa := fun _ => 0) (len := 125) rfl (fun r z hr hz => ?_) (fun r z d hr hz hd => ?_) zpWB
    · show (if r < 125 then (ws3.getD (zpPm.getD r 0) dd).1 else _) = _
      rw [if_pos hr, List.getD_eq_getElem?_getD (l := zpPm), hz]
      rfl
    · obtain ⟨x, x1, x2⟩ := hDC z d hd
      refine ⟨x, ?_, x2⟩
      show _ = some ((if r < 125 then (ws3.getD (zpPm.getD r 0) dd).1 else _), x)
      rw [List.getElem?_map, hz, if_pos hr, List.getD_eq_getElem?_getD (l := zpPm), hz]
      show some (ws3.getD z dd) = some ((ws3.getD z dd).1, x)
      rw [← hget z (by have := (List.getElem?_eq_some_iff.mp x1).1; omega), x1]
  · have hobj : ∀ (q z ci j : Nat) (Vs : List zMV), zpPm[q]? = some z → z < 125 → zpDC[z]? = some (0, ci, 0, Vs) → Vs[j]? = some (1, 0) → zfv (zpPm.map (fun z => ws3.getD z dd)) q j = some (.int (Int32.ofInt 0)) := fun q z ci j Vs hq hz9 hz hV => by
      obtain ⟨x, x1, fs, rfl, f1, f2⟩ := hDC z _ hz
      have lj : j < fs.length := by rw [f1]; exact (List.getElem?_eq_some_iff.mp hV).1
      have v1 := f2 j _ fs[j] hV (List.getElem?_eq_getElem lj)
      have v1 : fs[j] = .int (Int32.ofInt 0) := v1
      have hw9 : (zpPm.map (fun z => ws3.getD z dd))[q]? = some ((ws3.getD z dd).1, .inr (ci, fs)) := by
        rw [List.getElem?_map, hq]
        show some (ws3.getD z dd) = _
        rw [← hget z hz9, x1]
      unfold zfv
      rw [hw9]
      show fs[j]? = _
      rw [List.getElem?_eq_getElem lj, v1]
    exact ⟨⟨Int32.ofInt 0, Int32.ofInt 0, hobj 90 90 _ 5 _ rfl (by decide) rfl rfl, hobj 90 90 _ 4 _ rfl (by decide) rfl rfl, by decide, by decide, by decide⟩, trivial⟩
  · obtain ⟨x, x1, x2⟩ := hDC z d hd
    refine ⟨x, ?_, x2⟩
    show _ = some ((if r < 125 then (ws3.getD (zpPm.getD r 0) dd).1 else _), x)
    rw [List.getElem?_map, hz, if_pos hr, List.getD_eq_getElem?_getD (l := zpPm), hz]
    show some (ws3.getD z dd) = some ((ws3.getD z dd).1, x)
    rw [← hget z (by have := (List.getElem?_eq_some_iff.mp x1).1; omega), x1]
theorem zdefM {a : Nat} {na aa : Nat → Nat} {len : Nat} : ∀ (j : Nat) (V : zMV) (v : Value), ([(0, 0), (0, 0), (0, 0), (0, 0), (1, 0), (1, 0), (1, 0), (0, 0), (0, 0), (0, 0), (1, 0), (1, 0), (0, 0), (1, 0), (0, 0), (1, 0), (1, 0), (1, 0), (1, 0), (1, 0), (1, 0), (0, 0), (1, 0), (0, 0), (0, 0), (0, 0), (0, 0), (0, 0), (0, 0), (0, 0), (0, 0), (0, 0), (0, 0), (0, 0), (0, 0), (0, 0), (1, 0), (1, 0), (1, 0), (0, 0), (0, 0), (0, 0), (0, 0), (0, 0), (0, 0), (0, 0), (1, 0), (1, 0), (1, 0), (0, 0), (0, 0), (0, 0), (0, 0)] : List zMV)[j]? = some V → ([.null, .null, .null, .null, .int 0, .int 0, .int 0, .null, .null, .null, .int 0, .int 0, .null, .int 0, .null, .int 0, .int 0, .int 0, .int 0, .int 0, .int 0, .null, .int 0, .null, .null, .null, .null, .null, .null, .null, .null, .null, .null, .null, .null, .null, .int 0, .int 0, .int 0, .null, .null, .null, .null, .null, .null, .null, .int 0, .int 0, .int 0, .null, .null, .null, .null] : List Value)[j]? = some v → zvr a na aa len V v := by
  intro j V v h1 h2
  match j with
  | 0 => cases h1; cases h2; rfl
  | 1 => cases h1; cases h2; rfl
  | 2 => cases h1; cases h2; rfl
  | 3 => cases h1; cases h2; rfl
  | 4 => cases h1; cases h2; rfl
  | 5 => cases h1; cases h2; rfl
  | 6 => cases h1; cases h2; rfl
  | 7 => cases h1; cases h2; rfl
  | 8 => cases h1; cases h2; rfl
  | 9 => cases h1; cases h2; rfl
  | 10 => cases h1; cases h2; rfl
  | 11 => cases h1; cases h2; rfl
  | 12 => cases h1; cases h2; rfl
  | 13 => cases h1; cases h2; rfl
  | 14 => cases h1; cases h2; rfl
  | 15 => cases h1; cases h2; rfl
  | 16 => cases h1; cases h2; rfl
  | 17 => cases h1; cases h2; rfl
  | 18 => cases h1; cases h2; rfl
  | 19 => cases h1; cases h2; rfl
  | 20 => cases h1; cases h2; rfl
  | 21 => cases h1; cases h2; rfl
  | 22 => cases h1; cases h2; rfl
  | 23 => cases h1; cases h2; rfl
  | 24 => cases h1; cases h2; rfl
  | 25 => cases h1; cases h2; rfl
  | 26 => cases h1; cases h2; rfl
  | 27 => cases h1; cases h2; rfl
  | 28 => cases h1; cases h2; rfl
  | 29 => cases h1; cases h2; rfl
  | 30 => cases h1; cases h2; rfl
  | 31 => cases h1; cases h2; rfl
  | 32 => cases h1; cases h2; rfl
  | 33 => cases h1; cases h2; rfl
  | 34 => cases h1; cases h2; rfl
  | 35 => cases h1; cases h2; rfl
  | 36 => cases h1; cases h2; rfl
  | 37 => cases h1; cases h2; rfl
  | 38 => cases h1; cases h2; rfl
  | 39 => cases h1; cases h2; rfl
  | 40 => cases h1; cases h2; rfl
  | 41 => cases h1; cases h2; rfl
  | 42 => cases h1; cases h2; rfl
  | 43 => cases h1; cases h2; rfl
  | 44 => cases h1; cases h2; rfl
  | 45 => cases h1; cases h2; rfl
  | 46 => cases h1; cases h2; rfl
  | 47 => cases h1; cases h2; rfl
  | 48 => cases h1; cases h2; rfl
  | 49 => cases h1; cases h2; rfl
  | 50 => cases h1; cases h2; rfl
  | 51 => cases h1; cases h2; rfl
  | 52 => cases h1; cases h2; rfl
  | n + 53 => cases h1
theorem zdefA {a : Nat} {na aa : Nat → Nat} {len : Nat} : ∀ (j : Nat) (V : zMV) (v : Value), ([(0, 0), (0, 0), (0, 0), (0, 0), (0, 0), (0, 0), (0, 0), (0, 0), (0, 0)] : List zMV)[j]? = some V → ([.null, .null, .null, .null, .null, .null, .null, .null, .null] : List Value)[j]? = some v → zvr a na aa len V v := by
  intro j V v h1 h2
  match j with
  | 0 => cases h1; cases h2; rfl
  | 1 => cases h1; cases h2; rfl
  | 2 => cases h1; cases h2; rfl
  | 3 => cases h1; cases h2; rfl
  | 4 => cases h1; cases h2; rfl
  | 5 => cases h1; cases h2; rfl
  | 6 => cases h1; cases h2; rfl
  | 7 => cases h1; cases h2; rfl
  | 8 => cases h1; cases h2; rfl
  | n + 9 => cases h1
set_option maxHeartbeats 4000000 in
theorem zwhole {p : Program} {e : Env} {s : State} {m : MethodId} {below : List Frame} {meth : Method} {c : Code} (l : Launch) {b L : Nat} {xs : Nat → Int32} (hL : L ≤ 384) (C0 : lw_At p s m meth c b L xs) : W p l e room_1 s m #[Value.ref b] below meth c s.heap [] 0 0 (lw_Z below #[Value.ref b] s) (entryFrame m ([Value.ref b] : List Value).toArray 4) := by
  obtain ⟨hx, hb, hr, hml, hown, hts0, hX, hbl, hlocks, hgv⟩ := id C0
  have hts : ∀ w ∈ zpTs, w.before #[Value.ref b] s = true := fun w hw => hts0 w (List.mem_filter.mp hw).1
  have hA0 : ∀ a : Nat, a < s.heap.size → ¬ s.heap.size ≤ a := fun a h => by omega
  obtain ⟨adR, hro⟩ := zro_all (A := fun q => s.heap.size ≤ q) hts0 hgv hA0
  obtain ⟨Dd, hDd⟩ := Classical.axiomOfChoice (zKn hts)
  obtain ⟨cI, i1, i2⟩ := zarr_K (hts _ ((zmT1 (i := 129) rfl rfl) : Cond.arrayClass .int ∈ zpTs))
  obtain ⟨cB, j1, j2⟩ := zarr_K (hts _ ((zmT1 (i := 203) rfl rfl) : Cond.arrayClass .byte ∈ zpTs))
  obtain ⟨cL, k1, k2⟩ := zarr_K (hts _ ((zmT2 (i := 168) rfl rfl) : Cond.arrayClass .long ∈ zpTs))
  have hK : va_K (fun c => (Dd c).1, fun c => (Dd c).2) zpcl [(cI, .int), (cB, .byte), (cL, .long)] s := ⟨fun c q hq => hDd c q hq, fun k q hk => by
    match k, hk with
    | 0, hk => cases hk; exact ⟨i2, i1⟩
    | 1, hk => cases hk; exact ⟨j2, j1⟩
    | 2, hk => cases hk; exact ⟨k2, k1⟩
    | n + 3, hk => cases hk⟩
  generalize hDe : ((fun c => (Dd c).1, fun c => (Dd c).2) : va_G) = D at hK
  have d0 : decode code 0 = .ok (.new 7, 3) := by decide +kernel
  have d3 : decode code 3 = .ok (.dup, 1) := by decide +kernel
  have d4 : decode code 4 = .ok (.invokespecial 9, 3) := by decide +kernel
  have d7 : decode code 7 = .ok (.astore_n 1, 1) := by decide +kernel
  have d8 : decode code 8 = .ok (.new 10, 3) := by decide +kernel
  have d11 : decode code 11 = .ok (.dup, 1) := by decide +kernel
  have d12 : decode code 12 = .ok (.invokespecial 12, 3) := by decide +kernel
  have d15 : decode code 15 = .ok (.astore_n 2, 1) := by decide +kernel
  have d16 : decode code 16 = .ok (.iconst 0, 1) := by decide +kernel
  have d17 : decode code 17 = .ok (.istore_n 3, 1) := by decide +kernel
  have hP : va_P D zpcl [] s.heap := fun k q hk => by cases hk
  have hD : va_D (fun q => s.heap.size ≤ q) [] := ⟨fun i j x y hi => (by cases hi), fun k q hk => (by cases hk)⟩
  have hS : va_S (fun q => s.heap.size ≤ q) s.heap s.heap [] := ⟨Nat.le_refl _, fun _ _ _ => rfl, fun q hq => by cases hq⟩
  rw [lg_entry_eq]
  have hl : lv_has ((lg_sl [Value.ref b] ++ List.replicate (4 - (lg_sl [Value.ref b]).length) Slot.unset).toArray) 4 [(0, .ref b)] := lv_entry [Value.ref b] (show 1 ≤ 4 by decide)
  generalize ((lg_sl [Value.ref b] ++ List.replicate (4 - (lg_sl [Value.ref b]).length) Slot.unset).toArray) = ls0 at hl ⊢
  refine va_new (C := "PushedIn") (ci := 11) (N := 9) (fs := [.null, .null, .null, .null, .null, .null, .null, .null, .null]) hx hb hts zpU11.1 (zTy0 _) zpU11.2.1 hown (hts _ (zmT1 (i := 22) rfl rfl)) (hts _ (zmT1 (i := 23) rfl rfl)) (hts _ (zmT1 (i := 1) rfl rfl)) hK hP hD hS (fun q h => h) rfl (by decide) (by decide) (by decide) d0 (fun r0 H0 hP0 hD0 hS0 => ?_)
  refine lv_dup hx hb d3 rfl ?_
  refine zn_ctorL (q := 0) (r := r0) (fs := [.null, .null, .null, .null, .null, .null, .null, .null, .null]) hx hb hml hown hts zTs_good zpRO2_ok hro (fun q h => h) hK hP0 hD0 hS0 zc_Main ⟨rfl, cI, cB, cL, rfl, rfl, rfl⟩ rfl ⟨rfl, zdefA⟩ (zmT1 (i := 24) rfl rfl) ⟨(zmT1 (i := 25) rfl rfl), (zmT1 (i := 1) rfl rfl), (zmT1 (i := 26) rfl rfl), by decide, by decide, by decide +kernel⟩ rfl hl.1 ⟨by decide, by decide⟩ (Nat.le_of_ble_eq_true rfl) d4 ⟨by decide, by decide⟩ (fun H1 locs1 ws1 na1 xs1 hxs1 hK1 hP1 hD1 hS1 hM1 => ?_)
  refine lv_astore_n hx hb d7 rfl hl (by decide) rfl (fun ls1 hl1 => ?_)
  have hxl : xs1.length = 2 := by rw [← List.length_map (f := Prod.snd), hxs1]; rfl
  have lt1 : ([(cI, .int), (cB, .byte), (cL, .long)] ++ xs1 : List (ClassId × FieldType)).length = 5 := by rw [List.length_append, hxl]; rfl
  refine va_new (C := "PushedInModel") (ci := 12) (N := 53) (fs := [.null, .null, .null, .null, .int 0, .int 0, .int 0, .null, .null, .null, .int 0, .int 0, .null, .int 0, .null, .int 0, .int 0, .int 0, .int 0, .int 0, .int 0, .null, .int 0, .null, .null, .null, .null, .null, .null, .null, .null, .null, .null, .null, .null, .null, .int 0, .int 0, .int 0, .null, .null, .null, .null, .null, .null, .null, .int 0, .int 0, .int 0, .null, .null, .null, .null]) hx hb hts zpU12.1 (zTy0 _) zpU12.2.1 hown (hts _ (zmT5 (i := 126) rfl rfl)) (hts _ (zmT5 (i := 127) rfl rfl)) (hts _ (zmT1 (i := 14) rfl rfl)) hK1 hP1 hD1 hS1 (fun q h => h) rfl (by decide) (by decide) (by decide) d8 (fun r1 H2 hP2 hD2 hS2 => ?_)
  refine lv_dup hx hb d11 rfl ?_
  have lw1 : ws1.length = 90 := by
    have h := hM1.2.1
    exact h
  refine zn_ctorL (q := 90) (r := r1) (fs := [.null, .null, .null, .null, .int 0, .int 0, .int 0, .null, .null, .null, .int 0, .int 0, .null, .int 0, .null, .int 0, .int 0, .int 0, .int 0, .int 0, .int 0, .null, .int 0, .null, .null, .null, .null, .null, .null, .null, .null, .null, .null, .null, .null, .null, .int 0, .int 0, .int 0, .null, .null, .null, .null, .null, .null, .null, .int 0, .int 0, .int 0, .null, .null, .null, .null]) hx hb hml hown hts zTs_good zpRO2_ok hro (fun q h => h) hK1 hP2 hD2 hS2 zc_MainModel ⟨lt1, cI, cB, cL, rfl, rfl, rfl⟩ (by rw [List.getElem?_append_right (by omega), lw1]; rfl) ⟨rfl, zdefM⟩ (zmT5 (i := 128) rfl rfl) ⟨(zmT5 (i := 129) rfl rfl), (zmT1 (i := 14) rfl rfl), (zmT5 (i := 130) rfl rfl), by decide, by decide, by decide +kernel⟩ rfl hl1.1 ⟨by decide, by decide⟩ (Nat.le_of_ble_eq_true rfl) d12 ⟨by decide, by decide⟩ (fun H3 locs3 ws3 na3 xs3 hxs3 hK3 hP3 hD3 hS3 hM3 => ?_)
  have e3 : xs3 = [] := List.map_eq_nil_iff.mp hxs3
  subst e3
  rw [List.append_nil] at hK3 hM3
  refine lv_astore_n hx hb d15 rfl hl1 (by decide) rfl (fun ls2 hl2 => ?_)
  refine lv_iconst hx hb d16 rfl ?_
  refine lv_istore_n hx hb d17 rfl hl2 (by decide) rfl (fun ls3 hl3 => ?_)
  obtain ⟨ad, ws, had, q0, q1, hPw, hDw, hWw, hDK, adc, hcr⟩ := zworld0 (D := D) (A := fun q => s.heap.size ≤ q) (adR := adR) (b := b) rfl hM1 ⟨_, rfl⟩ hM3 hP3 hD3
  have hro' : zpRO ad (fun q => s.heap.size ≤ q) s s.heap := zro_congr (by rw [had 1000 (by decide)]; rfl) (by rw [had 1001 (by decide)]; rfl) (by rw [had 2000 (by decide)]; rfl) (by rw [had 2001 (by decide)]; rfl) hro.1
  have had3 : ad 3000 = b := by rw [had 3000 (by decide)]; rfl
  obtain ⟨g, hMem⟩ := ynew0 zpDj hWw
  have hI : yKnv g := ⟨⟨⟨⟨zgh0, ⟨rfl, ⟨by decide, by decide⟩, rfl, rfl⟩, yT_of yZk hWw hMem⟩, yini hMem hcr⟩, yiniJ hMem hcr⟩, yiniS hMem hcr⟩
  refine ylaw_loop C0 hK3 hro' had3 (by omega) (fun q h => h) hL ⟨by decide, by decide⟩ (yiter l) 390 0 g rfl (by decide) hI ls3 [] ws H3 locs3 ⟨hPw, hDw, hS3, hMem, ⟨hl3.1, rfl, hl3.2.1, fun j a hj ha => ?_⟩, trivial⟩
  match j, hj with
  | 0, hj => cases hj; exact ⟨_, lv_at hl3 3 rfl, by rw [← had3]; exact yvR rfl⟩
  | 1, hj => cases hj; exact ⟨_, lv_at hl3 2 rfl, by rw [← q0]; exact yvR rfl⟩
  | 2, hj => cases hj; exact ⟨_, lv_at hl3 1 rfl, by rw [← q1]; exact yvR rfl⟩
  | 3, hj => cases hj; exact ⟨_, lv_at hl3 0 rfl, yvI rfl⟩
  | n + 4, hj => cases hj
