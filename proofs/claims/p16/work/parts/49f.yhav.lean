/-! A CONTRACT OF THE CHECKER AS ONE OF THE PURE MACHINE: what it may write becomes anything that is typed -/
def yav : List Nat → Nat → List zAV
  | [], _ => []
  | k :: ks, n => (k, n, 0, 0, 0) :: yav ks (n + 1)
def yfl (k : Nat) : zIv := if k = 1 then [(-2147483648, 2147483647)] else [(-9223372036854775808, 9223372036854775807)]
def ygok (gh : Nat → Int) : Prop := gh 0 = 0 ∧ (0 ≤ gh 1 ∧ gh 1 ≤ 40) ∧ gh 2 = -1 ∧ gh 3 = 10
def yhR (rt : Nat) (r : List yV) : Prop := if rt = 0 then r = [] else ∃ z : Int, r = [(rt, z)]
def yhB (C : zC) (q0 : Nat) (ks : List Nat) (nLoc rt : Nat) : Bool :=
  decide (C.2.2.1.2.1.drop 4 = ks.map yfl) && ((decide (C.2.2.1.2.1.take 4 = [[(0, 0)], [(0, 40)], [(-1, 60)], [(10, 11)]]) || decide (C.2.2.1.2.1.take 4 = [[(0, 0)], [(0, 40)], [(-1, -1)], [(10, 10)]])) && (decide (C.2.2.1.2.2.1 = []) && (decide (C.2.2.1.2.2.2.1 = zlayP ((3, 0, (q0 : Int), 0, 0) :: yav ks 4) nLoc) && (decide (C.2.2.1.2.2.2.2.1 = []) && (decide (C.2.2.1.2.2.2.2.2.1 = []) && (decide (C.2.2.1.2.2.2.2.2.2 = []) && (decide ((zlay ((3, 0, (q0 : Int), 0, 0) :: yav ks 4)).length ≤ nLoc) && (ks.all (fun k => k == 1 || k == 2) && (decide (rt ≤ 2) && C.2.2.2.1.all (fun t => match t.2.2.2.2.1 with
    | [] => rt == 0
    | [a] => a.1 == rt && !(rt == 0)
    | _ => false))))))))))
def yPh (Z : zZ) (C : zC) (q0 : Nat) (ks : List Nat) (rt : Nat) : yPT := fun as g K => (∃ args : List yV, as = (3, (q0 : Int)) :: args ∧ args.map Prod.fst = ks) ∧ ∃ gh : Nat → Int, ygok gh ∧ yT Z gh g ∧ ∀ (r : List yV) (g' : yM), yhR rt r → yT Z gh g' → (∀ q j : Nat, (∀ w ∈ C.2.2.2.2, ¬ zcov w q j) → g' q j = g q j) → K r g'
theorem Met_post {l : Launch} {y : MethodName} {ws : List Cond} {rm : Room} {Pc : Array Value → State → Prop} {Q1 Q2 : Array Value → State → Outcome → State → Prop} {mc ms : Nat} {free : Addr → Prop} (h : Met l y ws rm Pc Q1 mc ms free) (hQ : ∀ a st o t, Q1 a st o t → Q2 a st o t) : Met l y ws rm Pc Q2 mc ms free := by
  intro p e ha hf hc s m args below hfr happ hP hK
  obtain ⟨n, o, h1, h2, h3, h4, h5⟩ := h p e ha hf hc s m args below hfr happ hP hK
  exact ⟨n, o, h1, h2, h3, hQ _ _ _ _ h4, h5⟩
theorem yavs_ok {Z : zZ} {ad : Nat → Nat} : ∀ {ks : List Nat} {args : List yV} {As : List Value} {nu : List Int} {n : Nat}, args.map Prod.fst = ks → (∀ k ∈ ks, k = 1 ∨ k = 2) → yS Z ad args As → (∀ (i : Nat) (a : yV), args[i]? = some a → nu[n + i]? = some a.2) → zall (zm ad nu) (yav ks n) As ∧ ∀ a ∈ args, zInIv a.2 (yfl a.1)
  | [], [], [], nu, n, _, _, _, _ => ⟨trivial, fun a ha => by cases ha⟩
  | [], a :: args, _, _, _, h, _, _, _ => by cases h
  | k :: ks, [], _, _, _, h, _, _, _ => by cases h
  | k :: ks, (t, z) :: args, v :: As, nu, n, h, hk, hS, hnu => by
    have h := List.cons.inj h
    have e1 : t = k := h.1
    subst e1
    obtain ⟨i1, i2⟩ := yavs_ok (nu := nu) (n := n + 1) h.2 (fun k' hk' => hk k' (List.mem_cons_of_mem _ hk')) hS.2 (fun i a ha => by
      have := hnu (i + 1) a (by rw [List.getElem?_cons_succ]; exact ha)
      rw [show n + 1 + i = n + (i + 1) by omega]
      exact this)
    have h0 := hnu 0 (t, z) rfl
    have hv : yval Z ad t z v := hS.1
    rcases hk t List.mem_cons_self with e | e
    · subst e
      obtain ⟨x, rfl, hx⟩ := yvI' hv
      refine ⟨⟨⟨x, rfl, z, h0, by omega⟩, i1⟩, fun a ha => ?_⟩
      rcases List.mem_cons.mp ha with rfl | ha
      · have := Int32.le_toInt x
        have := Int32.toInt_lt x
        exact ⟨(-2147483648, 2147483647), List.mem_cons_self, by show -2147483648 ≤ z; omega, by show z ≤ 2147483647; omega⟩
      · exact i2 a ha
    · subst e
      obtain ⟨x, rfl, hx⟩ := yvL' hv
      refine ⟨⟨⟨x, rfl, z, h0, by omega⟩, i1⟩, fun a ha => ?_⟩
      rcases List.mem_cons.mp ha with rfl | ha
      · have := Int64.le_toInt x
        have := Int64.toInt_lt x
        exact ⟨(-9223372036854775808, 9223372036854775807), List.mem_cons_self, by show -9223372036854775808 ≤ z; omega, by show z ≤ 9223372036854775807; omega⟩
      · exact i2 a ha
theorem yav_tags : ∀ (ks : List Nat) (n : Nat), ∀ a ∈ yav ks n, a.1 ∈ ks
  | [], _, a, h => by cases h
  | k :: ks, n, a, h => by
    rcases List.mem_cons.mp h with rfl | h
    · exact List.mem_cons_self
    · exact List.mem_cons_of_mem _ (yav_tags ks (n + 1) a h)
theorem yhav {l : Launch} {Ts : List Cond} {cl : List vw_C} {Z : zZ} {RO : zRO} {MT : zMT} {C : zC} {q0 rt : Nat} {ks : List Nat} (hZ : zDj Z) (hZk : yZok Z) (h4 : Z.2.2 = 4) (hB : yhB C q0 ks (MT C.1).2.2.1 rt = true) (hM0 : zMet l Ts cl Z RO (zKof MT C)) : yMet l Ts cl Z RO MT (C.1, C.2.1, yPh Z C q0 ks rt) := by
  intro D tys A ad ws g as As K hMem hSA hlen hD hK0
  obtain ⟨⟨args, rfl, hks⟩, gh, hg, hT, hK⟩ := hK0
  obtain ⟨g0, g1, g2, g3⟩ := id hg
  unfold yhB at hB
  simp only [Bool.and_eq_true, decide_eq_true_eq] at hB
  obtain ⟨b1, b2, b3, b4, b5, b6, b7, b8, b9, b10, b11⟩ := hB
  match As, hSA with
  | v0 :: As, ⟨hv0, hSA⟩ =>
    have hv0 : yval Z ad 3 (q0 : Int) v0 := hv0
    have hk12 : ∀ k ∈ ks, k = 1 ∨ k = 2 := fun k hk => by
      have := List.all_eq_true.mp b9 k hk
      rcases Bool.or_eq_true_iff.mp this with h | h
      · exact Or.inl (by simpa using h)
      · exact Or.inr (by simpa using h)
    have hnuA : ∀ (i : Nat) (a : yV), args[i]? = some a → ([gh 0, gh 1, gh 2, gh 3] ++ args.map Prod.snd)[4 + i]? = some a.2 := fun i a ha => by
      rw [List.getElem?_append_right (by simp), List.getElem?_map]
      simp [ha]
    obtain ⟨z1, z2⟩ := yavs_ok hks hk12 hSA hnuA
    have hW := zW_of hZk hT hMem
    have hlen4 : C.2.2.1.2.1 = C.2.2.1.2.1.take 4 ++ ks.map yfl := by rw [← b1, List.take_append_drop]
    have hk4 : (C.2.2.1.2.1.take 4).length = 4 := by
      rcases Bool.or_eq_true_iff.mp b2 with h | h
      · rw [of_decide_eq_true h]; rfl
      · rw [of_decide_eq_true h]; rfl
    have hEnv : zEnv C.2.2.1.2.1 ([gh 0, gh 1, gh 2, gh 3] ++ args.map Prod.snd) := by
      rw [hlen4]
      refine ⟨by rw [List.length_append, List.length_append, hk4, List.length_map, List.length_map, ← hks, List.length_map]; rfl, fun j iv hj => ?_⟩
      by_cases hj4 : j < 4
      · rw [List.getElem?_append_left (by omega)] at hj
        rcases Bool.or_eq_true_iff.mp b2 with h | h
        · rw [of_decide_eq_true h] at hj
          match j, hj with
          | 0, hj => cases hj; exact ⟨_, rfl, (0, 0), List.mem_cons_self, by show 0 ≤ gh 0; omega, by show gh 0 ≤ 0; omega⟩
          | 1, hj => cases hj; exact ⟨_, rfl, (0, 40), List.mem_cons_self, by show 0 ≤ gh 1; omega, by show gh 1 ≤ 40; omega⟩
          | 2, hj => cases hj; exact ⟨_, rfl, (-1, 60), List.mem_cons_self, by show -1 ≤ gh 2; omega, by show gh 2 ≤ 60; omega⟩
          | 3, hj => cases hj; exact ⟨_, rfl, (10, 11), List.mem_cons_self, by show 10 ≤ gh 3; omega, by show gh 3 ≤ 11; omega⟩
          | n + 4, hj => cases hj
        · rw [of_decide_eq_true h] at hj
          match j, hj with
          | 0, hj => cases hj; exact ⟨_, rfl, (0, 0), List.mem_cons_self, by show 0 ≤ gh 0; omega, by show gh 0 ≤ 0; omega⟩
          | 1, hj => cases hj; exact ⟨_, rfl, (0, 40), List.mem_cons_self, by show 0 ≤ gh 1; omega, by show gh 1 ≤ 40; omega⟩
          | 2, hj => cases hj; exact ⟨_, rfl, (-1, -1), List.mem_cons_self, by show -1 ≤ gh 2; omega, by show gh 2 ≤ -1; omega⟩
          | 3, hj => cases hj; exact ⟨_, rfl, (10, 10), List.mem_cons_self, by show 10 ≤ gh 3; omega, by show gh 3 ≤ 10; omega⟩
          | n + 4, hj => cases hj
      · rw [List.getElem?_append_right (by omega), hk4, List.getElem?_map] at hj
        obtain ⟨k, k1, k2⟩ := Option.map_eq_some_iff.mp hj
        rw [← hks, List.getElem?_map] at k1
        obtain ⟨a, a1, a2⟩ := Option.map_eq_some_iff.mp k1
        have h9 := hnuA (j - 4) a a1
        rw [show 4 + (j - 4) = j by omega] at h9
        refine ⟨a.2, h9, ?_⟩
        rw [← k2, ← a2]
        exact z2 a (List.mem_of_getElem? a1)
    have hgn : ∀ k, k < Z.2.2 → ([gh 0, gh 1, gh 2, gh 3] ++ args.map Prod.snd)[k]? = some (gh k) := fun k hk => by
      rw [h4] at hk
      match k, hk with
      | 0, _ => rfl
      | 1, _ => rfl
      | 2, _ => rfl
      | 3, _ => rfl
    have hEnt : zEnt Z ad gh tys (zKof MT C) ws ([gh 0, gh 1, gh 2, gh 3] ++ args.map Prod.snd) (v0 :: As) := by
      refine ⟨hW, hEnv, ?_, hgn, ?_, b5, ?_, b7⟩
      · show zCds C.2.2.1.2.2.1 _
        rw [b3]
        exact fun q hq => by cases hq
      · show zL ad _ (MT C.1).2.2.1 (zels (v0 :: As) (MT C.1).2.2.1) C.2.2.1.2.2.2.1
        rw [b4]
        refine zlayP_ok ⟨?_, z1⟩ (fun a ha => ?_) b8
        · have hv := yvR' hv0 (Or.inl rfl)
          exact ⟨q0, hv, gh 0, rfl, by omega⟩
        · rcases List.mem_cons.mp ha with rfl | ha
          · show 3 ≠ 0
            omega
          · have := hk12 _ (yav_tags ks 4 a ha)
            omega
      · show zF ad _ ws C.2.2.1.2.2.2.2.2.1
        rw [b6]
        exact fun f hf => by cases hf
    refine Met_post (hM0 D tys A ad gh ws _ (v0 :: As) ⟨by omega, g0⟩ hEnt hD) (fun a st o t hq => ?_)
    obtain ⟨c1, alt, v, ws', c2, rfl, c3, c4, c5, c6, t', c7, c8, c9, c10⟩ := hq
    obtain ⟨g', d1, d2⟩ := ynew hZ c5 hMem
    have c2 : alt ∈ C.2.2.2.1 := c2
    have halt := List.all_eq_true.mp b11 alt c2
    have key : ∃ r, yhR rt r ∧ yS Z ad r v.toList := by
      have c9 : zall (zm ad (([gh 0, gh 1, gh 2, gh 3] ++ args.map Prod.snd) ++ t')) alt.2.2.2.2.1 v.toList := c9
      generalize alt.2.2.2.2.1 = s at halt c9
      match s, halt, c9 with
      | [], halt, c9 =>
        have e0 : rt = 0 := by simpa using halt
        cases v with
        | none => exact ⟨[], by unfold yhR; rw [if_pos e0], trivial⟩
        | some w => exact c9.elim
      | [a], halt, c9 =>
        simp only [Bool.and_eq_true, beq_iff_eq, Bool.not_eq_true', beq_eq_false_iff_ne] at halt
        cases v with
        | none => exact c9.elim
        | some w =>
          obtain ⟨tg, n, k, n2, k2⟩ := a
          have e1 : tg = rt := halt.1
          subst e1
          have h3 : tg = 1 ∨ tg = 2 := by have := halt.2; omega
          rcases h3 with e | e
          · subst e
            obtain ⟨⟨x, hx, _⟩, _⟩ := c9
            subst hx
            exact ⟨[(1, x.toInt)], by unfold yhR; rw [if_neg (by omega)]; exact ⟨_, rfl⟩, yvI rfl, trivial⟩
          · subst e
            obtain ⟨⟨x, hx, _⟩, _⟩ := c9
            subst hx
            exact ⟨[(2, x.toInt)], by unfold yhR; rw [if_neg (by omega)]; exact ⟨_, rfl⟩, yvL rfl, trivial⟩
    obtain ⟨r, r1, r2⟩ := key
    exact ⟨c1, v, ws', r, g', rfl, c3, c4, d1, r2, hK r g' r1 (yT_of hZk c5 d1) (fun q j hqj => d2 q j (c6 q j hqj))⟩
