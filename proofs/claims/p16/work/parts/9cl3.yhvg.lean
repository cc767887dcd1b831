/-! HAVOC, WITH ENDS OF THE ARGUMENTS -/
def yhBG (C : zC) (q0 : Nat) (ks : List Nat) (ivs : List zIv) (fs : List (Nat × Nat × zIv)) (nLoc rt : Nat) : Bool :=
  (ivs.length == ks.length) && (decide (C.2.2.1.2.1.drop 4 = ivs ++ fs.map (fun f => f.2.2)) && ((decide (C.2.2.1.2.1.take 4 = [[(0, 0)], [(0, 40)], [(-1, 60)], [(10, 11)]]) || decide (C.2.2.1.2.1.take 4 = [[(0, 0)], [(0, 40)], [(-1, -1)], [(10, 10)]])) && (decide (C.2.2.1.2.2.1 = []) && (decide (C.2.2.1.2.2.2.1 = zlayP ((3, 0, (q0 : Int), 0, 0) :: yav ks 4) nLoc) && (decide (C.2.2.1.2.2.2.2.1 = []) && (yfaB C.2.2.1.2.2.2.2.2.1 fs (4 + ks.length) && (decide (C.2.2.1.2.2.2.2.2.2 = []) && (decide ((zlay ((3, 0, (q0 : Int), 0, 0) :: yav ks 4)).length ≤ nLoc) && (ks.all (fun k => k == 1 || k == 2) && (decide (rt ≤ 2) && C.2.2.2.1.all (fun t => match t.2.2.2.2.1 with
    | [] => rt == 0
    | [a] => a.1 == rt && !(rt == 0)
    | _ => false)))))))))))
def yPhG (Z : zZ) (C : zC) (q0 : Nat) (ks : List Nat) (ivs : List zIv) (fs : List (Nat × Nat × zIv)) (rt : Nat) : yPT := fun as g K => (∃ args : List yV, as = (3, (q0 : Int)) :: args ∧ args.map Prod.fst = ks ∧ ∀ (i : Nat) (a : yV) (iv : zIv), args[i]? = some a → ivs[i]? = some iv → zInIv a.2 iv) ∧ ∃ gh : Nat → Int, ygok gh ∧ yT Z gh g ∧ (∀ f ∈ fs, zInIv (g f.1 f.2.1) f.2.2) ∧ ∀ (r : List yV) (g' : yM), yhR rt r → yTy Z g' → yUn C.2.2.2.2 g g' → K r g'
theorem yhavG {l : Launch} {Ts : List Cond} {cl : List vw_C} {Z : zZ} {RO : zRO} {MT : zMT} {C : zC} {q0 rt : Nat} {ks : List Nat} {ivs : List zIv} {fs : List (Nat × Nat × zIv)} (hZ : zDj Z) (hZk : yZok Z) (h4 : Z.2.2 = 4) (hB : yhBG C q0 ks ivs fs (MT C.1).2.2.1 rt = true) (hfs : ∀ f ∈ fs, ∃ e ∈ Z.1, e.1 ≤ f.1 ∧ f.1 ≤ e.2.1 ∧ ∃ ci ln fts ft, e.2.2 = (0, ci, ln, fts) ∧ fts[f.2.1]? = some ft ∧ yint ft = true) (hM0 : ∀ (D : va_G) (tys : List (ClassId × FieldType)) (A : Nat → Prop) (ad : Nat → Nat) (gh : Nat → Int) (ws : va_W) (nu : List Int) (As : List Value), gh 1 ≤ 40 → (0 < Z.2.2 ∧ gh 0 = 0) → zEnt Z ad gh tys (zKof MT C) ws nu As → va_D A ws → Met l (zKof MT C).1 (Cond.code (zKof MT C).1 (zKof MT C).2.1 (zKof MT C).2.2.1 (zKof MT C).2.2.2.1 :: Ts) (zrm (zKof MT C)) (zPc D cl tys A ad RO ws As) (zQe Z D cl tys A ad gh (zKA (zKof MT C)) (zKW (zKof MT C)) ws) 0 0 A) : yMet l Ts cl Z RO MT (C.1, C.2.1, yPhG Z C q0 ks ivs fs rt) := by
  intro D tys A ad ws g as As K hMem hSA hlen hD hK0
  obtain ⟨⟨args, rfl, hks, hargs⟩, gh, hg, hT, hfv, hK⟩ := hK0
  obtain ⟨g0, g1, g2, g3⟩ := id hg
  unfold yhBG at hB
  simp only [Bool.and_eq_true, decide_eq_true_eq, beq_iff_eq] at hB
  obtain ⟨bL, b1, b2, b3, b4, b5, b6, b7, b8, b9, b10, b11⟩ := hB
  match As, hSA with
  | v0 :: As, ⟨hv0, hSA⟩ =>
    have hv0 : yval Z ad 3 (q0 : Int) v0 := hv0
    have hk12 : ∀ k ∈ ks, k = 1 ∨ k = 2 := fun k hk => by
      have := List.all_eq_true.mp b9 k hk
      rcases Bool.or_eq_true_iff.mp this with h | h
      · exact Or.inl (by simpa using h)
      · exact Or.inr (by simpa using h)
    have hnuA : ∀ (i : Nat) (a : yV), args[i]? = some a → ([gh 0, gh 1, gh 2, gh 3] ++ (args.map Prod.snd ++ fs.map (fun f => g f.1 f.2.1)))[4 + i]? = some a.2 := fun i a ha => by
      have hil := (List.getElem?_eq_some_iff.mp ha).1
      rw [List.getElem?_append_right (by simp), List.getElem?_append_left (by simp; omega), List.getElem?_map]
      simp [ha]
    have hnuF : ∀ (i : Nat) (f : Nat × Nat × zIv), fs[i]? = some f → ([gh 0, gh 1, gh 2, gh 3] ++ (args.map Prod.snd ++ fs.map (fun f => g f.1 f.2.1)))[4 + ks.length + i]? = some (g f.1 f.2.1) := fun i f hf => by
      have e1 : args.length = ks.length := by rw [← hks, List.length_map]
      rw [List.getElem?_append_right (by simp; omega), List.getElem?_append_right (by simp; omega), List.getElem?_map, List.length_map]
      have e2 : 4 + ks.length + i - [gh 0, gh 1, gh 2, gh 3].length - args.length = i := by simp; omega
      rw [e2, hf]
      rfl
    obtain ⟨z1, z2⟩ := yavs_ok hks hk12 hSA hnuA
    have hW := zW_of hZk hT hMem
    have hlen4 : C.2.2.1.2.1 = C.2.2.1.2.1.take 4 ++ (ivs ++ fs.map (fun f => f.2.2)) := by rw [← b1, List.take_append_drop]
    have hk4 : (C.2.2.1.2.1.take 4).length = 4 := by
      rcases Bool.or_eq_true_iff.mp b2 with h | h
      · rw [of_decide_eq_true h]; rfl
      · rw [of_decide_eq_true h]; rfl
    have hEnv : zEnv C.2.2.1.2.1 ([gh 0, gh 1, gh 2, gh 3] ++ (args.map Prod.snd ++ fs.map (fun f => g f.1 f.2.1))) := by
      rw [hlen4]
      refine ⟨by simp only [List.length_append, List.length_map, hk4, bL]; rw [← hks, List.length_map]; rfl, fun j iv hj => ?_⟩
      by_cases hj4 : j < 4
      · rw [List.getElem?_append_left (by omega)] at hj
        rcases Bool.or_eq_true_iff.mp b2 with h | h
        · rw [of_decide_eq_true h] at hj
          match j, hj with
          | 0, hj => cases hj; exact ⟨_, rfl, (0, 0), List.mem_cons_self, by show 0 ≤ gh 0; omega, by show gh 0 ≤ 0; omega⟩
          | 1, hj => cases hj; exact ⟨_, rfl, (0, 40), List.mem_cons_self, by show 0 ≤ gh 1; omega, by show gh 1 ≤ 40; omega⟩
          | 2, hj => cases hj; exact ⟨_, rfl, (-1, 60), List.mem_cons_self, by show -1 ≤ gh 2; omega, by show gh 2 ≤ 60; omega⟩
          | 3, hj => cases hj; exact ⟨_, rfl, (10, 11), List.mem_cons_self, by show 10 ≤ gh 3; omega, by show gh 3 ≤ 11; omega⟩
          | n + 4, hj => cases hj
        · rw [of_decide_eq_true h] at hj
          match j, hj with
          | 0, hj => cases hj; exact ⟨_, rfl, (0, 0), List.mem_cons_self, by show 0 ≤ gh 0; omega, by show gh 0 ≤ 0; omega⟩
          | 1, hj => cases hj; exact ⟨_, rfl, (0, 40), List.mem_cons_self, by show 0 ≤ gh 1; omega, by show gh 1 ≤ 40; omega⟩
          | 2, hj => cases hj; exact ⟨_, rfl, (-1, -1), List.mem_cons_self, by show -1 ≤ gh 2; omega, by show gh 2 ≤ -1; omega⟩
          | 3, hj => cases hj; exact ⟨_, rfl, (10, 10), List.mem_cons_self, by show 10 ≤ gh 3; omega, by show gh 3 ≤ 10; omega⟩
          | n + 4, hj => cases hj
      · rw [List.getElem?_append_right (by omega), hk4] at hj
        by_cases hjk : j - 4 < ks.length
        · rw [List.getElem?_append_left (by rw [bL]; exact hjk)] at hj
          have la : j - 4 < args.length := by rw [← hks, List.length_map] at hjk; exact hjk
          have a1 := List.getElem?_eq_getElem la
          have h9 := hnuA (j - 4) _ a1
          rw [show 4 + (j - 4) = j by omega] at h9
          exact ⟨_, h9, hargs (j - 4) _ iv a1 hj⟩
        · rw [List.getElem?_append_right (by rw [bL]; omega), bL, List.getElem?_map] at hj
          obtain ⟨f, f1, f2⟩ := Option.map_eq_some_iff.mp hj
          have h9 := hnuF (j - 4 - ks.length) f f1
          rw [show 4 + ks.length + (j - 4 - ks.length) = j by omega] at h9
          refine ⟨_, h9, ?_⟩
          rw [← f2]
          exact hfv f (List.mem_of_getElem? f1)
    have hgn : ∀ k, k < Z.2.2 → ([gh 0, gh 1, gh 2, gh 3] ++ (args.map Prod.snd ++ fs.map (fun f => g f.1 f.2.1)))[k]? = some (gh k) := fun k hk => by
      rw [h4] at hk
      match k, hk with
      | 0, _ => rfl
      | 1, _ => rfl
      | 2, _ => rfl
      | 3, _ => rfl
    have hEnt : zEnt Z ad gh tys (zKof MT C) ws ([gh 0, gh 1, gh 2, gh 3] ++ (args.map Prod.snd ++ fs.map (fun f => g f.1 f.2.1))) (v0 :: As) := by
      refine ⟨hW, hEnv, ?_, hgn, ?_, b5, ?_, b7⟩
      · show zCds C.2.2.1.2.2.1 _
        rw [b3]
        exact fun q hq => by cases hq
      · show zL ad _ (MT C.1).2.2.1 (zels (v0 :: As) (MT C.1).2.2.1) C.2.2.1.2.2.2.1
        rw [b4]
        refine zlayP_ok ⟨?_, z1⟩ (fun a ha => ?_) b8
        · have hv := yvR' hv0 (Or.inl rfl)
          exact ⟨q0, hv, gh 0, rfl, by omega⟩
        · rcases List.mem_cons.mp ha with rfl | ha
          · show 3 ≠ 0
            omega
          · have := hk12 _ (yav_tags ks 4 a ha)
            omega
      · show zF ad _ ws C.2.2.1.2.2.2.2.2.1
        intro x hx
        obtain ⟨i, f, k2, k3, f1, rfl⟩ := yfaB_ok b6 x hx
        obtain ⟨e, he, e1, e2, ci, ln, fts, ft, e3, e4, e5⟩ := hfs f (List.mem_of_getElem? f1)
        have hc := hMem e he f.1 e1 e2
        rw [e3] at hc
        obtain ⟨fl, c1, c2, c3⟩ := hc
        have hl : f.2.1 < fl.length := by rw [c2]; exact (List.getElem?_eq_some_iff.mp e4).1
        have hv := c3 _ ft _ e4 (List.getElem?_eq_getElem hl)
        have hx : ∃ x : Int32, fl[f.2.1] = .int x ∧ x.toInt = g f.1 f.2.1 := by
          obtain ⟨tg, lo, hi⟩ := ft
          match tg, e5, hv with
          | 0, _, hv => exact hv
          | 3, _, hv => exact hv
          | n + 5, _, hv => exact hv
        obtain ⟨x, x1, x2⟩ := hx
        refine ⟨f.1, .int x, ⟨gh 0, rfl, by show (f.1 : Int) = gh 0 + (f.1 : Int); omega⟩, ?_, x, rfl, _, hnuF i f f1, by omega⟩
        unfold zfv
        rw [c1, ← x1]
        exact List.getElem?_eq_getElem hl
    refine Met_post (hM0 D tys A ad gh ws _ (v0 :: As) g1.2 ⟨by omega, g0⟩ hEnt hD) (fun a st o t hq => ?_)
    obtain ⟨gh', nu', ⟨f1, f2, f3⟩, -, c1, alt, v, ws', c2, rfl, c3, c4, c5, c6, t', c7, c8, c9, c10⟩ := hq
    obtain ⟨g', d1, d2⟩ := ynew hZ c5 hMem
    have c2 : alt ∈ C.2.2.2.1 := c2
    have halt := List.all_eq_true.mp b11 alt c2
    have key : ∃ r, yhR rt r ∧ yS Z ad r v.toList := by
      have c9 : zall (zm ad (nu' ++ t')) alt.2.2.2.2.1 v.toList := c9
      generalize alt.2.2.2.2.1 = s at halt c9
      match s, halt, c9 with
      | [], halt, c9 =>
        have e0 : rt = 0 := by simpa using halt
        cases v with
        | none => exact ⟨[], by unfold yhR; rw [if_pos e0], trivial⟩
        | some w => exact c9.elim
      | [a], halt, c9 =>
        simp only [Bool.and_eq_true, beq_iff_eq, Bool.not_eq_true', beq_eq_false_iff_ne] at halt
        cases v with
        | none => exact c9.elim
        | some w =>
          obtain ⟨tg, n, k, n2, k2⟩ := a
          have e1 : tg = rt := halt.1
          subst e1
          have h3 : tg = 1 ∨ tg = 2 := by have := halt.2; omega
          rcases h3 with e | e
          · subst e
            obtain ⟨⟨x, hx, _⟩, _⟩ := c9
            subst hx
            exact ⟨[(1, x.toInt)], by unfold yhR; rw [if_neg (by omega)]; exact ⟨_, rfl⟩, yvI rfl, trivial⟩
          · subst e
            obtain ⟨⟨x, hx, _⟩, _⟩ := c9
            subst hx
            exact ⟨[(2, x.toInt)], by unfold yhR; rw [if_neg (by omega)]; exact ⟨_, rfl⟩, yvL rfl, trivial⟩
    obtain ⟨r, r1, r2⟩ := key
    exact ⟨c1, v, ws', r, g', rfl, c3, c4, d1, r2, hK r g' r1 ⟨gh', ⟨by rw [f3 0 (by omega)]; exact g0, ⟨by omega, f2⟩, by rw [f3 2 (by omega)]; exact g2, by rw [f3 3 (by omega)]; exact g3⟩, yT_of hZk c5 d1⟩ (fun q j hqj => d2 q j (c6 q j hqj))⟩
