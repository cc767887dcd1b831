/-! THE LAW'S WALK: as a method's, with the script's ints read -/
def zscr (cc : ByteArray) (pc : Nat) : Option (Nat × Nat) := match decode cc pc, decode cc (pc + 1), decode cc (pc + 2) with
  | .ok (.aload_n i0, 1), .ok (.iload_n i3, 1), .ok (.iaload, 1) => if i0.val = 0 ∧ i3.val = 3 then some (0, pc + 3) else none
  | .ok (.aload_n i0, 1), .ok (.iload_n i3, 1), .ok (.iconst k, 1) => (match decode cc (pc + 3), decode cc (pc + 4) with
    | .ok (.iadd, 1), .ok (.iaload, 1) => if (i0.val = 0 ∧ i3.val = 3) ∧ 0 ≤ k ∧ k ≤ 5 then some (k.toNat, pc + 5) else none
    | _, _ => none)
  | _, _, _ => none
def zdeadL (sg : zS) : Bool := zdeadB sg.1 || sg.2.1.any (fun q => zle sg.1 sg.2.1 (q.2.1, q.2.2 + 1) (q.1, 0))
theorem zdeadL_ok {sg : zS} {nu : List Int} (h : zdeadL sg = true) (he : zEnv sg.1 nu) (hc : zCds sg.2.1 nu) : False := by
  rcases Bool.or_eq_true_iff.mp h with h | h
  · exact zdeadB_ok h he
  · obtain ⟨q, hq, h1⟩ := List.any_eq_true.mp h
    obtain ⟨x, y, hx, hy, hxy⟩ := hc q hq
    have := zle_ok h1 he hc (x := y + (q.2.2 + 1)) (y := x) ⟨y, hy, rfl⟩ ⟨x, hx, by omega⟩
    omega
def zgoL (Z : zZ) (Co : zCo) (ann : zAnn) (g : Nat → zS → Bool) (x : Nat × zS) : Bool := if ann.any (fun a => a.1 == x.1) = true then ann.any (fun a => a.1 == x.1 && zjmp Z Co.1 none a.2.2 a.2.1 x.2) else g x.1 x.2
def zrunL (Z : zZ) (RS : List (List Int)) (P : zPool) (MT : zMT) (CS : List zC) (Co : zCo) (cc : ByteArray) (ann : zAnn) : Nat → Nat → zS → Bool
  | 0, _, _ => false
  | f + 1, pc, sg => match zscr cc pc with
    | some q => decide (sg.2.2.1[0]? = some (3, 0, 3000, 0, 0)) && (decide (sg.2.2.1[3]? = some (1, 5, 0, 0, 0)) && zgoL Z Co ann (zrunL Z RS P MT CS Co cc ann f) (q.2, (sg.1, sg.2.1, sg.2.2.1, (1, 6 + q.1, 0, 0, 0) :: sg.2.2.2.1, sg.2.2.2.2.1, sg.2.2.2.2.2)))
    | none => (match decode cc pc with
      | .ok (ins, len) => (match zstep Z RS P MT CS Co pc sg ins len with
        | some su => su.all (fun x => zdeadL x.2 || zgoL Z Co ann (zrunL Z RS P MT CS Co cc ann f) x)
        | none => false)
      | .error _ => false)
section ZLW
variable {p : Program} {l : Launch} {e : Env} {R : Room} {s : State} {m : MethodId} {args : Array Value} {below : List Frame} {meth : Method} {c : Code} {cc : ByteArray} {own : String} {nL : Nat} {Ts : List Cond} {RO : zRO} {cl : List vw_C} {Z : zZ} {RS : List (List Int)} {P : zPool} {MT : zMT} {CS : List zC} {Co : zCo} {D : va_G} {tys : List (ClassId × FieldType)} {A : Nat → Prop} {ad : Nat → Nat} {gh : Nat → Int} {ws0 : va_W} {nuE : List Int} {H0 : Heap} {nu0 : List Int} {ce sl : Nat} {Q : State → Prop}
theorem zgoL_ok {ann : zAnn} {g : Nat → zS → Bool} {x : Nat × zS} (X : zCtx p l e R s m args below meth c cc own nL Ts RO cl Z RS P MT CS Co D tys A ad gh ws0 nuE H0 ce sl Q) (hGE : ∀ g, g < Z.2.2 → nuE[g]? = some (gh g)) (hE : ∃ u, nu0 = nuE ++ u) (hT : zTgt p l e R s m args below meth c nL cl Z Co D tys A ad gh ws0 nuE H0 ce sl Q ann none nu0) (h : zgoL Z Co ann g x = true) (kk : g x.1 x.2 = true → zWP (zG Z D cl tys A ad gh Co.2.2.1 H0 ws0 nu0 nL) (fun H locs pc ls st => W p l e R s m args below meth c H locs ce sl Q (F0 m pc ls st)) x.1 x.2) : zWP (zG Z D cl tys A ad gh Co.2.2.1 H0 ws0 nu0 nL) (fun H locs pc ls st => W p l e R s m args below meth c H locs ce sl Q (F0 m pc ls st)) x.1 x.2 := by
  unfold zgoL at h
  split at h
  · obtain ⟨a, ha, h2⟩ := List.any_eq_true.mp h
    rw [Bool.and_eq_true, beq_iff_eq] at h2
    have := zjmp_ok X hGE hE (ro := none) (fun r hr => by cases hr) ha hT h2.2
    rw [h2.1] at this
    exact this
  · exact kk h
theorem zrunL_ok {ann : zAnn} {Ln i0 : Nat} {xs : Nat → Int32} (X : zCtx p l e R s m args below meth c cc own nL Ts RO cl Z RS P MT CS Co D tys A ad gh ws0 nuE H0 ce sl Q) (hGE : ∀ g, g < Z.2.2 → nuE[g]? = some (gh g)) (hE : ∃ u, nu0 = nuE ++ u) (hT : zTgt p l e R s m args below meth c nL cl Z Co D tys A ad gh ws0 nuE H0 ce sl Q ann none nu0)
    (hX : va_X (ad 3000) Ln xs s H0) (hbl : ad 3000 < H0.size) (hbA : ¬ A (ad 3000)) (hi : nuE[5]? = some (i0 : Int)) (hiL : i0 + 5 < Ln) (hL8 : Ln ≤ 384) (hs : ∀ k, k ≤ 5 → nuE[6 + k]? = some (xs (i0 + k)).toInt) :
    ∀ (f pc : Nat) (sg : zS), zrunL Z RS P MT CS Co cc ann f pc sg = true → zWP (zG Z D cl tys A ad gh Co.2.2.1 H0 ws0 nu0 nL) (fun H locs pc ls st => W p l e R s m args below meth c H locs ce sl Q (F0 m pc ls st)) pc sg
  | 0, pc, sg, h => by cases h
  | f + 1, pc, sg, h => by
    unfold zrunL at h
    split at h
    · rename_i q hq
      rw [Bool.and_eq_true, Bool.and_eq_true, decide_eq_true_eq, decide_eq_true_eq] at h
      obtain ⟨l0, l3, hgo⟩ := h
      have hnext := zgoL_ok X hGE hE hT hgo (fun h => zrunL_ok X hGE hE hT hX hbl hbA hi hiL hL8 hs f _ _ h)
      obtain ⟨⟨hx, hb, h0, hml, hH0, hown⟩, -⟩ := id X
      intro nu ls stc ws H locs hG
      obtain ⟨hH, hN, hLl, hS, hF, hM⟩ := id hG
      obtain ⟨u, rfl⟩ := hE
      obtain ⟨t, rfl⟩ := hN.2.2.2
      have hpre : ∀ (j : Nat) (z : Int), nuE[j]? = some z → (nuE ++ u ++ t)[j]? = some z := fun j z hz => by
        have hj := (List.getElem?_eq_some_iff.mp hz).1
        rw [List.getElem?_append_left (by rw [List.length_append]; omega), List.getElem?_append_left hj]
        exact hz
      obtain ⟨v0, g0, q0, rfl, hq0⟩ := hLl.2.2.2 0 _ l0 (by simp)
      obtain ⟨v3, g3, x3, rfl, hx3⟩ := hLl.2.2.2 3 _ l3 (by simp)
      have eq0 : q0 = 3000 := by
        obtain ⟨z, z1, z2⟩ := hq0
        rw [hN.z0 h0] at z1
        cases z1
        omega
      subst eq0
      have ex3 : x3.toInt = (i0 : Int) := by
        obtain ⟨z, z1, z2⟩ := hx3
        rw [hpre 5 _ hi] at z1
        cases z1
        omega
      have fin : ∀ k, k ≤ 5 → (k, q.2) = q → W p l e R s m args below meth c H locs ce sl Q (F0 m q.2 ls (.int (xs (i0 + k)) :: stc)) := fun k hk5 hkq => by
        refine hnext (nuE ++ u ++ t) ls (.int (xs (i0 + k)) :: stc) ws H locs ⟨hH, hN, hLl, ⟨⟨_, rfl, ?_⟩, hS⟩, hF, hM⟩
        have e : q.1 = k := by rw [← hkq]
        rw [e]
        exact ⟨_, hpre _ _ (hs k hk5), by omega⟩
      unfold zscr at hq
      split at hq
      · rename_i i0' i3' d0 d1 d2
        split at hq
        · rename_i hc
          cases hq
          refine lv_aload_n hx hb d0 hc.1 g0 ?_
          refine lv_iload_n hx hb d1 hc.2 g3 ?_
          have hin : vp_in x3 Ln := vp_in_iff.mpr ⟨by omega, by omega⟩
          refine va_sld hx hb hX hbl hbA hH.2.2.1 hin d2 ?_
          have ec : x3.toNatClampNeg = i0 + 0 := by
            show x3.toInt.toNat = _
            omega
          rw [ec]
          exact fin 0 (by omega) rfl
        · cases hq
      · rename_i i0' i3' kk d0 d1 d2
        split at hq
        · rename_i d3 d4
          split at hq
          · rename_i hc
            cases hq
            refine lv_aload_n hx hb d0 hc.1.1 g0 ?_
            refine lv_iload_n hx hb d1 hc.1.2 g3 ?_
            refine lv_iconst hx hb d2 rfl ?_
            refine lv_iadd hx hb d3 ?_
            have ek : (Int32.ofInt kk).toInt = kk := zofI (by omega) (by omega)
            have es : (x3 + Int32.ofInt kk).toInt = x3.toInt + kk := by
              rw [Int32.toInt_add, ek, Int.bmod_eq_of_le (by omega) (by omega)]
            have hin : vp_in (x3 + Int32.ofInt kk) Ln := vp_in_iff.mpr ⟨by omega, by omega⟩
            refine va_sld hx hb hX hbl hbA hH.2.2.1 hin d4 ?_
            have ec : (x3 + Int32.ofInt kk).toNatClampNeg = i0 + kk.toNat := by
              show (x3 + Int32.ofInt kk).toInt.toNat = _
              omega
            rw [ec]
            exact fin kk.toNat (by omega) rfl
          · cases hq
        · cases hq
      · cases hq
    · split at h
      · rename_i ins len hd
        split at h
        · rename_i su hs'
          refine zstep_ok X hE hs' hd (fun x hx => ?_)
          have h1 := List.all_eq_true.mp h x hx
          rcases Bool.or_eq_true_iff.mp h1 with h1 | h1
          · intro nu ls st ws H locs hG
            exact (zdeadL_ok h1 hG.2.1.1 hG.2.1.2.1).elim
          · exact zgoL_ok X hGE hE hT h1 (fun h => zrunL_ok X hGE hE hT hX hbl hbA hi hiL hL8 hs f _ _ h)
        · cases h
      · cases h
end ZLW
