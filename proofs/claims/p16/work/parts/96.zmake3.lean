/-! MAKING: stores into new rows; rows of rows -/
theorem zset_self {α : Type} {l : List α} {k : Nat} {x : α} (h : l[k]? = some x) : l.set k x = l := by
  apply List.ext_getElem?
  intro i
  by_cases e : i = k
  · subst e
    rw [List.getElem?_set_self (List.getElem?_eq_some_iff.mp h).1, h]
  · rw [List.getElem?_set_ne (Ne.symm e)]
section ZMK3
variable {p : Program} {l : Launch} {e : Env} {R : Room} {s : State} {m : MethodId} {args : Array Value} {below : List Frame} {meth : Method} {c : Code} {Q : State → Prop} {cc : ByteArray} {pc ce sl nL : Nat} {D : va_G} {cl : List vw_C} {tys : List (ClassId × FieldType)} {A : Nat → Prop} {ad : Nat → Nat} {H0 H : Heap} {locs : List Loc} {ls : Array Slot} {rest : List Value} {ws0 ws : va_W} {q a ci : Nat} {na aa aa2 : Nat → Nat} {F : List zMV} {cs : List zMC} {Ts : List Cond} {own : String} {RO : zRO}
theorem zn_ist (hx : p.tables.exec = Jvm.exec) (hb : c.code = cc) (hK : va_K D cl tys s) (hP : va_P D cl ws H) (hD : va_D A ws) (hS : va_S A H0 H locs) (hM : zMW ws0 ws q a na aa tys F ci cs) {k t n : Nat} {lo hi : Int} {u1 u2 : Nat} (hk : cs[k]? = some (1, t, n, [(u1, lo), (u2, hi)])) {i x : Int32} (hin : vp_in i n) (h1 : lo ≤ x.toInt) (h2 : x.toInt ≤ hi) (hd : decode cc pc = .ok (.iastore, 1))
    (kk : ∀ (H1 : Heap) (locs1 : List Loc) (ws1 : va_W), va_P D cl ws1 H1 → va_D A ws1 → va_S A H0 H1 locs1 → zMW ws0 ws1 q a na aa tys F ci cs → W p l e R s m args below meth c H1 locs1 ce sl Q (F0 m (pc + 1) ls rest)) : W p l e R s m args below meth c H locs ce sl Q (F0 m pc ls (.int x :: .int i :: .ref (na k) :: rest)) := by
  obtain ⟨y, g1, cA, f, rfl, g2, g3⟩ := hM.2.2.2.2 k _ hk
  refine va_iast hx hb hK hP hD hS (ws0.length + k) t g1 g2 hin hd (fun H1 locs1 p1 p2 p3 => kk H1 locs1 _ p1 p2 p3 ?_)
  have := hM.cell (List.getElem?_eq_some_iff.mp hk).1 (C := (1, t, n, [(u1, lo), (u2, hi)])) (x := .inl (cA, n, .inl (upd f i.toNatClampNeg x))) ⟨cA, _, rfl, g2, fun j hj => by
    by_cases ej : j = i.toNatClampNeg
    · subst ej
      simp only [upd, if_true]
      exact ⟨h1, h2⟩
    · simp only [upd, if_neg ej]
      exact g3 j hj⟩
  rwa [zset_self hk] at this
/-- a comer more in their row -/
theorem zn_ast (hx : p.tables.exec = Jvm.exec) (hb : c.code = cc) (hK : va_K D cl tys s) (hP : va_P D cl ws H) (hD : va_D A ws) (hS : va_S A H0 H locs) (hM : zMW ws0 ws q a na aa tys F ci cs) {k t n kv cj b cnt : Nat} {T : u_T} {N : Nat} {F1 : List zMV} (hk : cs[k]? = some (5, t, n, [(0, (b : Int)), (0, (cnt : Int))])) (hv : cs[kv]? = some (0, cj, 0, F1)) (hkv : kv = b + cnt) (hc : cl[cj]? = some ("PushedIn$Comer", T, N)) {i : Int32} (hi : i.toNatClampNeg = cnt) (hin : vp_in i n) (hd : decode cc pc = .ok (.aastore, 1))
    (kk : ∀ (H1 : Heap) (locs1 : List Loc) (ws1 : va_W), va_P D cl ws1 H1 → va_D A ws1 → va_S A H0 H1 locs1 → zMW ws0 ws1 q a na aa tys F ci (cs.set k (5, t, n, [(0, (b : Int)), (0, ((cnt + 1 : Nat) : Int))])) → W p l e R s m args below meth c H1 locs1 ce sl Q (F0 m (pc + 1) ls rest)) : W p l e R s m args below meth c H locs ce sl Q (F0 m pc ls (.ref (na kv) :: .int i :: .ref (na k) :: rest)) := by
  obtain ⟨y, g1, cA, f, rfl, g2, g3⟩ := hM.2.2.2.2 k _ hk
  obtain ⟨y2, v1, fs, rfl, v2⟩ := hM.2.2.2.2 kv _ hv
  have lkv : kv < cs.length := (List.getElem?_eq_some_iff.mp hv).1
  have e1 : zbs [((0 : Nat), (b : Int)), (0, (cnt : Int))] = b := Int.toNat_natCast b
  have e2 : zct [((0 : Nat), (b : Int)), (0, (cnt : Int))] = cnt := Int.toNat_natCast cnt
  have e3 : zbs [((0 : Nat), (b : Int)), (0, ((cnt + 1 : Nat) : Int))] = b := Int.toNat_natCast b
  have e4 : zct [((0 : Nat), (b : Int)), (0, ((cnt + 1 : Nat) : Int))] = cnt + 1 := Int.toNat_natCast (cnt + 1)
  rw [e1, e2] at g3
  refine va_astq hx hb hK hP hD hS (ws0.length + k) t (ws0.length + kv) cj g1 g2 v1 hc hin hd (fun H1 locs1 p1 p2 p3 => kk H1 locs1 _ p1 p2 p3 (hM.cell (List.getElem?_eq_some_iff.mp hk).1 ⟨cA, _, rfl, g2, fun j hj => ?_⟩))
  rw [e4] at hj
  rw [e3]
  by_cases ej : j = cnt
  · subst ej
    refine ⟨by omega, ?_⟩
    simp only [va_up, hi, if_true]
    rw [hkv]
  · have := g3 j (by omega)
    refine ⟨this.1, ?_⟩
    simp only [va_up, hi, if_neg ej]
    exact this.2
theorem zMW.app {ws0 ws X : va_W} {q a : Nat} {na na' aa : Nat → Nat} {tys tys' : List (ClassId × FieldType)} {F : List zMV} {ci : Nat} {cs Cs : List zMC} (ht : ∀ (t : Nat) (y : ClassId × FieldType), tys[t]? = some y → tys'[t]? = some y) (h : zMW ws0 ws q a na aa tys F ci cs) (hn : ∀ k, k < cs.length → na' k = na k) (hl : X.length = Cs.length) (hX : ∀ (k : Nat) (C : zMC), Cs[k]? = some C → ∃ x : va_E, X[k]? = some (na' (cs.length + k), x) ∧ zcr a na' aa (cs.length + Cs.length) tys' C x) : zMW ws0 (ws ++ X) q a na' aa tys' F ci (cs ++ Cs) := by
  obtain ⟨h1, h2, h3, ⟨fs, h4, h5⟩, h6⟩ := h
  refine ⟨h1, by rw [List.length_append, List.length_append, h2, hl]; omega, fun i hi hq => ?_, ⟨fs, ?_, ?_⟩, fun k C' hk => ?_⟩
  · rw [List.getElem?_append_left (by omega)]
    exact h3 i hi hq
  · rw [List.getElem?_append_left (by omega)]
    exact h4
  · rw [List.length_append]
    exact h5.mono hn (by omega)
  · rw [List.length_append]
    by_cases hkl : k < cs.length
    · rw [List.getElem?_append_left hkl] at hk
      obtain ⟨x', g1, g2⟩ := h6 k C' hk
      exact ⟨x', by rw [List.getElem?_append_left (by omega), hn k hkl]; exact g1, g2.mono hn (by omega) ht⟩
    · rw [List.getElem?_append_right (by omega)] at hk
      obtain ⟨x, x1, x2⟩ := hX _ C' hk
      refine ⟨x, ?_, x2⟩
      rw [List.getElem?_append_right (by omega), h2, show ws0.length + k - (ws0.length + cs.length) = k - cs.length by omega, x1, show cs.length + (k - cs.length) = k by omega]
def zrows (h : Nat) (cA cL : ClassId) : va_W := (List.range 7).map (fun i => (h + i, if i = 0 then .inl (cA, 6, .inr (.inr (.inr (.inr (fun j => if j < 6 then some (h + 1 + j) else none))))) else .inl (cL, 60, .inr (.inl (fun _ => 0)))))
theorem zrows_at {h : Nat} {cA cL : ClassId} {k : Nat} {x : Nat × va_E} (hx : (zrows h cA cL)[k]? = some x) : k < 7 ∧ x.1 = h + k := by
  unfold zrows at hx
  rw [List.getElem?_map] at hx
  by_cases h7 : k < 7
  · rw [List.getElem?_range h7] at hx
    cases hx
    exact ⟨h7, rfl⟩
  · rw [List.getElem?_eq_none (by rw [List.length_range]; omega)] at hx
    cases hx
theorem zn_mna (hx : p.tables.exec = Jvm.exec) (hb : c.code = cc) (hown : s.vm.findClass own = some m.cls) {idx tn : Nat} (hcl : (Cond.classLink own idx "[[J").before args s = true) (hover : (Cond.arrayOver (.array .long)).before args s = true) (harr : (Cond.arrayClass .long).before args s = true) (hK : va_K D cl tys s) (hP : va_P D cl ws H) (hD : va_D A ws) (hS : va_S A H0 H locs) (hA : ∀ q, H0.size ≤ q → A q) {cL : ClassId} (hcL : tys[2]? = some (cL, .long)) (htn : tys.length = tn) (hM : zMW ws0 ws q a na aa tys F ci cs) (hcells : ce + (1 + 6) ≤ R.cells) (hslots : sl + (6 + 6 * 60) ≤ R.slots) (hd : decode cc pc = .ok (.multianewarray idx 2, 4))
    (kk : ∀ (r : Nat) (cA : ClassId) (H1 : Heap) (ws1 : va_W) (na1 : Nat → Nat), va_K D cl (tys ++ [(cA, .array .long)]) s → va_P D cl ws1 H1 → va_D A ws1 → va_S A H0 H1 locs → (∀ i, i < cs.length → na1 i = na i) → na1 cs.length = r → zMW ws0 ws1 q a na1 aa (tys ++ [(cA, .array .long)]) F ci (cs ++ ((4, tn, 6, [(0, ((cs.length + 1 : Nat) : Int))]) :: List.replicate 6 (2, 2, 60, []))) → W p l e R s m args below meth c H1 locs (ce + 1 + 6) (sl + 6 + 6 * 60) Q (F0 m (pc + 4) ls (.ref r :: rest))) : W p l e R s m args below meth c H locs ce sl Q (F0 m pc ls (.int 60 :: .int 6 :: rest)) := by
  intro T hT Xs
  obtain ⟨vm₁, cA, comp, fA, fC, hAr, X', step⟩ := zmulti Xs hx hown hcl hover harr (g := F0 m pc ls (.int 60 :: .int 6 :: rest)) rfl (by rw [hb]; exact hd) rfl hcells hslots
  have ec : some cL = some comp := ((hK.2 2 _ hcL).2).symm.trans fC
  cases ec
  generalize hF : zmT (T.setVm vm₁) cA cL 6 60 6 = F1 at X' step
  have hTh : (T.setVm vm₁).heap = H := hT
  obtain ⟨f1, f2, -, -, hold, hrow0⟩ := zmT_is (T.setVm vm₁) cA cL 6 60 6
  rw [hF, hTh] at f1 f2 hold hrow0
  have hrow : ∀ j : Nat, j < 6 → F1.heap[H.size + 1 + j]? = some (vp_cell cL (60, .inr (.inl (fun _ => 0)))) := fun j hj => by
    rw [hrow0 j hj, vp_cell_l]
    exact congrArg some (arrV_new cL 60 (.long 0))
  have hout : zmO cA 6 H.size 6 = vp_cell cA (6, .inr (.inr (.inr (.inr (fun i => if i < 6 then some (H.size + 1 + i) else none))))) := by
    rw [vp_cell_q]
    exact zmO_arr cA 6 H.size 6
  rw [hout] at f2
  have hP2 : va_P D cl (ws ++ zrows H.size cA cL) F1.heap := (hP.kept (fun k9 x hx => hold x.1 ((hP k9 x hx).lt))).app (fun k9 x hx => by
    obtain ⟨h7, -⟩ := zrows_at hx
    unfold zrows at hx
    rw [List.getElem?_map, List.getElem?_range h7] at hx
    cases hx
    by_cases h0 : k9 = 0
    · subst h0
      exact f2
    · have h1 := hrow (k9 - 1) (by omega)
      rw [show H.size + 1 + (k9 - 1) = H.size + k9 by omega] at h1
      simp only [if_neg h0]
      exact h1)
  have hD2 : va_D A (ws ++ zrows H.size cA cL) := by
    have hlt : ∀ (k9 : Nat) (x : Nat × va_E), ws[k9]? = some x → x.1 < H.size := fun k9 x hx => (hP k9 x hx).lt
    refine ⟨fun i j x y hi hj hxy => ?_, fun k9 x hx => ?_⟩
    · by_cases h1 : i < ws.length <;> by_cases h2 : j < ws.length
      · rw [List.getElem?_append_left h1] at hi
        rw [List.getElem?_append_left h2] at hj
        exact hD.1 i j x y hi hj hxy
      · rw [List.getElem?_append_left h1] at hi
        rw [List.getElem?_append_right (by omega)] at hj
        have a1 := hlt _ _ hi
        have a2 := (zrows_at hj).2
        omega
      · rw [List.getElem?_append_right (by omega)] at hi
        rw [List.getElem?_append_left h2] at hj
        have a1 := hlt _ _ hj
        have a2 := (zrows_at hi).2
        omega
      · rw [List.getElem?_append_right (by omega)] at hi hj
        have a1 := (zrows_at hi).2
        have a2 := (zrows_at hj).2
        omega
    · by_cases h1 : k9 < ws.length
      · rw [List.getElem?_append_left h1] at hx
        exact hD.2 k9 x hx
      · rw [List.getElem?_append_right (by omega)] at hx
        have a1 := (zrows_at hx).2
        exact hA _ (by have := hS.1; omega)
  have hK2 : va_K D cl (tys ++ [(cA, .array .long)]) s := ⟨hK.1, fun k9 x hx => by
    by_cases hl : k9 < tys.length
    · rw [List.getElem?_append_left hl] at hx
      exact hK.2 k9 x hx
    · rw [List.getElem?_append_right (by omega)] at hx
      have h0 : k9 - tys.length < 1 := (List.getElem?_eq_some_iff.mp hx).1
      rw [show k9 - tys.length = 0 by omega] at hx
      cases hx
      exact ⟨hAr, fA⟩⟩
  have ht : ∀ (t : Nat) (y : ClassId × FieldType), tys[t]? = some y → (tys ++ [(cA, .array .long)])[t]? = some y := fun t y h => by
    rw [List.getElem?_append_left (List.getElem?_eq_some_iff.mp h).1]
    exact h
  have hM2 : zMW ws0 (ws ++ zrows H.size cA cL) q a (fun i => if i < cs.length then na i else H.size + (i - cs.length)) aa (tys ++ [(cA, .array .long)]) F ci (cs ++ ((4, tn, 6, [(0, ((cs.length + 1 : Nat) : Int))]) :: List.replicate 6 (2, 2, 60, []))) := by
    refine hM.app ht (fun k hk => if_pos hk) rfl (fun k C hk => ?_)
    have h7 : k < 7 := (List.getElem?_eq_some_iff.mp hk).1
    refine ⟨if k = 0 then .inl (cA, 6, .inr (.inr (.inr (.inr (fun j => if j < 6 then some (H.size + 1 + j) else none))))) else .inl (cL, 60, .inr (.inl (fun _ => 0))), ?_, ?_⟩
    · unfold zrows
      rw [List.getElem?_map, List.getElem?_range h7, if_neg (by omega), Nat.add_sub_cancel_left]
      rfl
    · by_cases h0 : k = 0
      · subst h0
        cases hk
        have e3 : zbs [((0 : Nat), ((cs.length + 1 : Nat) : Int))] = cs.length + 1 := Int.toNat_natCast _
        refine ⟨cA, _, rfl, ?_, ?_, fun j hj => ?_⟩
        · rw [List.getElem?_append_right (by omega), htn, Nat.sub_self]
          rfl
        · rw [e3]
          show cs.length + 1 + 6 ≤ cs.length + 7
          omega
        · show (if j < 6 then some (H.size + 1 + j) else none) = some (if zbs [((0 : Nat), ((cs.length + 1 : Nat) : Int))] + j < cs.length then na (zbs [((0 : Nat), ((cs.length + 1 : Nat) : Int))] + j) else H.size + (zbs [((0 : Nat), ((cs.length + 1 : Nat) : Int))] + j - cs.length))
          rw [e3, if_pos hj, if_neg (show ¬ cs.length + 1 + j < cs.length by omega)]
          congr 1
          omega
      · have hC : C = (2, 2, 60, []) := by
          match k, hk, h0 with
          | 0, _, h0 => exact absurd rfl h0
          | k' + 1, hk, _ =>
            rw [List.getElem?_cons_succ, List.getElem?_replicate] at hk
            split at hk
            · cases hk
              rfl
            · cases hk
        subst hC
        simp only [if_neg h0]
        exact ⟨cL, rfl, ht _ _ hcL⟩
  obtain ⟨t, a1, b1⟩ := kk H.size cA F1.heap _ _ hK2 hP2 hD2 ⟨by rw [f1]; have := hS.1; omega, fun x h1 h2 => (hold x (Nat.lt_of_lt_of_le h1 hS.1)).trans (hS.2.1 x h1 h2), hS.2.2⟩ (fun i hi => if_pos hi) (by rw [if_neg (by omega), Nat.sub_self]; rfl) hM2 F1 rfl X'
  refine ⟨t, step t ?_, b1⟩
  have e : T.heap.size = H.size := by rw [hT]
  rw [e]
  exact a1
end ZMK3
