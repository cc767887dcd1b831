/-! A STEP MORE IN A TEXT: the walk -/
section ZAD
variable {p : Program} {l : Launch} {e : Env} {R : Room} {s : State} {m : MethodId} {args : Array Value} {below : List Frame} {meth : Method} {c : Code} {Q : State → Prop} {cc : ByteArray} {pc ce sl : Nat}
variable {Z : zZ} {D : va_G} {cl : List vw_C} {tys : List (ClassId × FieldType)} {A : Nat → Prop} {ad : Nat → Nat} {gh : Nat → Int} {wr : zWr} {H0 : Heap} {ws0 : va_W} {nu0 : List Int} {nL : Nat}
variable {env : List zIv} {cd : List zCd} {L st : List zAV} {fa : List zFa} {me : List zMe}
theorem zadd_walk (hx : p.tables.exec = Jvm.exec) (hb : c.code = cc) {own : String} (hown : s.vm.findClass own = some m.cls) (hK : va_K D cl tys s) {iT iS iN ci t5 t6 q : Nat} {ws : va_W} {H : Heap} {locs : List Loc} {ls : Array Slot} {fs : List Value} {cA cB : ClassId} {f g : Nat → Int32} {x a b : Int32}
    (d0 : decode cc 0 = .ok (.aload_n 0, 1)) (d1 : decode cc 1 = .ok (.getfield iT, 3)) (d4 : decode cc 4 = .ok (.bipush 61, 2)) (d6 : decode cc 6 = .ok (.if_icmp .ge 33, 3)) (d9 : decode cc 9 = .ok (.aload_n 0, 1)) (d10 : decode cc 10 = .ok (.getfield iS, 3)) (d13 : decode cc 13 = .ok (.aload_n 0, 1)) (d14 : decode cc 14 = .ok (.getfield iT, 3)) (d17 : decode cc 17 = .ok (.iload_n 1, 1)) (d18 : decode cc 18 = .ok (.iastore, 1))
    (d19 : decode cc 19 = .ok (.aload_n 0, 1)) (d20 : decode cc 20 = .ok (.getfield iN, 3)) (d23 : decode cc 23 = .ok (.aload_n 0, 1)) (d24 : decode cc 24 = .ok (.getfield iT, 3)) (d27 : decode cc 27 = .ok (.iload_n 2, 1)) (d28 : decode cc 28 = .ok (.iastore, 1)) (d29 : decode cc 29 = .ok (.aload_n 0, 1)) (d30 : decode cc 30 = .ok (.dup, 1)) (d31 : decode cc 31 = .ok (.getfield iT, 3)) (d34 : decode cc 34 = .ok (.iconst 1, 1)) (d35 : decode cc 35 = .ok (.iadd, 1)) (d36 : decode cc 36 = .ok (.putfield iT, 3))
    (hfT : zFld cl s args own iT ci 4) (hfP : zFldP cl s args own iT ci 4 0) (hfS : zFld cl s args own iS ci 1) (hfN : zFld cl s args own iN ci 2) (hP : va_P D cl ws H) (hD : va_D A ws) (hS : va_S A H0 H locs) (c1 : ws[q]? = some (ad q, .inr (ci, fs))) (vS : fs[1]? = some (.ref (ad (q + 21)))) (vN : fs[2]? = some (.ref (ad (q + 23)))) (vx : fs[4]? = some (.int x))
    (w1 : ws[q + 21]? = some (ad (q + 21), .inl (cA, 61, .inl f))) (w2 : tys[t5]? = some (cA, .int)) (w3 : ws[q + 23]? = some (ad (q + 23), .inl (cB, 61, .inl g))) (w4 : tys[t6]? = some (cB, .int)) (g0 : ls[0]? = some (.val (.ref (ad q)))) (g1 : ls[1]? = some (.val (.int a))) (g2 : ls[2]? = some (.val (.int b))) (x0 : 0 ≤ x.toInt)
    (k1 : 61 ≤ x.toInt → W p l e R s m args below meth c H locs ce sl Q (F0 m 39 ls [])) (k2 : x.toInt < 61 → ∀ (H1 : Heap) (locs1 : List Loc), va_P D cl (zaddW ad ws q ci fs cA cB f g x a b) H1 → va_D A (zaddW ad ws q ci fs cA cB f g x a b) → va_S A H0 H1 locs1 → W p l e R s m args below meth c H1 locs1 ce sl Q (F0 m 39 ls [])) : W p l e R s m args below meth c H locs ce sl Q (F0 m 0 ls []) := by
  have e61 : ((Int8.ofInt 61).toInt32).toInt = 61 := by decide
  refine lv_aload_n hx hb d0 rfl g0 ?_
  refine zr_get hx hb hown hK hfT hP c1 vx d1 ?_
  refine lv_bipush hx hb d4 rfl ?_
  refine lv_icmp_ge (tgt := 39) hx hb d6 (by decide) (fun h => k1 (by have := Int32.le_iff_toInt_le.mp h; omega)) (fun h => ?_)
  have hlt : x.toInt < 61 := by have := mt Int32.le_iff_toInt_le.mpr h; omega
  have hin : vp_in x 61 := vp_in_iff.mpr ⟨by omega, by omega⟩
  refine lv_aload_n hx hb d9 rfl g0 ?_
  refine zr_get hx hb hown hK hfS hP c1 vS d10 ?_
  refine lv_aload_n hx hb d13 rfl g0 ?_
  refine zr_get hx hb hown hK hfT hP c1 vx d14 ?_
  refine lv_iload_n hx hb d17 rfl g1 ?_
  refine va_iast hx hb hK hP hD hS (q + 21) t5 w1 w2 hin d18 (fun H1 locs1 p1 p2 p3 => ?_)
  have c1' : (ws.set (q + 21) (ad (q + 21), .inl (cA, 61, .inl (upd f x.toNatClampNeg a))))[q]? = some (ad q, .inr (ci, fs)) := by rw [List.getElem?_set_ne (by omega)]; exact c1
  have w3' : (ws.set (q + 21) (ad (q + 21), .inl (cA, 61, .inl (upd f x.toNatClampNeg a))))[q + 23]? = some (ad (q + 23), .inl (cB, 61, .inl g)) := by rw [List.getElem?_set_ne (by omega)]; exact w3
  refine lv_aload_n hx hb d19 rfl g0 ?_
  refine zr_get hx hb hown hK hfN p1 c1' vN d20 ?_
  refine lv_aload_n hx hb d23 rfl g0 ?_
  refine zr_get hx hb hown hK hfT p1 c1' vx d24 ?_
  refine lv_iload_n hx hb d27 rfl g2 ?_
  refine va_iast hx hb hK p1 p2 p3 (q + 23) t6 w3' w4 hin d28 (fun H2 locs2 r1 r2 r3 => ?_)
  have c1'' : ((ws.set (q + 21) (ad (q + 21), .inl (cA, 61, .inl (upd f x.toNatClampNeg a)))).set (q + 23) (ad (q + 23), .inl (cB, 61, .inl (upd g x.toNatClampNeg b))))[q]? = some (ad q, .inr (ci, fs)) := by rw [List.getElem?_set_ne (by omega)]; exact c1'
  refine lv_aload_n hx hb d29 rfl g0 ?_
  refine lv_dup hx hb d30 rfl ?_
  refine zr_get hx hb hown hK hfT r1 c1'' vx d31 ?_
  refine lv_iconst hx hb d34 rfl ?_
  refine lv_iadd hx hb d35 ?_
  refine zr_putI hx hb hown hK hfP r1 r2 r3 c1'' (List.getElem?_eq_some_iff.mp vx).1 d36 (fun H3 locs3 s1 s2 s3 => ?_)
  exact k2 hlt H3 locs3 s1 s2 s3
end ZAD
