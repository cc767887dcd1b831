/-! A STEP MORE IN A TEXT: the contract -/
def zaddD (cc : ByteArray) (iT iS iN : Nat) : Prop := decode cc 0 = .ok (.aload_n 0, 1) ∧ decode cc 1 = .ok (.getfield iT, 3) ∧ decode cc 4 = .ok (.bipush 61, 2) ∧ decode cc 6 = .ok (.if_icmp .ge 33, 3) ∧ decode cc 9 = .ok (.aload_n 0, 1) ∧ decode cc 10 = .ok (.getfield iS, 3) ∧ decode cc 13 = .ok (.aload_n 0, 1) ∧ decode cc 14 = .ok (.getfield iT, 3) ∧ decode cc 17 = .ok (.iload_n 1, 1) ∧ decode cc 18 = .ok (.iastore, 1) ∧
  decode cc 19 = .ok (.aload_n 0, 1) ∧ decode cc 20 = .ok (.getfield iN, 3) ∧ decode cc 23 = .ok (.aload_n 0, 1) ∧ decode cc 24 = .ok (.getfield iT, 3) ∧ decode cc 27 = .ok (.iload_n 2, 1) ∧ decode cc 28 = .ok (.iastore, 1) ∧ decode cc 29 = .ok (.aload_n 0, 1) ∧ decode cc 30 = .ok (.dup, 1) ∧ decode cc 31 = .ok (.getfield iT, 3) ∧ decode cc 34 = .ok (.iconst 1, 1) ∧ decode cc 35 = .ok (.iadd, 1) ∧ decode cc 36 = .ok (.putfield iT, 3) ∧ decode cc 39 = .ok (.return_, 1)
def znoB (env : List zIv) (a : Nat × Int) (c : Int) : Bool := (zE env a.1).all (fun p => decide (p.2 + a.2 < c) || decide (c < p.1 + a.2))
theorem znoB_ok {env : List zIv} {nu : List Int} {a : Nat × Int} {c x : Int} (h : znoB env a c = true) (he : zEnv env nu) (hx : zV nu a.1 a.2 x) : x ≠ c := by
  obtain ⟨u, hu, rfl⟩ := hx
  obtain ⟨p, hp, h1, h2⟩ := he.at hu
  have := List.all_eq_true.mp h p hp
  rw [Bool.or_eq_true, decide_eq_true_eq, decide_eq_true_eq] at this
  omega
def ztiB (env : List zIv) (a b : Nat × Int) : Bool := (znoB env a 78 || (decide (0 ≤ zlo env b.1 + b.2) && decide (zhi env b.1 + b.2 ≤ 7))) && (znoB env a 63 || decide (0 ≤ zlo env b.1 + b.2))
theorem ztiB_ok {env : List zIv} {nu : List Int} {a b : Nat × Int} {x y : Int32} (h : ztiB env a b = true) (he : zEnv env nu) (hx : zV nu a.1 a.2 x.toInt) (hy : zV nu b.1 b.2 y.toInt) : zTI x y := by
  have bd := hy.bd he
  unfold ztiB at h
  rw [Bool.and_eq_true, Bool.or_eq_true, Bool.or_eq_true, Bool.and_eq_true, decide_eq_true_eq, decide_eq_true_eq] at h
  refine ⟨fun h1 => ?_, fun h1 => ?_⟩
  · rcases h.1 with h2 | h2
    · exact absurd h1 (znoB_ok h2 he hx)
    · omega
  · rcases h.2 with h2 | h2
    · exact absurd h1 (znoB_ok h2 he hx)
    · omega
theorem zUn_add {ad : Nat → Nat} {wr : zWr} {ws0 ws : va_W} {q ci : Nat} {fs : List Value} {cA cB : ClassId} {f g : Nat → Int32} {x a b : Int32} (hq : q = 10 ∨ q = 11) (c1 : ws[q]? = some (ad q, .inr (ci, fs))) (h1 : (10, 11, 1, 4) ∈ wr) (h2 : (31, 32, 0, 0) ∈ wr) (h3 : (33, 34, 0, 0) ∈ wr) (h : zUn wr ws0 ws) : zUn wr ws0 (zaddW ad ws q ci fs cA cB f g x a b) := by
  intro q2 j hn
  rw [← h q2 j hn]
  by_cases e1 : q2 = q + 21
  · exact absurd ⟨by subst e1; show (31 : Int) ≤ ((q + 21 : Nat) : Int); omega, by subst e1; show ((q + 21 : Nat) : Int) ≤ 32; omega, Or.inl rfl⟩ (hn _ h2)
  · by_cases e2 : q2 = q + 23
    · exact absurd ⟨by subst e2; show (33 : Int) ≤ ((q + 23 : Nat) : Int); omega, by subst e2; show ((q + 23 : Nat) : Int) ≤ 34; omega, Or.inl rfl⟩ (hn _ h3)
    · by_cases e3 : q2 = q
      · subst e3
        by_cases hj : j = 4
        · subst hj
          exact absurd ⟨by show (10 : Int) ≤ (q2 : Int); omega, by show (q2 : Int) ≤ 11; omega, Or.inr rfl⟩ (hn _ h1)
        · unfold zfv
          rw [zaddW_q (List.getElem?_eq_some_iff.mp c1).1, c1]
          exact List.getElem?_set_ne (Ne.symm hj)
      · exact zfv_ne (zaddW_ne e3 e1 e2) j
/-- the ghosts that may stand behind it -/
def zφadd (ci nr : Nat) (kr : Int) (s63 : Prop) : (Nat → Nat) → (Nat → Int) → (Nat → Int) → va_W → List Int → Prop := fun ad gh gh' ws nu => gh' = gh ∨ ((∀ n, n ≠ 2 → n ≠ 3 → gh' n = gh n) ∧ s63 ∧ ∃ (q : Nat) (fs : List Value) (x : Int32), zV nu nr kr q ∧ ws[q]? = some (ad q, .inr (ci, fs)) ∧ fs[4]? = some (.int x) ∧ x.toInt < 61 ∧ gh' 2 = x.toInt ∧ gh' 3 = q)
theorem zadd_met {l : Launch} {Ts : List Cond} {cl : List vw_C} {Z : zZ} {RO : zRO} {RS : List (List Int)} {MT : zMT} {CS : List zC} {C : zC} {P : zPool} {ci iT iS iN n nr ns nn : Nat} {rm : Nat × Nat} {kr ks kn : Int} {srcs : List zSrc} {env : List zIv} {cd : List zCd} {fa : List zFa} {wr : zWr} {kS kN : Nat} {s63 : Prop} (hTg : ∀ w ∈ Ts, goodWord w = true) (hR : zROk RO) (hZ : zDj Z) (hRS : zRowT RO RS) (hPk : zPok Ts cl RO MT (MT C.1).1.cls P) (hCS : ∀ C ∈ CS, zMet l Ts cl Z RO (zKof MT C)) (hret : (MT C.1).2.2.2 = none) (hy : plainName (MT C.1).1.cls = true)
    (hroom : P.2.2.2.1.all (fun q => !(q.2.1 == 3) || (decide (20 ≤ C.2.1.1) && decide (1000 ≤ C.2.1.2))) = true) (hT : zTxB Z ci = true) (hdc : zaddD (MT C.1).2.1 iT iS iN) (p1 : (iT, ci, 4, 0) ∈ P.1) (p2 : (iS, ci, 1, kS) ∈ P.1) (p3 : (iN, ci, 2, kN) ∈ P.1)
    (hC : C = (n, rm, (srcs, (env, cd, [(3, nr, kr, 0, 0), (1, ns, ks, 0, 0), (1, nn, kn, 0, 0)], [], fa, [])), [([], (env, [], [], [], [], []))], wr)) (hlo : 10 ≤ zlo env nr + kr) (hhi : zhi env nr + kr ≤ 11) (hti : ztiB env (ns, ks) (nn, kn) = true) (h63 : s63 → zlo env ns + ks = 63 ∧ zhi env ns + ks = 63) (w1 : (10, 11, 1, 4) ∈ wr) (w2 : (31, 32, 0, 0) ∈ wr) (w3 : (33, 34, 0, 0) ∈ wr) : zMetG l Ts cl Z RO (zKof MT C) (zφadd ci nr kr s63) := by
  subst hC
  refine zmet_ofG (rc := 0) (φ := zφadd ci nr kr s63) hTg hR hZ hRS hPk hCS ⟨fun _ => hret, fun h => (by cases h), fun h => (by cases h), fun h => (by cases h)⟩ hy hroom ?_
  intro p e R s m args below meth c D tys A ad gh gh' ws nu Q hgh hφ hQ hrt X ls hG
  subst hQ
  obtain ⟨⟨hx, hb, h0, hml, hH0, hown⟩, ⟨hts, -, hK, -, hro, -, hlocks⟩, -, ⟨hFl, hFp, -⟩, -⟩ := X
  obtain ⟨hH, hN, hL, hS, hF, hM⟩ := hG
  obtain ⟨v0, g0, q, rfl, hq⟩ := hL.2.2.2 0 (3, nr, kr, 0, 0) rfl (by simp)
  obtain ⟨v1, g1, a, rfl, ha⟩ := hL.2.2.2 1 (1, ns, ks, 0, 0) rfl (by simp)
  obtain ⟨v2, g2, b, rfl, hb'⟩ := hL.2.2.2 2 (1, nn, kn, 0, 0) rfl (by simp)
  have bq := hq.bd hN.1
  have hqq : q = 10 ∨ q = 11 := by simp only at bq; omega
  obtain ⟨-, hT2, hT3, hT4⟩ := zTxB_ok hT
  obtain ⟨fs, c1, c2, c3⟩ := hH.2.2.2.1 _ hT2 q (by simp only; omega) (by simp only; omega)
  obtain ⟨cA, cB, f, g, y1, y2, y3, y4, y5⟩ := hH.2.2.2.1 _ hT3 (q + 21) (by simp only; omega) (by simp only; omega)
  obtain ⟨cC, g', u1, u2⟩ := hH.2.2.2.1 _ hT4 (q + 23) (by simp only; omega) (by simp only; omega)
  have y3 : ws[q + 23]? = some (ad (q + 23), .inl (cB, 61, .inl g)) := y3
  rw [y3] at u1
  have hcc : cC = cB := by
    injection u1 with u1
    injection u1 with _ u1
    injection u1 with u1
    injection u1 with u1 _
    exact u1.symm
  rw [hcc] at u2
  have l5 : fs.length = 5 := c2
  have vS : fs[1]? = some (.ref (ad (q + 21))) := by
    have h1 := List.getElem?_eq_getElem (show 1 < fs.length by omega)
    have h2 : fs[1] = .ref (ad (q + (21 : Int).toNat)) := c3 1 (4, 21, 0) _ rfl h1
    rw [h1, h2]
    rfl
  have vN : fs[2]? = some (.ref (ad (q + 23))) := by
    have h1 := List.getElem?_eq_getElem (show 2 < fs.length by omega)
    have h2 : fs[2] = .ref (ad (q + (23 : Int).toNat)) := c3 2 (4, 23, 0) _ rfl h1
    rw [h1, h2]
    rfl
  obtain ⟨x, vx, ⟨x0, x61⟩, x9⟩ : ∃ x : Int32, fs[4]? = some (.int x) ∧ (0 ≤ x.toInt ∧ x.toInt ≤ 61) ∧ ((q : Int) = gh 3 → gh 2 < x.toInt) := by
    have h1 := List.getElem?_eq_getElem (show 4 < fs.length by omega)
    obtain ⟨x, h2, h3, h4⟩ := c3 4 (8, 0, 61) _ rfl h1
    exact ⟨x, by rw [h1, h2], h3, h4⟩
  obtain ⟨d0, d1, d4, d6, d9, d10, d13, d14, d17, d18, d19, d20, d23, d24, d27, d28, d29, d30, d31, d34, d35, d36, d39⟩ := hdc
  have hab := ztiB_ok (a := (ns, ks)) (b := (nn, kn)) hti hN.1 ha hb'
  have hX : ∀ ws' : va_W, zExt ad nu (env, [], [], [], [], []) ws' none := fun ws' => ⟨[], (by rw [List.append_nil]; exact hN.1), (fun q hq => by cases hq), trivial, (fun q hq => by cases hq)⟩
  refine zadd_walk (ad := ad) (q := q) (ci := ci) (a := a) (b := b) hx hb hown hK d0 d1 d4 d6 d9 d10 d13 d14 d17 d18 d19 d20 d23 d24 d27 d28 d29 d30 d31 d34 d35 d36 (hFl _ p1) (hFp _ p1 (Nat.zero_le _)) (hFl _ p2) (hFl _ p3) hH.1 hH.2.1 hH.2.2.1 c1 vS vN vx y1 y2 y3 u2 g0 g1 g2 x0 (fun h61 => ?_) (fun hlt H1 locs1 r1 r2 r3 => ?_)
  · rcases hφ with rfl | ⟨-, -, q', fs', x', z1, z2, z3, z4, -⟩
    · exact zr_vret hx hb hlocks (hrt.trans hret) hH.2.2.1 hH.1 hH.2.1 hH.2.2.2.1 hH.2.2.2.2 List.mem_cons_self (hX _) d39
    · have e : q' = q := by
        have := z1.eq hq
        omega
      subst e
      rw [c1] at z2
      cases z2
      rw [vx] at z3
      cases z3
      omega
  · refine zr_vret hx hb hlocks (hrt.trans hret) r3 r1 r2 ?_ (zUn_add hqq c1 w1 w2 w3 hH.2.2.2.2) List.mem_cons_self (hX _) d39
    rcases hφ with rfl | ⟨hg, hs63, q', fs', x', z1, z2, z3, z4, z5, z6⟩
    · exact zW_add hT hH.2.2.2.1 hqq c1 vx x0 hlt y1 y3 hab (fun n _ _ => rfl) (Or.inl ⟨rfl, rfl⟩)
    · have e : q' = q := by
        have := z1.eq hq
        omega
      subst e
      rw [c1] at z2
      cases z2
      rw [vx] at z3
      cases z3
      refine zW_add hT hH.2.2.2.1 hqq c1 vx x0 hlt y1 y3 hab hg (Or.inr ⟨z5, z6, ?_⟩)
      have ba := ha.bd hN.1
      have := h63 hs63
      simp only at ba
      omega
theorem zMetG.met {l : Launch} {Ts : List Cond} {cl : List vw_C} {Z : zZ} {RO : zRO} {K : zK} {φ : (Nat → Nat) → (Nat → Int) → (Nat → Int) → va_W → List Int → Prop} (h : zMetG l Ts cl Z RO K φ) (hφ : ∀ ad gh ws nu, φ ad gh gh ws nu) : zMet l Ts cl Z RO K := fun D tys A ad gh ws nu As h0 hE hD => h D tys A ad gh gh ws nu As h0 hE hD (hφ ad gh ws nu)
