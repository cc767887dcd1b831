/-! READING A COMER -/
def yNm (S : Int → Int) : Nat → Int → Int → Int × Int
  | 0, p, v => (p, v)
  | m + 1, p, v => if 48 ≤ S p ∧ S p ≤ 57 then yNm S m (p + 1) (v * 10 + S p - 48) else (p, v)
/-- a number: where it ends, the fault, its value -/
def yRn (S : Int → Int) (d : Nat) (lo hi p f : Int) : Int × Int × Int :=
  if f = -1 then
    (if (yNm S d p 0).1 = p ∨ (yNm S d p 0).2 < lo ∨ hi < (yNm S d p 0).2 then (p, p, 0) else ((yNm S d p 0).1, -1, (yNm S d p 0).2))
  else (p, f, 0)
/-- a sign that may stand: where it ends, whether it stood -/
def yTk (S : Int → Int) (c p f : Int) : Int × Int := if f = -1 ∧ S p = c then (p + 1, 1) else (p, 0)
/-- a sign that must stand: where it ends, the fault -/
def yEx (S : Int → Int) (c p f : Int) : Int × Int := if f = -1 then (if S p = c then (p + 1, -1) else (p, p)) else (p, f)
/-- a comer: the fault, the seven numbers -/
def yPar (S : Int → Int) (len : Int) : Int × Int × Int × Int × Int × Int × Int × Int :=
  let a := yRn S 3 0 718 0 (-1)
  let b := yEx S 45 a.1 a.2.1
  let c := yRn S 3 (a.2.2 + 1) 719 b.1 b.2
  let d := yEx S 64 c.1 c.2.1
  let e := yRn S 1 0 3 d.1 d.2
  let f := yEx S 109 e.1 e.2.1
  let h := yRn S 1 0 5 f.1 f.2
  let i := yEx S 115 h.1 h.2.1
  let j := yRn S 1 0 7 i.1 i.2
  let k := yTk S 35 j.1 j.2.1
  let l := if k.2 = 1 then yRn S 2 0 99 k.1 j.2.1 else (k.1, j.2.1, -1)
  let n := yTk S 108 l.1 l.2.1
  let o := if n.2 = 1 then yRn S 1 0 3 n.1 l.2.1 else (n.1, l.2.1, e.2.2)
  (if o.2.1 = -1 ∧ o.1 < len then o.1 else o.2.1, a.2.2, c.2.2, e.2.2, h.2.2, j.2.2, l.2.2, o.2.2)
/-- signs alike for all that reads them -/
def ySal (S T : Int → Int) : Prop := ∀ p, S p = T p ∨ (S p < 35 ∧ T p < 35)
def yNB : Nat → Int → Int
  | 0, v => v
  | m + 1, v => yNB m (v * 10 + 9)
theorem yNB_mono : ∀ (m : Nat) (u v : Int), u ≤ v → yNB m u ≤ yNB m v
  | 0, u, v, h => h
  | m + 1, u, v, h => yNB_mono m _ _ (by omega)
theorem yNB_le : ∀ (m : Nat) (v : Int), 0 ≤ v → v ≤ yNB m v
  | 0, v, h => Int.le_refl _
  | m + 1, v, h => by
    have := yNB_le m (v * 10 + 9) (by omega)
    show v ≤ yNB m (v * 10 + 9)
    omega
theorem yNm_v {S : Int → Int} : ∀ (m : Nat) (p v : Int), 0 ≤ v → 0 ≤ (yNm S m p v).2 ∧ (yNm S m p v).2 ≤ yNB m v
  | 0, p, v, h => ⟨h, Int.le_refl _⟩
  | m + 1, p, v, h => by
    unfold yNm
    split
    · have h1 := yNm_v (S := S) m (p + 1) (v * 10 + S p - 48) (by omega)
      have h2 := yNB_mono m (v * 10 + S p - 48) (v * 10 + 9) (by omega)
      refine ⟨h1.1, ?_⟩
      show _ ≤ yNB m (v * 10 + 9)
      omega
    · exact ⟨h, yNB_le (m + 1) v h⟩
theorem yNm_al {S T : Int → Int} (h : ySal S T) : ∀ (m : Nat) (p v : Int), yNm S m p v = yNm T m p v
  | 0, _, _ => rfl
  | m + 1, p, v => by
    unfold yNm
    rcases h p with e | e
    · rw [e, yNm_al h m]
    · rw [if_neg (by omega), if_neg (by omega)]
theorem yRn_al {S T : Int → Int} (h : ySal S T) (d : Nat) (lo hi p f : Int) : yRn S d lo hi p f = yRn T d lo hi p f := by
  unfold yRn
  rw [yNm_al h]
theorem yTk_al {S T : Int → Int} (h : ySal S T) (c p f : Int) (hc : 35 ≤ c) : yTk S c p f = yTk T c p f := by
  unfold yTk
  rcases h p with e | e
  · rw [e]
  · rw [if_neg (by omega), if_neg (by omega)]
theorem yEx_al {S T : Int → Int} (h : ySal S T) (c p f : Int) (hc : 35 ≤ c) : yEx S c p f = yEx T c p f := by
  unfold yEx
  rcases h p with e | e
  · rw [e]
  · rw [if_neg (show ¬ S p = c by omega), if_neg (show ¬ T p = c by omega)]
theorem yRn_lo {S : Int → Int} {d : Nat} {lo lo' hi p f : Int} (h : f = -1 → lo = lo') : yRn S d lo hi p f = yRn S d lo' hi p f := by
  unfold yRn
  by_cases hf : f = -1
  · rw [h hf]
  · rw [if_neg hf, if_neg hf]
theorem yPar_al {S T : Int → Int} (h : ySal S T) (len : Int) : yPar S len = yPar T len := by
  unfold yPar
  simp only [yRn_al h, yTk_al h _ _ _ (show (35 : Int) ≤ 35 by decide), yTk_al h _ _ _ (show (35 : Int) ≤ 108 by decide), yEx_al h _ _ _ (show (35 : Int) ≤ 45 by decide), yEx_al h _ _ _ (show (35 : Int) ≤ 64 by decide), yEx_al h _ _ _ (show (35 : Int) ≤ 109 by decide), yEx_al h _ _ _ (show (35 : Int) ≤ 115 by decide)]
/-- the class's sign at a place, when there is no fault -/
def ySc (g : yM) (p : Int) : Int := if p < g 2 2 then yb (fun x y => x &&& y) (g 18 (Int.toNat p)) 255 else -1
theorem ySc_pl (g : yM) (v : Int) : ySc (yset g 2 1 v) = ySc g := by
  funext p
  unfold ySc
  rw [yset_ne (by decide), yset_ne (by omega)]
theorem ySc_fa (g : yM) (v : Int) : ySc (yset g 2 3 v) = ySc g := by
  funext p
  unfold ySc
  rw [yset_ne (by decide), yset_ne (by omega)]
/-- the class's reading moves place and fault alone -/
def yTf (g g' : yM) : Prop := ∀ a j : Nat, ¬ (a = 2 ∧ (j = 1 ∨ j = 3)) → g' a j = g a j
theorem yTf.sc {g g' : yM} (h : yTf g g') : ySc g' = ySc g := by
  funext p
  unfold ySc
  rw [h 2 2 (by decide), h 18 _ (by omega)]
def yP_SG : yPT := fun as g K => as = [(3, 2)] ∧ (0 ≤ g 2 1) ∧ (g 2 2 ≤ 60) ∧ (∀ (r : Int), (g 2 3 = -1 → r = ySc g (g 2 1)) → (g 2 3 ≠ -1 → r = -1) → K [(1, r)] g)
def yC_SG : yC := (106, (1, 40), yP_SG)
set_option maxRecDepth 8000 in
theorem yv_SG {K : List yV → yM → Prop} {Y : yNx} {g : yM} (hY : yCl zpD106 (zpZ, zpRS, zpP9, zpMT, [], (1, 40), 1) K Y) (hp0 : 0 ≤ g 2 1) (hp1 : g 2 2 ≤ 60) (hK : ∀ (r : Int), (g 2 3 = -1 → r = ySc g (g 2 1)) → (g 2 3 ≠ -1 → r = -1) → K [(1, r)] g) : Y 0 [(3, 2)] [] g := by
  refine yrun_ok (sp := fun pc => false) hY 18 0 _ [] g ?_
  show (((g 2 3) ≠ (-1) → (K [(1, (-1))] g)) ∧ (¬ ((g 2 3) ≠ (-1)) → (((g 2 2) ≤ (g 2 1) → (K [(1, (-1))] g)) ∧ (¬ ((g 2 2) ≤ (g 2 1)) → (((0 : Int) ≤ (g 2 1) ∧ (g 2 1) < ((60 : Nat) : Int)) ∧ (K [(1, (yb (fun x y => x &&& y) (g 18 (Int.toNat (g 2 1))) 255))] g))))))
  refine ⟨fun h1 => ?_, fun h1 => ?_⟩
  · exact hK _ (fun h => by unfold ySc; rw [if_neg (by omega)]) (fun _ => rfl)
  · refine ⟨fun h2 => ?_, fun h2 => ?_⟩
    · exact hK _ (fun h => by unfold ySc; rw [if_neg (by omega)]) (fun _ => rfl)
    · refine ⟨(by omega), ?_⟩
      exact hK _ (fun h => by unfold ySc; rw [if_pos (by omega)]) (fun h => absurd h (by omega))
theorem yM_SG {l : Launch} {Ts : List Cond} {cl : List vw_C} {RO : zRO} (H : zHyp Ts cl RO) : yMet l Ts cl zpZ RO zpMT yC_SG := ymet_of2 H.1 H.2.1 zpDj H.2.2.1 yRb H.p9 ymets_nil (zrc1 rfl) (plainFor_of_name zpy9) zpDk106 (fun as g K Y h hA hY => by
  obtain ⟨rfl, hp0, hp1, hK⟩ := h
  exact yv_SG hY  hp0 hp1 hK)
def yP_ID : yPT := fun as g K => ∃ (v : Int), as = [(1, v)] ∧ (∀ (r : Int), ((r = 1 ∧ 48 ≤ v ∧ v ≤ 57) ∨ (r = 0 ∧ (v < 48 ∨ 57 < v))) → K [(1, r)] g)
def yC_ID : yC := (15, (1, 40), yP_ID)
set_option maxRecDepth 8000 in
theorem yv_ID {K : List yV → yM → Prop} {Y : yNx} {g : yM} {v : Int} (hY : yCl zpD15 (zpZ, zpRS, zpP0, zpMT, [], (1, 40), 2) K Y) (hr_v : -2147483648 ≤ v ∧ v ≤ 2147483647) (hK : ∀ (r : Int), ((r = 1 ∧ 48 ≤ v ∧ v ≤ 57) ∨ (r = 0 ∧ (v < 48 ∨ 57 < v))) → K [(1, r)] g) : Y 0 [(1, v)] [] g := by
  refine yrun_ok (sp := fun pc => false) hY 9 0 _ [] g ?_
  show ((v < 48 → (((0 : Int) ≤ 0 ∧ 0 ≤ (1 : Int)) ∧ (K [(1, 0)] g))) ∧ (¬ (v < 48) → ((57 < v → (((0 : Int) ≤ 0 ∧ 0 ≤ (1 : Int)) ∧ (K [(1, 0)] g))) ∧ (¬ (57 < v) → (((0 : Int) ≤ 1 ∧ 1 ≤ (1 : Int)) ∧ (K [(1, 1)] g))))))
  refine ⟨fun h1 => ?_, fun h1 => ?_⟩
  · refine ⟨(by omega), ?_⟩
    exact hK _ (by first | omega | exact fun _ => rfl | exact fun h => absurd h (by omega) | exact rfl | exact fun _ _ => rfl | exact fun h _ => absurd h (by omega) | exact fun _ h => absurd h (by omega))
  · refine ⟨fun h2 => ?_, fun h2 => ?_⟩
    · refine ⟨(by omega), ?_⟩
      exact hK _ (by first | omega | exact fun _ => rfl | exact fun h => absurd h (by omega) | exact rfl | exact fun _ _ => rfl | exact fun h _ => absurd h (by omega) | exact fun _ h => absurd h (by omega))
    · refine ⟨(by omega), ?_⟩
      exact hK _ (by first | omega | exact fun _ => rfl | exact fun h => absurd h (by omega) | exact rfl | exact fun _ _ => rfl | exact fun h _ => absurd h (by omega) | exact fun _ h => absurd h (by omega))
theorem yM_ID {l : Launch} {Ts : List Cond} {cl : List vw_C} {RO : zRO} (H : zHyp Ts cl RO) : yMet l Ts cl zpZ RO zpMT yC_ID := ymet_of2 H.1 H.2.1 zpDj H.2.2.1 yRb H.p0 ymets_nil (zrc2 rfl) (plainFor_of_name zpy0) zpDk15 (fun as g K Y h hA hY => by
  obtain ⟨v, rfl, hK⟩ := h
  exact yv_ID hY (yAr1 hA (by simp)) hK)
def yP_SP : yPT := fun as g K => as = [(3, 2)] ∧ (0 ≤ g 2 1 ∧ g 2 1 ≤ 60) ∧ (∀ (g' : yM), (g 2 3 = -1 → g' = yset g 2 3 (g 2 1)) → (g 2 3 ≠ -1 → g' = g) → K [] g')
def yC_SP : yC := (107, (1, 40), yP_SP)
set_option maxRecDepth 8000 in
theorem yv_SP {K : List yV → yM → Prop} {Y : yNx} {g : yM} (hY : yCl zpD107 (zpZ, zpRS, zpP9, zpMT, [], (1, 40), 0) K Y) (hp0 : 0 ≤ g 2 1 ∧ g 2 1 ≤ 60) (hK : ∀ (g' : yM), (g 2 3 = -1 → g' = yset g 2 3 (g 2 1)) → (g 2 3 ≠ -1 → g' = g) → K [] g') : Y 0 [(3, 2)] [] g := by
  refine yrun_ok (sp := fun pc => false) hY 9 0 _ [] g ?_
  show (((g 2 3) ≠ (-1) → (K [] g)) ∧ (¬ ((g 2 3) ≠ (-1)) → (K [] (yset g 2 3 (g 2 1)))))
  refine ⟨fun h1 => ?_, fun h1 => ?_⟩
  · exact hK _ (fun h => absurd h (by omega)) (fun _ => rfl)
  · exact hK _ (fun _ => rfl) (fun h => absurd h (by omega))
theorem yM_SP {l : Launch} {Ts : List Cond} {cl : List vw_C} {RO : zRO} (H : zHyp Ts cl RO) : yMet l Ts cl zpZ RO zpMT yC_SP := ymet_of2 H.1 H.2.1 zpDj H.2.2.1 yRb H.p9 ymets_nil (zrc0 rfl) (plainFor_of_name zpy9) zpDk107 (fun as g K Y h hA hY => by
  obtain ⟨rfl, hp0, hK⟩ := h
  exact yv_SP hY  hp0 hK)
def yP_AP : yPT := fun as g K => ∃ (c : Int), as = [(3, 2), (1, c)] ∧ (0 ≤ g 2 1 ∧ g 2 1 ≤ 60) ∧ (g 2 2 ≤ 60) ∧ (35 ≤ c) ∧ (∀ (r : Int) (g' : yM), (r = (yTk (ySc g) c (g 2 1) (g 2 3)).2) → (g' = yset g 2 1 (yTk (ySc g) c (g 2 1) (g 2 3)).1) → K [(1, r)] g')
def yC_AP : yC := (101, (2, 60), yP_AP)
set_option maxRecDepth 8000 in
theorem yv_AP {K : List yV → yM → Prop} {Y : yNx} {g : yM} {c : Int} (hY : yCl zpD101 (zpZ, zpRS, zpP9, zpMT, [yC_SG], (2, 60), 2) K Y) (hr_c : -2147483648 ≤ c ∧ c ≤ 2147483647) (hp0 : 0 ≤ g 2 1 ∧ g 2 1 ≤ 60) (hp1 : g 2 2 ≤ 60) (hp2 : 35 ≤ c) (hK : ∀ (r : Int) (g' : yM), (r = (yTk (ySc g) c (g 2 1) (g 2 3)).2) → (g' = yset g 2 1 (yTk (ySc g) c (g 2 1) (g 2 3)).1) → K [(1, r)] g') : Y 0 [(3, 2), (1, c)] [] g := by
  refine yrun_ok (sp := fun pc => false) hY 12 0 _ [] g ?_
  show ([(3, 2)] = [(3, 2)] ∧ (0 ≤ g 2 1) ∧ (g 2 2 ≤ 60) ∧ (∀ (r1 : Int), (g 2 3 = -1 → r1 = ySc g (g 2 1)) → (g 2 3 ≠ -1 → r1 = -1) → ((r1 = c → (((0 : Int) ≤ 1 ∧ 1 ≤ (1 : Int)) ∧ (K [(1, 1)] (yset g 2 1 (yw ((g 2 1) + 1)))))) ∧ (¬ (r1 = c) → (((0 : Int) ≤ 0 ∧ 0 ≤ (1 : Int)) ∧ (K [(1, 0)] g))))))
  refine ⟨rfl, (by omega), (by omega), ?_⟩
  intro r1 p20 p21
  refine ⟨fun h3 => ?_, fun h3 => ?_⟩
  · refine ⟨(by omega), ?_⟩
    have hc : (g 2 3 = -1 ∧ ySc g (g 2 1) = c) := by
      by_cases hf : g 2 3 = -1
      · have := p20 hf
        omega
      · have := p21 hf
        omega
    have := yw_s ((g 2 1) + 1)
    refine hK _ _ ?_ ?_
    · unfold yTk; rw [if_pos hc]
    · unfold yTk; rw [if_pos hc, show (yw ((g 2 1) + 1)) = g 2 1 + 1 from by omega]
  · refine ⟨(by omega), ?_⟩
    have hc : ¬ (g 2 3 = -1 ∧ ySc g (g 2 1) = c) := by
      by_cases hf : g 2 3 = -1
      · have := p20 hf
        omega
      · have := p21 hf
        omega
    refine hK _ _ ?_ ?_
    · unfold yTk; rw [if_neg hc]
    · unfold yTk; rw [if_neg hc]; exact (yset_id g 2 1).symm
theorem yM_AP {l : Launch} {Ts : List Cond} {cl : List vw_C} {RO : zRO} (H : zHyp Ts cl RO) : yMet l Ts cl zpZ RO zpMT yC_AP := ymet_of2 H.1 H.2.1 zpDj H.2.2.1 yRb H.p9 (ymets_cons (yM_SG H) ymets_nil) (zrc2 rfl) (plainFor_of_name zpy9) zpDk101 (fun as g K Y h hA hY => by
  obtain ⟨c, rfl, hp0, hp1, hp2, hK⟩ := h
  exact yv_AP hY (yAr1 hA (by simp)) hp0 hp1 hp2 hK)
theorem yset_ot (g : yM) (v : Int) (j : Nat) (h : j ≠ 3) : yset (yset g 2 j v) 2 3 (g 2 3) = yset g 2 j v := by
  funext a b
  unfold yset
  split
  · rename_i e
    rw [if_neg (by omega), e.1, e.2]
  · rfl
def yP_EP : yPT := fun as g K => ∃ (c : Int), as = [(3, 3), (1, c)] ∧ (0 ≤ g 2 1 ∧ g 2 1 ≤ 60) ∧ (g 2 2 ≤ 60) ∧ (35 ≤ c) ∧ (∀ (g' : yM), (g' = yset (yset g 2 1 (yEx (ySc g) c (g 2 1) (g 2 3)).1) 2 3 (yEx (ySc g) c (g 2 1) (g 2 3)).2) → K [] g')
def yC_EP : yC := (55, (3, 81), yP_EP)
set_option maxRecDepth 8000 in
theorem yv_EP {K : List yV → yM → Prop} {Y : yNx} {g : yM} {c : Int} (hY : yCl zpD55 (zpZ, zpRS, zpP4, zpMT, [yC_AP, yC_SP], (3, 81), 0) K Y) (hr_c : -2147483648 ≤ c ∧ c ≤ 2147483647) (hp0 : 0 ≤ g 2 1 ∧ g 2 1 ≤ 60) (hp1 : g 2 2 ≤ 60) (hp2 : 35 ≤ c) (hK : ∀ (g' : yM), (g' = yset (yset g 2 1 (yEx (ySc g) c (g 2 1) (g 2 3)).1) 2 3 (yEx (ySc g) c (g 2 1) (g 2 3)).2) → K [] g') : Y 0 [(3, 3), (1, c)] [] g := by
  refine yrun_ok (sp := fun pc => false) hY 9 0 _ [] g ?_
  show (∃ (c1 : Int), [(3, 2), (1, c)] = [(3, 2), (1, c1)] ∧ (0 ≤ g 2 1 ∧ g 2 1 ≤ 60) ∧ (g 2 2 ≤ 60) ∧ (35 ≤ c1) ∧ (∀ (r2 : Int) (g3 : yM), (r2 = (yTk (ySc g) c1 (g 2 1) (g 2 3)).2) → (g3 = yset g 2 1 (yTk (ySc g) c1 (g 2 1) (g 2 3)).1) → ((r2 ≠ 0 → (K [] g3)) ∧ (¬ (r2 ≠ 0) → ([(3, 2)] = [(3, 2)] ∧ (0 ≤ g3 2 1 ∧ g3 2 1 ≤ 60) ∧ (∀ (g6 : yM), (g3 2 3 = -1 → g6 = yset g3 2 3 (g3 2 1)) → (g3 2 3 ≠ -1 → g6 = g3) → (K [] g6)))))))
  refine ⟨_, rfl, (by omega), (by omega), (by omega), ?_⟩
  intro r2 g3 p40 p41
  refine ⟨fun h5 => ?_, fun h5 => ?_⟩
  · by_cases hx : g 2 3 = -1 ∧ ySc g (g 2 1) = c
    · unfold yTk at p41
      rw [if_pos hx] at p41
      refine hK _ ?_
      rw [p41]
      unfold yEx
      rw [if_pos hx.1, if_pos hx.2]
      exact (by rw [← hx.1]; exact (yset_ot g _ _ (by decide)).symm)
    · unfold yTk at p40
      rw [if_neg hx] at p40
      omega
  · refine ⟨rfl, (by
      have hx : ¬ (g 2 3 = -1 ∧ ySc g (g 2 1) = c) := fun hx => by
        have q : (yTk (ySc g) c (g 2 1) (g 2 3)).2 = 1 := by unfold yTk; rw [if_pos hx]
        omega
      rw [p41]
      unfold yTk
      rw [if_neg hx, yset_eq]
      exact hp0), ?_⟩
    intro g6 p70 p71
    by_cases hx : g 2 3 = -1 ∧ ySc g (g 2 1) = c
    · unfold yTk at p40
      rw [if_pos hx] at p40
      omega
    · unfold yTk at p41
      rw [if_neg hx, yset_id] at p41
      rw [p41] at p70 p71
      by_cases hf : g 2 3 = -1
      · refine hK _ ?_
        rw [p70 hf]
        unfold yEx
        rw [if_pos hf, if_neg (fun h => hx ⟨hf, h⟩), yset_id]
      · refine hK _ ?_
        rw [p71 hf]
        unfold yEx
        rw [if_neg hf]
        exact (by rw [yset_id]; exact (yset_id g 2 3).symm)
theorem yM_EP {l : Launch} {Ts : List Cond} {cl : List vw_C} {RO : zRO} (H : zHyp Ts cl RO) : yMet l Ts cl zpZ RO zpMT yC_EP := ymet_of2 H.1 H.2.1 zpDj H.2.2.1 yRb H.p4 (ymets_cons (yM_AP H) (ymets_cons (yM_SP H) ymets_nil)) (zrc0 rfl) (plainFor_of_name zpy4) zpDk55 (fun as g K Y h hA hY => by
  obtain ⟨c, rfl, hp0, hp1, hp2, hK⟩ := h
  exact yv_EP hY (yAr1 hA (by simp)) hp0 hp1 hp2 hK)
def yP_RW : yPT := fun as g K => as = [(3, 2)] ∧ (∀ (g' : yM), (g' = yset (yset g 2 1 0) 2 3 (-1)) → K [] g')
def yC_RW : yC := (105, (1, 40), yP_RW)
set_option maxRecDepth 8000 in
theorem yv_RW {K : List yV → yM → Prop} {Y : yNx} {g : yM} (hY : yCl zpD105 (zpZ, zpRS, zpP9, zpMT, [], (1, 40), 0) K Y) (hK : ∀ (g' : yM), (g' = yset (yset g 2 1 0) 2 3 (-1)) → K [] g') : Y 0 [(3, 2)] [] g := by
  refine yrun_ok (sp := fun pc => false) hY 7 0 _ [] g ?_
  show (K [] (yset (yset g 2 1 0) 2 3 (-1)))
  exact hK _ (by first | omega | exact fun _ => rfl | exact fun h => absurd h (by omega) | exact rfl | exact fun _ _ => rfl | exact fun h _ => absurd h (by omega) | exact fun _ h => absurd h (by omega))
theorem yM_RW {l : Launch} {Ts : List Cond} {cl : List vw_C} {RO : zRO} (H : zHyp Ts cl RO) : yMet l Ts cl zpZ RO zpMT yC_RW := ymet_of2 H.1 H.2.1 zpDj H.2.2.1 yRb H.p9 ymets_nil (zrc0 rfl) (plainFor_of_name zpy9) zpDk105 (fun as g K Y h hA hY => by
  obtain ⟨rfl, hK⟩ := h
  exact yv_RW hY  hK)
def yP_CR : yPT := fun as g K => as = [(3, 2)] ∧ (∀ (g' : yM), (g' = yset g 2 2 0) → K [] g')
def yC_CR : yC := (103, (1, 40), yP_CR)
set_option maxRecDepth 8000 in
theorem yv_CR {K : List yV → yM → Prop} {Y : yNx} {g : yM} (hY : yCl zpD103 (zpZ, zpRS, zpP9, zpMT, [], (1, 40), 0) K Y) (hK : ∀ (g' : yM), (g' = yset g 2 2 0) → K [] g') : Y 0 [(3, 2)] [] g := by
  refine yrun_ok (sp := fun pc => false) hY 4 0 _ [] g ?_
  show (K [] (yset g 2 2 0))
  exact hK _ (by first | omega | exact fun _ => rfl | exact fun h => absurd h (by omega) | exact rfl | exact fun _ _ => rfl | exact fun h _ => absurd h (by omega) | exact fun _ h => absurd h (by omega))
theorem yM_CR {l : Launch} {Ts : List Cond} {cl : List vw_C} {RO : zRO} (H : zHyp Ts cl RO) : yMet l Ts cl zpZ RO zpMT yC_CR := ymet_of2 H.1 H.2.1 zpDj H.2.2.1 yRb H.p9 ymets_nil (zrc0 rfl) (plainFor_of_name zpy9) zpDk103 (fun as g K Y h hA hY => by
  obtain ⟨rfl, hK⟩ := h
  exact yv_CR hY  hK)
def yP_RN : yPT := fun as g K => ∃ (d a b : Int), as = [(3, 2), (1, d), (1, a), (1, b)] ∧ (d = 1 ∨ d = 2 ∨ d = 3) ∧ (0 ≤ g 2 1 ∧ g 2 1 ≤ 60) ∧ (g 2 2 ≤ 60) ∧ (∀ (r : Int) (g' : yM), (g' = yset (yset g 2 1 (yRn (ySc g) (Int.toNat d) a b (g 2 1) (g 2 3)).1) 2 3 (yRn (ySc g) (Int.toNat d) a b (g 2 1) (g 2 3)).2.1) → ((yRn (ySc g) (Int.toNat d) a b (g 2 1) (g 2 3)).2.1 = -1 → r = (yRn (ySc g) (Int.toNat d) a b (g 2 1) (g 2 3)).2.2) → (0 ≤ r ∧ r ≤ 999) → K [(1, r)] g')
def yC_RN : yC := (104, (2, 60), yP_RN)
set_option maxRecDepth 8000 in
theorem yl_RN0 {K : List yV → yM → Prop} {Y : yNx} {g : yM} {p v d a b q i : Int} (hY : yCl zpD104 (zpZ, zpRS, zpP9, zpMT, [yC_SG, yC_ID, yC_SP], (2, 60), 1) K Y) (hp : 0 ≤ p ∧ p ≤ 60) (hn : g 2 2 ≤ 60) (hf : g 2 3 = -1) (hi : i + 0 = d ∧ 0 ≤ i ∧ d ≤ 3) (hv : 0 ≤ v ∧ v ≤ 999) (hK : ∀ i2 : Int, Y 59 [(3, 2), (1, d), (1, a), (1, b), (1, q), (1, (yNm (ySc g) 0 p v).2), (1, i2)] [] (yset g 2 1 (yNm (ySc g) 0 p v).1)) : Y 12 [(3, 2), (1, d), (1, a), (1, b), (1, q), (1, v), (1, i)] [] (yset g 2 1 p) := by
  refine yrun_ok (sp := fun pc => Nat.beq pc 12 || Nat.beq pc 59) hY 25 12 _ [] _ ?_
  show ((d ≤ i → (Y 59 [(3, 2), (1, d), (1, a), (1, b), (1, q), (1, v), (1, i)] [] (yset g 2 1 p))) ∧ (¬ (d ≤ i) → ([(3, 2)] = [(3, 2)] ∧ (0 ≤ (yset g 2 1 p) 2 1) ∧ ((yset g 2 1 p) 2 2 ≤ 60) ∧ (∀ (r2 : Int), ((yset g 2 1 p) 2 3 = -1 → r2 = ySc (yset g 2 1 p) ((yset g 2 1 p) 2 1)) → ((yset g 2 1 p) 2 3 ≠ -1 → r2 = -1) → (∃ (v4 : Int), [(1, r2)] = [(1, v4)] ∧ (∀ (r5 : Int), ((r5 = 1 ∧ 48 ≤ v4 ∧ v4 ≤ 57) ∨ (r5 = 0 ∧ (v4 < 48 ∨ 57 < v4))) → ((r5 = 0 → (Y 59 [(3, 2), (1, d), (1, a), (1, b), (1, q), (1, v), (1, i)] [] (yset g 2 1 p))) ∧ (¬ (r5 = 0) → ([(3, 2)] = [(3, 2)] ∧ (0 ≤ (yset g 2 1 p) 2 1) ∧ ((yset g 2 1 p) 2 2 ≤ 60) ∧ (∀ (r8 : Int), ((yset g 2 1 p) 2 3 = -1 → r8 = ySc (yset g 2 1 p) ((yset g 2 1 p) 2 1)) → ((yset g 2 1 p) 2 3 ≠ -1 → r8 = -1) → (Y 12 [(3, 2), (1, d), (1, a), (1, b), (1, q), (1, (yw ((yw ((yw (v * 10)) + r8)) - 48))), (1, (yw (i + 1)))] [] (yset (yset g 2 1 p) 2 1 (yw (((yset g 2 1 p) 2 1) + 1))))))))))))))
  refine ⟨fun h1 => ?_, fun h1 => ?_⟩
  · exact hK i
  · refine ⟨rfl, (by omega), (by omega), ?_⟩
    intro r2 p30 p31
    refine ⟨_, rfl, ?_⟩
    intro r5 p60
    refine ⟨fun h7 => ?_, fun h7 => ?_⟩
    · omega
    · refine ⟨rfl, (by omega), (by omega), ?_⟩
      intro r8 p90 p91
      omega
set_option maxRecDepth 8000 in
theorem yl_RN1 {K : List yV → yM → Prop} {Y : yNx} {g : yM} {p v d a b q i : Int} (hY : yCl zpD104 (zpZ, zpRS, zpP9, zpMT, [yC_SG, yC_ID, yC_SP], (2, 60), 1) K Y) (hp : 0 ≤ p ∧ p ≤ 60) (hn : g 2 2 ≤ 60) (hf : g 2 3 = -1) (hi : i + 1 = d ∧ 0 ≤ i ∧ d ≤ 3) (hv : 0 ≤ v ∧ v ≤ 99) (hK : ∀ i2 : Int, Y 59 [(3, 2), (1, d), (1, a), (1, b), (1, q), (1, (yNm (ySc g) 1 p v).2), (1, i2)] [] (yset g 2 1 (yNm (ySc g) 1 p v).1)) : Y 12 [(3, 2), (1, d), (1, a), (1, b), (1, q), (1, v), (1, i)] [] (yset g 2 1 p) := by
  refine yrun_ok (sp := fun pc => Nat.beq pc 12 || Nat.beq pc 59) hY 25 12 _ [] _ ?_
  show ((d ≤ i → (Y 59 [(3, 2), (1, d), (1, a), (1, b), (1, q), (1, v), (1, i)] [] (yset g 2 1 p))) ∧ (¬ (d ≤ i) → ([(3, 2)] = [(3, 2)] ∧ (0 ≤ (yset g 2 1 p) 2 1) ∧ ((yset g 2 1 p) 2 2 ≤ 60) ∧ (∀ (r2 : Int), ((yset g 2 1 p) 2 3 = -1 → r2 = ySc (yset g 2 1 p) ((yset g 2 1 p) 2 1)) → ((yset g 2 1 p) 2 3 ≠ -1 → r2 = -1) → (∃ (v4 : Int), [(1, r2)] = [(1, v4)] ∧ (∀ (r5 : Int), ((r5 = 1 ∧ 48 ≤ v4 ∧ v4 ≤ 57) ∨ (r5 = 0 ∧ (v4 < 48 ∨ 57 < v4))) → ((r5 = 0 → (Y 59 [(3, 2), (1, d), (1, a), (1, b), (1, q), (1, v), (1, i)] [] (yset g 2 1 p))) ∧ (¬ (r5 = 0) → ([(3, 2)] = [(3, 2)] ∧ (0 ≤ (yset g 2 1 p) 2 1) ∧ ((yset g 2 1 p) 2 2 ≤ 60) ∧ (∀ (r8 : Int), ((yset g 2 1 p) 2 3 = -1 → r8 = ySc (yset g 2 1 p) ((yset g 2 1 p) 2 1)) → ((yset g 2 1 p) 2 3 ≠ -1 → r8 = -1) → (Y 12 [(3, 2), (1, d), (1, a), (1, b), (1, q), (1, (yw ((yw ((yw (v * 10)) + r8)) - 48))), (1, (yw (i + 1)))] [] (yset (yset g 2 1 p) 2 1 (yw (((yset g 2 1 p) 2 1) + 1))))))))))))))
  refine ⟨fun h1 => ?_, fun h1 => ?_⟩
  · omega
  · refine ⟨rfl, (by have e0 : (yset g 2 1 p) 2 3 = -1 := (by rw [yset_ne (by decide)]; exact hf); have e1 : (yset g 2 1 p) 2 1 = p := yset_eq; have e2 : (yset g 2 1 p) 2 2 = g 2 2 := yset_ne (by decide); omega), (by have e0 : (yset g 2 1 p) 2 3 = -1 := (by rw [yset_ne (by decide)]; exact hf); have e1 : (yset g 2 1 p) 2 1 = p := yset_eq; have e2 : (yset g 2 1 p) 2 2 = g 2 2 := yset_ne (by decide); omega), ?_⟩
    intro r2 p30 p31
    refine ⟨_, rfl, ?_⟩
    intro r5 p60
    refine ⟨fun h7 => ?_, fun h7 => ?_⟩
    · have e0 : (yset g 2 1 p) 2 3 = -1 := (by rw [yset_ne (by decide)]; exact hf)
      have e1 : (yset g 2 1 p) 2 1 = p := yset_eq
      have e2 : (yset g 2 1 p) 2 2 = g 2 2 := yset_ne (by decide)
      have e3 := p30 e0
      rw [e1, ySc_pl] at e3
      have e4 := hK i
      unfold yNm at e4
      rw [if_neg (by omega)] at e4
      exact e4
    · refine ⟨rfl, (by have e0 : (yset g 2 1 p) 2 3 = -1 := (by rw [yset_ne (by decide)]; exact hf); have e1 : (yset g 2 1 p) 2 1 = p := yset_eq; have e2 : (yset g 2 1 p) 2 2 = g 2 2 := yset_ne (by decide); omega), (by have e0 : (yset g 2 1 p) 2 3 = -1 := (by rw [yset_ne (by decide)]; exact hf); have e1 : (yset g 2 1 p) 2 1 = p := yset_eq; have e2 : (yset g 2 1 p) 2 2 = g 2 2 := yset_ne (by decide); omega), ?_⟩
      intro r8 p90 p91
      have e0 : (yset g 2 1 p) 2 3 = -1 := (by rw [yset_ne (by decide)]; exact hf)
      have e1 : (yset g 2 1 p) 2 1 = p := yset_eq
      have e2 : (yset g 2 1 p) 2 2 = g 2 2 := yset_ne (by decide)
      have e3 := p30 e0
      rw [e1, ySc_pl] at e3
      have e5 := p90 e0
      rw [e1, ySc_pl] at e5
      have e6 : 48 ≤ ySc g p ∧ ySc g p ≤ 57 := by omega
      have e7 : p < 60 := by
        by_cases h : p < g 2 2
        · omega
        · have : ySc g p = -1 := by unfold ySc; rw [if_neg h]
          omega
      have := yw_s ((yw ((yw (v * 10)) + r8)) - 48)
      have := yw_s ((yw (v * 10)) + r8)
      have := yw_s (v * 10)
      have := yw_s (i + 1)
      have := yw_s (((yset g 2 1 p) 2 1) + 1)
      have e8 := hK
      unfold yNm at e8
      rw [if_pos e6] at e8
      have e9 := yl_RN0 (p := p + 1) (v := v * 10 + ySc g p - 48) (i := i + 1) hY ⟨by omega, by omega⟩ hn hf ⟨by omega, by omega, by omega⟩ ⟨by omega, by omega⟩ e8
      have f1 : (yw ((yw ((yw (v * 10)) + r8)) - 48)) = v * 10 + ySc g p - 48 := by have := yw_s (v * 10); have := yw_s (((yw (v * 10)) + r8)); have := yw_s (((yw ((yw (v * 10)) + r8)) - 48)); omega
      have f2 : (yw (i + 1)) = i + 1 := by have := yw_s (i + 1); omega
      have f3 : (yset (yset g 2 1 p) 2 1 (yw (((yset g 2 1 p) 2 1) + 1))) = yset g 2 1 (p + 1) := by
        rw [yset_yset]
        congr 1
        have := yw_s (p + 1)
        rw [e1]
        omega
      rw [f1, f2, f3]
      exact e9
set_option maxRecDepth 8000 in
theorem yl_RN2 {K : List yV → yM → Prop} {Y : yNx} {g : yM} {p v d a b q i : Int} (hY : yCl zpD104 (zpZ, zpRS, zpP9, zpMT, [yC_SG, yC_ID, yC_SP], (2, 60), 1) K Y) (hp : 0 ≤ p ∧ p ≤ 60) (hn : g 2 2 ≤ 60) (hf : g 2 3 = -1) (hi : i + 2 = d ∧ 0 ≤ i ∧ d ≤ 3) (hv : 0 ≤ v ∧ v ≤ 9) (hK : ∀ i2 : Int, Y 59 [(3, 2), (1, d), (1, a), (1, b), (1, q), (1, (yNm (ySc g) 2 p v).2), (1, i2)] [] (yset g 2 1 (yNm (ySc g) 2 p v).1)) : Y 12 [(3, 2), (1, d), (1, a), (1, b), (1, q), (1, v), (1, i)] [] (yset g 2 1 p) := by
  refine yrun_ok (sp := fun pc => Nat.beq pc 12 || Nat.beq pc 59) hY 25 12 _ [] _ ?_
  show ((d ≤ i → (Y 59 [(3, 2), (1, d), (1, a), (1, b), (1, q), (1, v), (1, i)] [] (yset g 2 1 p))) ∧ (¬ (d ≤ i) → ([(3, 2)] = [(3, 2)] ∧ (0 ≤ (yset g 2 1 p) 2 1) ∧ ((yset g 2 1 p) 2 2 ≤ 60) ∧ (∀ (r2 : Int), ((yset g 2 1 p) 2 3 = -1 → r2 = ySc (yset g 2 1 p) ((yset g 2 1 p) 2 1)) → ((yset g 2 1 p) 2 3 ≠ -1 → r2 = -1) → (∃ (v4 : Int), [(1, r2)] = [(1, v4)] ∧ (∀ (r5 : Int), ((r5 = 1 ∧ 48 ≤ v4 ∧ v4 ≤ 57) ∨ (r5 = 0 ∧ (v4 < 48 ∨ 57 < v4))) → ((r5 = 0 → (Y 59 [(3, 2), (1, d), (1, a), (1, b), (1, q), (1, v), (1, i)] [] (yset g 2 1 p))) ∧ (¬ (r5 = 0) → ([(3, 2)] = [(3, 2)] ∧ (0 ≤ (yset g 2 1 p) 2 1) ∧ ((yset g 2 1 p) 2 2 ≤ 60) ∧ (∀ (r8 : Int), ((yset g 2 1 p) 2 3 = -1 → r8 = ySc (yset g 2 1 p) ((yset g 2 1 p) 2 1)) → ((yset g 2 1 p) 2 3 ≠ -1 → r8 = -1) → (Y 12 [(3, 2), (1, d), (1, a), (1, b), (1, q), (1, (yw ((yw ((yw (v * 10)) + r8)) - 48))), (1, (yw (i + 1)))] [] (yset (yset g 2 1 p) 2 1 (yw (((yset g 2 1 p) 2 1) + 1))))))))))))))
  refine ⟨fun h1 => ?_, fun h1 => ?_⟩
  · omega
  · refine ⟨rfl, (by have e0 : (yset g 2 1 p) 2 3 = -1 := (by rw [yset_ne (by decide)]; exact hf); have e1 : (yset g 2 1 p) 2 1 = p := yset_eq; have e2 : (yset g 2 1 p) 2 2 = g 2 2 := yset_ne (by decide); omega), (by have e0 : (yset g 2 1 p) 2 3 = -1 := (by rw [yset_ne (by decide)]; exact hf); have e1 : (yset g 2 1 p) 2 1 = p := yset_eq; have e2 : (yset g 2 1 p) 2 2 = g 2 2 := yset_ne (by decide); omega), ?_⟩
    intro r2 p30 p31
    refine ⟨_, rfl, ?_⟩
    intro r5 p60
    refine ⟨fun h7 => ?_, fun h7 => ?_⟩
    · have e0 : (yset g 2 1 p) 2 3 = -1 := (by rw [yset_ne (by decide)]; exact hf)
      have e1 : (yset g 2 1 p) 2 1 = p := yset_eq
      have e2 : (yset g 2 1 p) 2 2 = g 2 2 := yset_ne (by decide)
      have e3 := p30 e0
      rw [e1, ySc_pl] at e3
      have e4 := hK i
      unfold yNm at e4
      rw [if_neg (by omega)] at e4
      exact e4
    · refine ⟨rfl, (by have e0 : (yset g 2 1 p) 2 3 = -1 := (by rw [yset_ne (by decide)]; exact hf); have e1 : (yset g 2 1 p) 2 1 = p := yset_eq; have e2 : (yset g 2 1 p) 2 2 = g 2 2 := yset_ne (by decide); omega), (by have e0 : (yset g 2 1 p) 2 3 = -1 := (by rw [yset_ne (by decide)]; exact hf); have e1 : (yset g 2 1 p) 2 1 = p := yset_eq; have e2 : (yset g 2 1 p) 2 2 = g 2 2 := yset_ne (by decide); omega), ?_⟩
      intro r8 p90 p91
      have e0 : (yset g 2 1 p) 2 3 = -1 := (by rw [yset_ne (by decide)]; exact hf)
      have e1 : (yset g 2 1 p) 2 1 = p := yset_eq
      have e2 : (yset g 2 1 p) 2 2 = g 2 2 := yset_ne (by decide)
      have e3 := p30 e0
      rw [e1, ySc_pl] at e3
      have e5 := p90 e0
      rw [e1, ySc_pl] at e5
      have e6 : 48 ≤ ySc g p ∧ ySc g p ≤ 57 := by omega
      have e7 : p < 60 := by
        by_cases h : p < g 2 2
        · omega
        · have : ySc g p = -1 := by unfold ySc; rw [if_neg h]
          omega
      have := yw_s ((yw ((yw (v * 10)) + r8)) - 48)
      have := yw_s ((yw (v * 10)) + r8)
      have := yw_s (v * 10)
      have := yw_s (i + 1)
      have := yw_s (((yset g 2 1 p) 2 1) + 1)
      have e8 := hK
      unfold yNm at e8
      rw [if_pos e6] at e8
      have e9 := yl_RN1 (p := p + 1) (v := v * 10 + ySc g p - 48) (i := i + 1) hY ⟨by omega, by omega⟩ hn hf ⟨by omega, by omega, by omega⟩ ⟨by omega, by omega⟩ e8
      have f1 : (yw ((yw ((yw (v * 10)) + r8)) - 48)) = v * 10 + ySc g p - 48 := by have := yw_s (v * 10); have := yw_s (((yw (v * 10)) + r8)); have := yw_s (((yw ((yw (v * 10)) + r8)) - 48)); omega
      have f2 : (yw (i + 1)) = i + 1 := by have := yw_s (i + 1); omega
      have f3 : (yset (yset g 2 1 p) 2 1 (yw (((yset g 2 1 p) 2 1) + 1))) = yset g 2 1 (p + 1) := by
        rw [yset_yset]
        congr 1
        have := yw_s (p + 1)
        rw [e1]
        omega
      rw [f1, f2, f3]
      exact e9
set_option maxRecDepth 8000 in
theorem yl_RN3 {K : List yV → yM → Prop} {Y : yNx} {g : yM} {p v d a b q i : Int} (hY : yCl zpD104 (zpZ, zpRS, zpP9, zpMT, [yC_SG, yC_ID, yC_SP], (2, 60), 1) K Y) (hp : 0 ≤ p ∧ p ≤ 60) (hn : g 2 2 ≤ 60) (hf : g 2 3 = -1) (hi : i + 3 = d ∧ 0 ≤ i ∧ d ≤ 3) (hv : 0 ≤ v ∧ v ≤ 0) (hK : ∀ i2 : Int, Y 59 [(3, 2), (1, d), (1, a), (1, b), (1, q), (1, (yNm (ySc g) 3 p v).2), (1, i2)] [] (yset g 2 1 (yNm (ySc g) 3 p v).1)) : Y 12 [(3, 2), (1, d), (1, a), (1, b), (1, q), (1, v), (1, i)] [] (yset g 2 1 p) := by
  refine yrun_ok (sp := fun pc => Nat.beq pc 12 || Nat.beq pc 59) hY 25 12 _ [] _ ?_
  show ((d ≤ i → (Y 59 [(3, 2), (1, d), (1, a), (1, b), (1, q), (1, v), (1, i)] [] (yset g 2 1 p))) ∧ (¬ (d ≤ i) → ([(3, 2)] = [(3, 2)] ∧ (0 ≤ (yset g 2 1 p) 2 1) ∧ ((yset g 2 1 p) 2 2 ≤ 60) ∧ (∀ (r2 : Int), ((yset g 2 1 p) 2 3 = -1 → r2 = ySc (yset g 2 1 p) ((yset g 2 1 p) 2 1)) → ((yset g 2 1 p) 2 3 ≠ -1 → r2 = -1) → (∃ (v4 : Int), [(1, r2)] = [(1, v4)] ∧ (∀ (r5 : Int), ((r5 = 1 ∧ 48 ≤ v4 ∧ v4 ≤ 57) ∨ (r5 = 0 ∧ (v4 < 48 ∨ 57 < v4))) → ((r5 = 0 → (Y 59 [(3, 2), (1, d), (1, a), (1, b), (1, q), (1, v), (1, i)] [] (yset g 2 1 p))) ∧ (¬ (r5 = 0) → ([(3, 2)] = [(3, 2)] ∧ (0 ≤ (yset g 2 1 p) 2 1) ∧ ((yset g 2 1 p) 2 2 ≤ 60) ∧ (∀ (r8 : Int), ((yset g 2 1 p) 2 3 = -1 → r8 = ySc (yset g 2 1 p) ((yset g 2 1 p) 2 1)) → ((yset g 2 1 p) 2 3 ≠ -1 → r8 = -1) → (Y 12 [(3, 2), (1, d), (1, a), (1, b), (1, q), (1, (yw ((yw ((yw (v * 10)) + r8)) - 48))), (1, (yw (i + 1)))] [] (yset (yset g 2 1 p) 2 1 (yw (((yset g 2 1 p) 2 1) + 1))))))))))))))
  refine ⟨fun h1 => ?_, fun h1 => ?_⟩
  · omega
  · refine ⟨rfl, (by have e0 : (yset g 2 1 p) 2 3 = -1 := (by rw [yset_ne (by decide)]; exact hf); have e1 : (yset g 2 1 p) 2 1 = p := yset_eq; have e2 : (yset g 2 1 p) 2 2 = g 2 2 := yset_ne (by decide); omega), (by have e0 : (yset g 2 1 p) 2 3 = -1 := (by rw [yset_ne (by decide)]; exact hf); have e1 : (yset g 2 1 p) 2 1 = p := yset_eq; have e2 : (yset g 2 1 p) 2 2 = g 2 2 := yset_ne (by decide); omega), ?_⟩
    intro r2 p30 p31
    refine ⟨_, rfl, ?_⟩
    intro r5 p60
    refine ⟨fun h7 => ?_, fun h7 => ?_⟩
    · have e0 : (yset g 2 1 p) 2 3 = -1 := (by rw [yset_ne (by decide)]; exact hf)
      have e1 : (yset g 2 1 p) 2 1 = p := yset_eq
      have e2 : (yset g 2 1 p) 2 2 = g 2 2 := yset_ne (by decide)
      have e3 := p30 e0
      rw [e1, ySc_pl] at e3
      have e4 := hK i
      unfold yNm at e4
      rw [if_neg (by omega)] at e4
      exact e4
    · refine ⟨rfl, (by have e0 : (yset g 2 1 p) 2 3 = -1 := (by rw [yset_ne (by decide)]; exact hf); have e1 : (yset g 2 1 p) 2 1 = p := yset_eq; have e2 : (yset g 2 1 p) 2 2 = g 2 2 := yset_ne (by decide); omega), (by have e0 : (yset g 2 1 p) 2 3 = -1 := (by rw [yset_ne (by decide)]; exact hf); have e1 : (yset g 2 1 p) 2 1 = p := yset_eq; have e2 : (yset g 2 1 p) 2 2 = g 2 2 := yset_ne (by decide); omega), ?_⟩
      intro r8 p90 p91
      have e0 : (yset g 2 1 p) 2 3 = -1 := (by rw [yset_ne (by decide)]; exact hf)
      have e1 : (yset g 2 1 p) 2 1 = p := yset_eq
      have e2 : (yset g 2 1 p) 2 2 = g 2 2 := yset_ne (by decide)
      have e3 := p30 e0
      rw [e1, ySc_pl] at e3
      have e5 := p90 e0
      rw [e1, ySc_pl] at e5
      have e6 : 48 ≤ ySc g p ∧ ySc g p ≤ 57 := by omega
      have e7 : p < 60 := by
        by_cases h : p < g 2 2
        · omega
        · have : ySc g p = -1 := by unfold ySc; rw [if_neg h]
          omega
      have := yw_s ((yw ((yw (v * 10)) + r8)) - 48)
      have := yw_s ((yw (v * 10)) + r8)
      have := yw_s (v * 10)
      have := yw_s (i + 1)
      have := yw_s (((yset g 2 1 p) 2 1) + 1)
      have e8 := hK
      unfold yNm at e8
      rw [if_pos e6] at e8
      have e9 := yl_RN2 (p := p + 1) (v := v * 10 + ySc g p - 48) (i := i + 1) hY ⟨by omega, by omega⟩ hn hf ⟨by omega, by omega, by omega⟩ ⟨by omega, by omega⟩ e8
      have f1 : (yw ((yw ((yw (v * 10)) + r8)) - 48)) = v * 10 + ySc g p - 48 := by have := yw_s (v * 10); have := yw_s (((yw (v * 10)) + r8)); have := yw_s (((yw ((yw (v * 10)) + r8)) - 48)); omega
      have f2 : (yw (i + 1)) = i + 1 := by have := yw_s (i + 1); omega
      have f3 : (yset (yset g 2 1 p) 2 1 (yw (((yset g 2 1 p) 2 1) + 1))) = yset g 2 1 (p + 1) := by
        rw [yset_yset]
        congr 1
        have := yw_s (p + 1)
        rw [e1]
        omega
      rw [f1, f2, f3]
      exact e9
set_option maxRecDepth 8000 in
theorem yl_RNf {K : List yV → yM → Prop} {Y : yNx} {g : yM} {d a b q : Int} (hY : yCl zpD104 (zpZ, zpRS, zpP9, zpMT, [yC_SG, yC_ID, yC_SP], (2, 60), 1) K Y) (hp : 0 ≤ g 2 1) (hn : g 2 2 ≤ 60) (hf : g 2 3 ≠ -1) (hd : 1 ≤ d) (hK : Y 59 [(3, 2), (1, d), (1, a), (1, b), (1, q), (1, 0), (1, 0)] [] g) : Y 12 [(3, 2), (1, d), (1, a), (1, b), (1, q), (1, 0), (1, 0)] [] g := by
  refine yrun_ok (sp := fun pc => Nat.beq pc 12 || Nat.beq pc 59) hY 25 12 _ [] _ ?_
  show ((d ≤ (0 : Int) → (Y 59 [(3, 2), (1, d), (1, a), (1, b), (1, q), (1, 0), (1, 0)] [] g)) ∧ (¬ (d ≤ (0 : Int)) → ([(3, 2)] = [(3, 2)] ∧ (0 ≤ g 2 1) ∧ (g 2 2 ≤ 60) ∧ (∀ (r2 : Int), (g 2 3 = -1 → r2 = ySc g (g 2 1)) → (g 2 3 ≠ -1 → r2 = -1) → (∃ (v4 : Int), [(1, r2)] = [(1, v4)] ∧ (∀ (r5 : Int), ((r5 = 1 ∧ 48 ≤ v4 ∧ v4 ≤ 57) ∨ (r5 = 0 ∧ (v4 < 48 ∨ 57 < v4))) → ((r5 = 0 → (Y 59 [(3, 2), (1, d), (1, a), (1, b), (1, q), (1, 0), (1, 0)] [] g)) ∧ (¬ (r5 = 0) → ([(3, 2)] = [(3, 2)] ∧ (0 ≤ g 2 1) ∧ (g 2 2 ≤ 60) ∧ (∀ (r8 : Int), (g 2 3 = -1 → r8 = ySc g (g 2 1)) → (g 2 3 ≠ -1 → r8 = -1) → (Y 12 [(3, 2), (1, d), (1, a), (1, b), (1, q), (1, (yw ((yw ((yw (0 * 10)) + r8)) - 48))), (1, (yw (0 + 1)))] [] (yset g 2 1 (yw ((g 2 1) + 1))))))))))))))
  refine ⟨fun h1 => ?_, fun h1 => ?_⟩
  · omega
  · refine ⟨rfl, (by omega), (by omega), ?_⟩
    intro r2 p30 p31
    refine ⟨_, rfl, ?_⟩
    intro r5 p60
    refine ⟨fun h7 => ?_, fun h7 => ?_⟩
    · exact hK
    · refine ⟨rfl, (by omega), (by omega), ?_⟩
      intro r8 p90 p91
      have := p31 hf
      omega
set_option maxRecDepth 8000 in
theorem yt_RN {K : List yV → yM → Prop} {Y : yNx} {m : yM} {d a b q v i : Int} (hY : yCl zpD104 (zpZ, zpRS, zpP9, zpMT, [yC_SG, yC_ID, yC_SP], (2, 60), 1) K Y) (hq : 0 ≤ q ∧ q ≤ 60) (u1 : m 2 1 ≠ q → a ≤ v → v ≤ b → K [(1, v)] m) (u2 : (m 2 1 = q ∨ v < a ∨ b < v) → ∀ g' : yM, (m 2 3 = -1 → g' = yset (yset m 2 1 q) 2 3 q) → (m 2 3 ≠ -1 → g' = yset m 2 1 q) → K [(1, v)] g') : Y 59 [(3, 2), (1, d), (1, a), (1, b), (1, q), (1, v), (1, i)] [] m := by
  refine yrun_ok (sp := fun pc => Nat.beq pc 12) hY 17 59 _ [] _ ?_
  show (((m 2 1) = q → ([(3, 2)] = [(3, 2)] ∧ (0 ≤ (yset m 2 1 q) 2 1 ∧ (yset m 2 1 q) 2 1 ≤ 60) ∧ (∀ (g2 : yM), ((yset m 2 1 q) 2 3 = -1 → g2 = yset (yset m 2 1 q) 2 3 ((yset m 2 1 q) 2 1)) → ((yset m 2 1 q) 2 3 ≠ -1 → g2 = (yset m 2 1 q)) → (K [(1, v)] g2)))) ∧ (¬ ((m 2 1) = q) → ((v < a → ([(3, 2)] = [(3, 2)] ∧ (0 ≤ (yset m 2 1 q) 2 1 ∧ (yset m 2 1 q) 2 1 ≤ 60) ∧ (∀ (g5 : yM), ((yset m 2 1 q) 2 3 = -1 → g5 = yset (yset m 2 1 q) 2 3 ((yset m 2 1 q) 2 1)) → ((yset m 2 1 q) 2 3 ≠ -1 → g5 = (yset m 2 1 q)) → (K [(1, v)] g5)))) ∧ (¬ (v < a) → ((v ≤ b → (K [(1, v)] m)) ∧ (¬ (v ≤ b) → ([(3, 2)] = [(3, 2)] ∧ (0 ≤ (yset m 2 1 q) 2 1 ∧ (yset m 2 1 q) 2 1 ≤ 60) ∧ (∀ (g8 : yM), ((yset m 2 1 q) 2 3 = -1 → g8 = yset (yset m 2 1 q) 2 3 ((yset m 2 1 q) 2 1)) → ((yset m 2 1 q) 2 3 ≠ -1 → g8 = (yset m 2 1 q)) → (K [(1, v)] g8)))))))))
  refine ⟨fun h1 => ?_, fun h1 => ?_⟩
  · refine ⟨rfl, (by have e1 : (yset m 2 1 q) 2 1 = q := yset_eq; have e2 : (yset m 2 1 q) 2 3 = m 2 3 := yset_ne (by decide); omega), ?_⟩
    intro g2 p30 p31
    have e1 : (yset m 2 1 q) 2 1 = q := yset_eq
    have e2 : (yset m 2 1 q) 2 3 = m 2 3 := yset_ne (by decide)
    rw [e1, e2] at p30
    rw [e2] at p31
    exact u2 (by omega) _ p30 p31
  · refine ⟨fun h4 => ?_, fun h4 => ?_⟩
    · refine ⟨rfl, (by have e1 : (yset m 2 1 q) 2 1 = q := yset_eq; have e2 : (yset m 2 1 q) 2 3 = m 2 3 := yset_ne (by decide); omega), ?_⟩
      intro g5 p60 p61
      have e1 : (yset m 2 1 q) 2 1 = q := yset_eq
      have e2 : (yset m 2 1 q) 2 3 = m 2 3 := yset_ne (by decide)
      rw [e1, e2] at p60
      rw [e2] at p61
      exact u2 (by omega) _ p60 p61
    · refine ⟨fun h7 => ?_, fun h7 => ?_⟩
      · exact u1 (by omega) (by omega) (by omega)
      · refine ⟨rfl, (by have e1 : (yset m 2 1 q) 2 1 = q := yset_eq; have e2 : (yset m 2 1 q) 2 3 = m 2 3 := yset_ne (by decide); omega), ?_⟩
        intro g8 p90 p91
        have e1 : (yset m 2 1 q) 2 1 = q := yset_eq
        have e2 : (yset m 2 1 q) 2 3 = m 2 3 := yset_ne (by decide)
        rw [e1, e2] at p90
        rw [e2] at p91
        exact u2 (by omega) _ p90 p91
set_option maxRecDepth 8000 in
theorem yv_RN {K : List yV → yM → Prop} {Y : yNx} {g : yM} {d a b : Int} (hY : yCl zpD104 (zpZ, zpRS, zpP9, zpMT, [yC_SG, yC_ID, yC_SP], (2, 60), 1) K Y) (hr_d : -2147483648 ≤ d ∧ d ≤ 2147483647) (hr_a : -2147483648 ≤ a ∧ a ≤ 2147483647) (hr_b : -2147483648 ≤ b ∧ b ≤ 2147483647) (hp0 : d = 1 ∨ d = 2 ∨ d = 3) (hp1 : 0 ≤ g 2 1 ∧ g 2 1 ≤ 60) (hp2 : g 2 2 ≤ 60) (hK : ∀ (r : Int) (g' : yM), (g' = yset (yset g 2 1 (yRn (ySc g) (Int.toNat d) a b (g 2 1) (g 2 3)).1) 2 3 (yRn (ySc g) (Int.toNat d) a b (g 2 1) (g 2 3)).2.1) → ((yRn (ySc g) (Int.toNat d) a b (g 2 1) (g 2 3)).2.1 = -1 → r = (yRn (ySc g) (Int.toNat d) a b (g 2 1) (g 2 3)).2.2) → (0 ≤ r ∧ r ≤ 999) → K [(1, r)] g') : Y 0 [(3, 2), (1, d), (1, a), (1, b), (0, 0), (0, 0), (0, 0)] [] g := by
  refine yrun_ok (sp := fun pc => Nat.beq pc 12) hY 8 0 _ [] g ?_
  show (Y 12 [(3, 2), (1, d), (1, a), (1, b), (1, (g 2 1)), (1, 0), (1, 0)] [] g)
  by_cases hf : g 2 3 = -1
  · have key : ∀ i2 : Int, Y 59 [(3, 2), (1, d), (1, a), (1, b), (1, g 2 1), (1, (yNm (ySc g) (Int.toNat d) (g 2 1) 0).2), (1, i2)] [] (yset g 2 1 (yNm (ySc g) (Int.toNat d) (g 2 1) 0).1) := fun i2 => by
      refine yt_RN hY hp1 (fun h3 h4 h5 => ?_) (fun h3 g' h4 h5 => ?_)
      · rw [yset_eq] at h3
        have e : yRn (ySc g) (Int.toNat d) a b (g 2 1) (g 2 3) = ((yNm (ySc g) (Int.toNat d) (g 2 1) 0).1, -1, (yNm (ySc g) (Int.toNat d) (g 2 1) 0).2) := by
          unfold yRn
          rw [if_pos hf, if_neg (by omega)]
        refine hK _ _ ?_ ?_ ?_
        · rw [e]
          exact (by rw [← hf]; exact (yset_ot g _ _ (by decide)).symm)
        · rw [e]
          exact fun _ => rfl
        · have h9 := yNm_v (S := ySc g) (Int.toNat d) (g 2 1) 0 (by decide)
          have h8 : yNB (Int.toNat d) 0 ≤ 999 := by rcases hp0 with rfl | rfl | rfl <;> decide
          exact ⟨h9.1, by omega⟩
      · rw [yset_eq] at h3
        have e : yRn (ySc g) (Int.toNat d) a b (g 2 1) (g 2 3) = (g 2 1, g 2 1, 0) := by
          unfold yRn
          rw [if_pos hf, if_pos h3]
        have e2 := h4 (by rw [yset_ne (by decide)]; exact hf)
        rw [yset_yset] at e2
        refine hK _ _ ?_ ?_ ?_
        · rw [e]
          exact e2
        · rw [e]
          exact fun h => absurd h (by show g 2 1 ≠ -1; omega)
        · have h9 := yNm_v (S := ySc g) (Int.toNat d) (g 2 1) 0 (by decide)
          have h8 : yNB (Int.toNat d) 0 ≤ 999 := by rcases hp0 with rfl | rfl | rfl <;> decide
          exact ⟨h9.1, by omega⟩
    have e0 : yset g 2 1 (g 2 1) = g := yset_id g 2 1
    rcases hp0 with rfl | rfl | rfl
    · have e := yl_RN1 (p := g 2 1) (v := 0) (i := 0) hY hp1 hp2 hf ⟨by omega, by omega, by omega⟩ ⟨by omega, by omega⟩ key
      rw [e0] at e
      exact e
    · have e := yl_RN2 (p := g 2 1) (v := 0) (i := 0) hY hp1 hp2 hf ⟨by omega, by omega, by omega⟩ ⟨by omega, by omega⟩ key
      rw [e0] at e
      exact e
    · have e := yl_RN3 (p := g 2 1) (v := 0) (i := 0) hY hp1 hp2 hf ⟨by omega, by omega, by omega⟩ ⟨by omega, by omega⟩ key
      rw [e0] at e
      exact e
  · refine yl_RNf hY hp1.1 hp2 hf (by omega) ?_
    have e : yRn (ySc g) (Int.toNat d) a b (g 2 1) (g 2 3) = (g 2 1, g 2 3, 0) := by
      unfold yRn
      rw [if_neg hf]
    refine yt_RN hY hp1 (fun h3 _ _ => absurd rfl h3) (fun _ g' _ h5 => ?_)
    have e2 := h5 hf
    rw [yset_id] at e2
    refine hK _ _ ?_ ?_ ⟨by decide, by decide⟩
    · rw [e, e2]
      exact (by rw [yset_id]; exact (yset_id g 2 3).symm)
    · rw [e]
      exact fun h => absurd h hf
theorem yM_RN {l : Launch} {Ts : List Cond} {cl : List vw_C} {RO : zRO} (H : zHyp Ts cl RO) : yMet l Ts cl zpZ RO zpMT yC_RN := ymet_of2 H.1 H.2.1 zpDj H.2.2.1 yRb H.p9 (ymets_cons (yM_SG H) (ymets_cons (yM_ID H) (ymets_cons (yM_SP H) ymets_nil))) (zrc1 rfl) (plainFor_of_name zpy9) zpDk104 (fun as g K Y h hA hY => by
  obtain ⟨d, a, b, rfl, hp0, hp1, hp2, hK⟩ := h
  exact yv_RN hY (yAr1 hA (by simp)) (yAr1 hA (by simp)) (yAr1 hA (by simp)) hp0 hp1 hp2 hK)
/-- the reference's sign at a place -/
def ySm (g : yM) (p : Int) : Int := if p < g 90 18 then g 98 (Int.toNat p) else 0
theorem ySm_at (g : yM) (v : Int) : ySm (yset g 90 17 v) = ySm g := by
  funext p
  unfold ySm
  rw [yset_ne (by decide), yset_ne (by omega)]
theorem yset_om (g : yM) (v : Int) (j : Nat) (h : j ≠ 19) : yset (yset g 90 j v) 90 19 (g 90 19) = yset g 90 j v := by
  funext a b
  unfold yset
  split
  · rename_i e
    rw [if_neg (by omega), e.1, e.2]
  · rfl
def yP_BA : yPT := fun as g K => as = [(3, 90)] ∧ (0 ≤ g 90 17) ∧ (g 90 18 ≤ 60) ∧ (g 90 16 < 0) ∧ (∀ (r : Int), (r = ySm g (g 90 17)) → K [(1, r)] g)
def yC_BA : yC := (142, (1, 40), yP_BA)
set_option maxRecDepth 8000 in
theorem yv_BA {K : List yV → yM → Prop} {Y : yNx} {g : yM} (hY : yCl zpD142 (zpZ, zpRS, zpP12, zpMT, [], (1, 40), 1) K Y) (hp0 : 0 ≤ g 90 17) (hp1 : g 90 18 ≤ 60) (hp2 : g 90 16 < 0) (hK : ∀ (r : Int), (r = ySm g (g 90 17)) → K [(1, r)] g) : Y 0 [(3, 90)] [] g := by
  refine yrun_ok (sp := fun pc => false) hY 18 0 _ [] g ?_
  show (((g 90 18) ≤ (g 90 17) → (K [(1, 0)] g)) ∧ (¬ ((g 90 18) ≤ (g 90 17)) → ((0 ≤ (g 90 16) → (((0 : Int) ≤ (yw ((g 90 16) + (g 90 17))) ∧ (yw ((g 90 16) + (g 90 17))) < ((60 : Nat) : Int)) ∧ (K [(1, (g 99 (Int.toNat (yw ((g 90 16) + (g 90 17))))))] g))) ∧ (¬ (0 ≤ (g 90 16)) → (((0 : Int) ≤ (g 90 17) ∧ (g 90 17) < ((60 : Nat) : Int)) ∧ (K [(1, (g 98 (Int.toNat (g 90 17))))] g))))))
  refine ⟨fun h1 => ?_, fun h1 => ?_⟩
  · exact hK _ (by unfold ySm; rw [if_neg (by omega)])
  · refine ⟨fun h2 => ?_, fun h2 => ?_⟩
    · refine ⟨(by have := yw_s ((g 90 16) + (g 90 17)); omega), ?_⟩
      omega
    · refine ⟨(by omega), ?_⟩
      exact hK _ (by unfold ySm; first | rw [if_pos (by omega)] | rw [if_neg (by omega)])
theorem yM_BA {l : Launch} {Ts : List Cond} {cl : List vw_C} {RO : zRO} (H : zHyp Ts cl RO) : yMet l Ts cl zpZ RO zpMT yC_BA := ymet_of2 H.1 H.2.1 zpDj H.2.2.1 yRb H.p12 ymets_nil (zrc1 rfl) (plainFor_of_name zpy12) zpDk142 (fun as g K Y h hA hY => by
  obtain ⟨rfl, hp0, hp1, hp2, hK⟩ := h
  exact yv_BA hY  hp0 hp1 hp2 hK)
def yP_WR : yPT := fun as g K => as = [(3, 90)] ∧ (0 ≤ g 90 17 ∧ g 90 17 ≤ 60) ∧ (-1 ≤ g 90 19) ∧ (∀ (r : Int) (g' : yM), (r = 0) → (g 90 19 = -1 → g' = yset g 90 19 (g 90 17)) → (g 90 19 ≠ -1 → g' = g) → K [(1, r)] g')
def yC_WR : yC := (214, (1, 40), yP_WR)
set_option maxRecDepth 8000 in
theorem yv_WR {K : List yV → yM → Prop} {Y : yNx} {g : yM} (hY : yCl zpD214 (zpZ, zpRS, zpP12, zpMT, [], (1, 40), 1) K Y) (hp0 : 0 ≤ g 90 17 ∧ g 90 17 ≤ 60) (hp1 : -1 ≤ g 90 19) (hK : ∀ (r : Int) (g' : yM), (r = 0) → (g 90 19 = -1 → g' = yset g 90 19 (g 90 17)) → (g 90 19 ≠ -1 → g' = g) → K [(1, r)] g') : Y 0 [(3, 90)] [] g := by
  refine yrun_ok (sp := fun pc => false) hY 10 0 _ [] g ?_
  show ((0 ≤ (g 90 19) → (K [(1, 0)] (yset g 90 19 (g 90 19)))) ∧ (¬ (0 ≤ (g 90 19)) → (K [(1, 0)] (yset g 90 19 (g 90 17)))))
  refine ⟨fun h1 => ?_, fun h1 => ?_⟩
  · exact hK _ _ rfl (fun h => absurd h (by omega)) (fun _ => yset_id g 90 19)
  · exact hK _ _ rfl (fun _ => rfl) (fun h => absurd h (by omega))
theorem yM_WR {l : Launch} {Ts : List Cond} {cl : List vw_C} {RO : zRO} (H : zHyp Ts cl RO) : yMet l Ts cl zpZ RO zpMT yC_WR := ymet_of2 H.1 H.2.1 zpDj H.2.2.1 yRb H.p12 ymets_nil (zrc1 rfl) (plainFor_of_name zpy12) zpDk214 (fun as g K Y h hA hY => by
  obtain ⟨rfl, hp0, hp1, hK⟩ := h
  exact yv_WR hY  hp0 hp1 hK)
def yP_TS : yPT := fun as g K => ∃ (c : Int), as = [(3, 90), (1, c)] ∧ (0 ≤ g 90 17 ∧ g 90 17 ≤ 60) ∧ (g 90 18 ≤ 60) ∧ (-1 ≤ g 90 19) ∧ (g 90 16 < 0) ∧ (35 ≤ c) ∧ (∀ (r : Int) (g' : yM), (r = (yTk (ySm g) c (g 90 17) (g 90 19)).2) → (g' = yset g 90 17 (yTk (ySm g) c (g 90 17) (g 90 19)).1) → K [(1, r)] g')
def yC_TS : yC := (202, (2, 60), yP_TS)
set_option maxRecDepth 8000 in
theorem yv_TS {K : List yV → yM → Prop} {Y : yNx} {g : yM} {c : Int} (hY : yCl zpD202 (zpZ, zpRS, zpP12, zpMT, [yC_BA], (2, 60), 2) K Y) (hr_c : -2147483648 ≤ c ∧ c ≤ 2147483647) (hp0 : 0 ≤ g 90 17 ∧ g 90 17 ≤ 60) (hp1 : g 90 18 ≤ 60) (hp2 : -1 ≤ g 90 19) (hp3 : g 90 16 < 0) (hp4 : 35 ≤ c) (hK : ∀ (r : Int) (g' : yM), (r = (yTk (ySm g) c (g 90 17) (g 90 19)).2) → (g' = yset g 90 17 (yTk (ySm g) c (g 90 17) (g 90 19)).1) → K [(1, r)] g') : Y 0 [(3, 90), (1, c)] [] g := by
  refine yrun_ok (sp := fun pc => false) hY 15 0 _ [] g ?_
  show ((0 ≤ (g 90 19) → (((0 : Int) ≤ 0 ∧ 0 ≤ (1 : Int)) ∧ (K [(1, 0)] g))) ∧ (¬ (0 ≤ (g 90 19)) → ([(3, 90)] = [(3, 90)] ∧ (0 ≤ g 90 17) ∧ (g 90 18 ≤ 60) ∧ (g 90 16 < 0) ∧ (∀ (r2 : Int), (r2 = ySm g (g 90 17)) → ((r2 = c → (((0 : Int) ≤ 1 ∧ 1 ≤ (1 : Int)) ∧ (K [(1, 1)] (yset g 90 17 (yw ((g 90 17) + 1)))))) ∧ (¬ (r2 = c) → (((0 : Int) ≤ 0 ∧ 0 ≤ (1 : Int)) ∧ (K [(1, 0)] g))))))))
  refine ⟨fun h1 => ?_, fun h1 => ?_⟩
  · refine ⟨(by omega), ?_⟩
    have hc : ¬ (g 90 19 = -1 ∧ ySm g (g 90 17) = c) := by omega
    refine hK _ _ ?_ ?_
    · unfold yTk; rw [if_neg hc]
    · unfold yTk; rw [if_neg hc]; exact (yset_id g 90 17).symm
  · refine ⟨rfl, (by omega), (by omega), (by omega), ?_⟩
    intro r2 p30
    refine ⟨fun h4 => ?_, fun h4 => ?_⟩
    · refine ⟨(by omega), ?_⟩
      have hc : g 90 19 = -1 ∧ ySm g (g 90 17) = c := by omega
      have := yw_s ((g 90 17) + 1)
      have := yw_s (g 90 17 + 1)
      refine hK _ _ ?_ ?_
      · unfold yTk; rw [if_pos hc]
      · unfold yTk; rw [if_pos hc, show (yw ((g 90 17) + 1)) = g 90 17 + 1 from by omega]
    · refine ⟨(by omega), ?_⟩
      have hc : ¬ (g 90 19 = -1 ∧ ySm g (g 90 17) = c) := by omega
      refine hK _ _ ?_ ?_
      · unfold yTk; rw [if_neg hc]
      · unfold yTk; rw [if_neg hc]; exact (yset_id g 90 17).symm
theorem yM_TS {l : Launch} {Ts : List Cond} {cl : List vw_C} {RO : zRO} (H : zHyp Ts cl RO) : yMet l Ts cl zpZ RO zpMT yC_TS := ymet_of2 H.1 H.2.1 zpDj H.2.2.1 yRb H.p12 (ymets_cons (yM_BA H) ymets_nil) (zrc2 rfl) (plainFor_of_name zpy12) zpDk202 (fun as g K Y h hA hY => by
  obtain ⟨c, rfl, hp0, hp1, hp2, hp3, hp4, hK⟩ := h
  exact yv_TS hY (yAr1 hA (by simp)) hp0 hp1 hp2 hp3 hp4 hK)
def yP_WN : yPT := fun as g K => ∃ (c : Int), as = [(3, 90), (1, c)] ∧ (0 ≤ g 90 17 ∧ g 90 17 ≤ 60) ∧ (g 90 18 ≤ 60) ∧ (-1 ≤ g 90 19) ∧ (g 90 16 < 0) ∧ (35 ≤ c) ∧ (∀ (g' : yM), (g' = yset (yset g 90 17 (yEx (ySm g) c (g 90 17) (g 90 19)).1) 90 19 (yEx (ySm g) c (g 90 17) (g 90 19)).2) → K [] g')
def yC_WN : yC := (210, (3, 81), yP_WN)
set_option maxRecDepth 8000 in
theorem yv_WN {K : List yV → yM → Prop} {Y : yNx} {g : yM} {c : Int} (hY : yCl zpD210 (zpZ, zpRS, zpP12, zpMT, [yC_TS, yC_WR], (3, 81), 0) K Y) (hr_c : -2147483648 ≤ c ∧ c ≤ 2147483647) (hp0 : 0 ≤ g 90 17 ∧ g 90 17 ≤ 60) (hp1 : g 90 18 ≤ 60) (hp2 : -1 ≤ g 90 19) (hp3 : g 90 16 < 0) (hp4 : 35 ≤ c) (hK : ∀ (g' : yM), (g' = yset (yset g 90 17 (yEx (ySm g) c (g 90 17) (g 90 19)).1) 90 19 (yEx (ySm g) c (g 90 17) (g 90 19)).2) → K [] g') : Y 0 [(3, 90), (1, c)] [] g := by
  refine yrun_ok (sp := fun pc => false) hY 11 0 _ [] g ?_
  show ((0 ≤ (g 90 19) → (K [] g)) ∧ (¬ (0 ≤ (g 90 19)) → (∃ (c2 : Int), [(3, 90), (1, c)] = [(3, 90), (1, c2)] ∧ (0 ≤ g 90 17 ∧ g 90 17 ≤ 60) ∧ (g 90 18 ≤ 60) ∧ (-1 ≤ g 90 19) ∧ (g 90 16 < 0) ∧ (35 ≤ c2) ∧ (∀ (r3 : Int) (g4 : yM), (r3 = (yTk (ySm g) c2 (g 90 17) (g 90 19)).2) → (g4 = yset g 90 17 (yTk (ySm g) c2 (g 90 17) (g 90 19)).1) → ((r3 ≠ 0 → (K [] g4)) ∧ (¬ (r3 ≠ 0) → ([(3, 90)] = [(3, 90)] ∧ (0 ≤ g4 90 17 ∧ g4 90 17 ≤ 60) ∧ (-1 ≤ g4 90 19) ∧ (∀ (r7 : Int) (g8 : yM), (r7 = 0) → (g4 90 19 = -1 → g8 = yset g4 90 19 (g4 90 17)) → (g4 90 19 ≠ -1 → g8 = g4) → (K [] g8)))))))))
  refine ⟨fun h1 => ?_, fun h1 => ?_⟩
  · refine hK _ ?_
    unfold yEx
    rw [if_neg (by omega)]
    exact (by rw [yset_id]; exact (yset_id g 90 19).symm)
  · refine ⟨_, rfl, (by omega), (by omega), (by omega), (by omega), (by omega), ?_⟩
    intro r3 g4 p50 p51
    refine ⟨fun h6 => ?_, fun h6 => ?_⟩
    · by_cases hx : g 90 19 = -1 ∧ ySm g (g 90 17) = c
      · unfold yTk at p51
        rw [if_pos hx] at p51
        refine hK _ ?_
        rw [p51]
        unfold yEx
        rw [if_pos hx.1, if_pos hx.2]
        exact (by rw [← hx.1]; exact (yset_om g _ _ (by decide)).symm)
      · unfold yTk at p50
        rw [if_neg hx] at p50
        omega
    · refine ⟨rfl, (by
      have hx : ¬ (g 90 19 = -1 ∧ ySm g (g 90 17) = c) := fun hx => by
        have q : (yTk (ySm g) c (g 90 17) (g 90 19)).2 = 1 := by unfold yTk; rw [if_pos hx]
        omega
      rw [p51]
      unfold yTk
      rw [if_neg hx]
      have z1 : (yset g 90 17 (g 90 17)) 90 17 = g 90 17 := yset_eq
      have z2 : (yset g 90 17 (g 90 17)) 90 19 = g 90 19 := yset_ne (by decide)
      first | (rw [z1]; exact hp0) | (rw [z2]; exact hp2)), (by
      have hx : ¬ (g 90 19 = -1 ∧ ySm g (g 90 17) = c) := fun hx => by
        have q : (yTk (ySm g) c (g 90 17) (g 90 19)).2 = 1 := by unfold yTk; rw [if_pos hx]
        omega
      rw [p51]
      unfold yTk
      rw [if_neg hx]
      have z1 : (yset g 90 17 (g 90 17)) 90 17 = g 90 17 := yset_eq
      have z2 : (yset g 90 17 (g 90 17)) 90 19 = g 90 19 := yset_ne (by decide)
      first | (rw [z1]; exact hp0) | (rw [z2]; exact hp2)), ?_⟩
      intro r7 g8 p90 p91 p92
      by_cases hx : g 90 19 = -1 ∧ ySm g (g 90 17) = c
      · unfold yTk at p50
        rw [if_pos hx] at p50
        omega
      · unfold yTk at p51
        rw [if_neg hx, yset_id] at p51
        rw [p51] at p91 p92
        have hf : g 90 19 = -1 := by omega
        refine hK _ ?_
        rw [p91 hf]
        unfold yEx
        rw [if_pos hf, if_neg (fun h => hx ⟨hf, h⟩), yset_id]
theorem yM_WN {l : Launch} {Ts : List Cond} {cl : List vw_C} {RO : zRO} (H : zHyp Ts cl RO) : yMet l Ts cl zpZ RO zpMT yC_WN := ymet_of2 H.1 H.2.1 zpDj H.2.2.1 yRb H.p12 (ymets_cons (yM_TS H) (ymets_cons (yM_WR H) ymets_nil)) (zrc0 rfl) (plainFor_of_name zpy12) zpDk210 (fun as g K Y h hA hY => by
  obtain ⟨c, rfl, hp0, hp1, hp2, hp3, hp4, hK⟩ := h
  exact yv_WN hY (yAr1 hA (by simp)) hp0 hp1 hp2 hp3 hp4 hK)
