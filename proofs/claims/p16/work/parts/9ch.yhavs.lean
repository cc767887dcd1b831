/-! THE PUBLIC METHODS WHOSE ANSWERS ARE NOT FOLLOWED -/
def yP_hc6 : yPT := fun as g K => ∃ (x0 x1 : Int), as = [(3, 0), (1, x0), (1, x1)] ∧ (yTy zpZ g) ∧ (∀ (r : Int) (g' : yM), (yTy zpZ g') → (yUn zpC59.2.2.2.2 g g') → K [(1, r)] g')
def yC_hc6 : yC := (23, (3, 82), yP_hc6)
theorem yM_hc6 {l : Launch} {Ts : List Cond} {cl : List vw_C} {RO : zRO} (H : zHyp Ts cl RO) : yMet l Ts cl zpZ RO zpMT yC_hc6 := fun D tys A ad ws g as As K hMem hSA hlen hD hK0 => yhavF (C := zpC59) (q0 := 0) (ks := [1, 1]) (fs := []) (rt := 1) zpDj yZk rfl (by decide +kernel) (fun f hf => by cases hf) ((zpM59 H).toE rfl) D tys A ad ws g as As K hMem hSA hlen hD (by
  obtain ⟨x0, x1, rfl, hp0, hK⟩ := hK0
  obtain ⟨gh, hg, hT⟩ := hp0
  refine ⟨⟨_, rfl, rfl⟩, gh, hg, hT, (fun f hf => by cases hf), fun r g' hr h1 h2 => ?_⟩
  obtain ⟨z, rfl⟩ : ∃ z : Int, r = [(1, z)] := by
    unfold yhR at hr
    rw [if_neg (by decide)] at hr
    exact hr
  exact hK z g' h1 h2)
def yP_hm6 : yPT := fun as g K => ∃ (x0 x1 : Int), as = [(3, 90), (1, x0), (1, x1)] ∧ (yTy zpZ g) ∧ (∀ (r : Int) (g' : yM), (yTy zpZ g') → (yUn zpC514.2.2.2.2 g g') → K [(1, r)] g')
def yC_hm6 : yC := (182, (4, 113), yP_hm6)
theorem yM_hm6 {l : Launch} {Ts : List Cond} {cl : List vw_C} {RO : zRO} (H : zHyp Ts cl RO) : yMet l Ts cl zpZ RO zpMT yC_hm6 := fun D tys A ad ws g as As K hMem hSA hlen hD hK0 => yhavF (C := zpC514) (q0 := 90) (ks := [1, 1]) (fs := []) (rt := 1) zpDj yZk rfl (by decide +kernel) (fun f hf => by cases hf) ((zpM514 H).toE rfl) D tys A ad ws g as As K hMem hSA hlen hD (by
  obtain ⟨x0, x1, rfl, hp0, hK⟩ := hK0
  obtain ⟨gh, hg, hT⟩ := hp0
  refine ⟨⟨_, rfl, rfl⟩, gh, hg, hT, (fun f hf => by cases hf), fun r g' hr h1 h2 => ?_⟩
  obtain ⟨z, rfl⟩ : ∃ z : Int, r = [(1, z)] := by
    unfold yhR at hr
    rw [if_neg (by decide)] at hr
    exact hr
  exact hK z g' h1 h2)
def yP_hc8 : yPT := fun as g K => ∃ (x0 : Int), as = [(3, 0), (1, x0)] ∧ (yTy zpZ g) ∧ (∀ (r : Int) (g' : yM), (yTy zpZ g') → (yUn zpC62.2.2.2.2 g g') → K [(1, r)] g')
def yC_hc8 : yC := (5, (2, 61), yP_hc8)
theorem yM_hc8 {l : Launch} {Ts : List Cond} {cl : List vw_C} {RO : zRO} (H : zHyp Ts cl RO) : yMet l Ts cl zpZ RO zpMT yC_hc8 := fun D tys A ad ws g as As K hMem hSA hlen hD hK0 => yhavF (C := zpC62) (q0 := 0) (ks := [1]) (fs := []) (rt := 1) zpDj yZk rfl (by decide +kernel) (fun f hf => by cases hf) ((zpM62 H).toE rfl) D tys A ad ws g as As K hMem hSA hlen hD (by
  obtain ⟨x0, rfl, hp0, hK⟩ := hK0
  obtain ⟨gh, hg, hT⟩ := hp0
  refine ⟨⟨_, rfl, rfl⟩, gh, hg, hT, (fun f hf => by cases hf), fun r g' hr h1 h2 => ?_⟩
  obtain ⟨z, rfl⟩ : ∃ z : Int, r = [(1, z)] := by
    unfold yhR at hr
    rw [if_neg (by decide)] at hr
    exact hr
  exact hK z g' h1 h2)
def yP_hm8 : yPT := fun as g K => ∃ (x0 : Int), as = [(3, 90), (1, x0)] ∧ (yTy zpZ g) ∧ (∀ (r : Int) (g' : yM), (yTy zpZ g') → (yUn zpC517.2.2.2.2 g g') → K [(1, r)] g')
def yC_hm8 : yC := (144, (4, 113), yP_hm8)
theorem yM_hm8 {l : Launch} {Ts : List Cond} {cl : List vw_C} {RO : zRO} (H : zHyp Ts cl RO) : yMet l Ts cl zpZ RO zpMT yC_hm8 := fun D tys A ad ws g as As K hMem hSA hlen hD hK0 => yhavF (C := zpC517) (q0 := 90) (ks := [1]) (fs := []) (rt := 1) zpDj yZk rfl (by decide +kernel) (fun f hf => by cases hf) ((zpM517 H).toE rfl) D tys A ad ws g as As K hMem hSA hlen hD (by
  obtain ⟨x0, rfl, hp0, hK⟩ := hK0
  obtain ⟨gh, hg, hT⟩ := hp0
  refine ⟨⟨_, rfl, rfl⟩, gh, hg, hT, (fun f hf => by cases hf), fun r g' hr h1 h2 => ?_⟩
  obtain ⟨z, rfl⟩ : ∃ z : Int, r = [(1, z)] := by
    unfold yhR at hr
    rw [if_neg (by decide)] at hr
    exact hr
  exact hK z g' h1 h2)
def yP_hc9 : yPT := fun as g K => ∃ (x0 x1 : Int), as = [(3, 0), (1, x0), (1, x1)] ∧ (yTy zpZ g) ∧ (∀ (r : Int) (g' : yM), (yTy zpZ g') → (yUn zpC66.2.2.2.2 g g') → K [(1, r)] g')
def yC_hc9 : yC := (25, (3, 85), yP_hc9)
theorem yM_hc9 {l : Launch} {Ts : List Cond} {cl : List vw_C} {RO : zRO} (H : zHyp Ts cl RO) : yMet l Ts cl zpZ RO zpMT yC_hc9 := fun D tys A ad ws g as As K hMem hSA hlen hD hK0 => yhavF (C := zpC66) (q0 := 0) (ks := [1, 1]) (fs := []) (rt := 1) zpDj yZk rfl (by decide +kernel) (fun f hf => by cases hf) ((zpM66 H).toE rfl) D tys A ad ws g as As K hMem hSA hlen hD (by
  obtain ⟨x0, x1, rfl, hp0, hK⟩ := hK0
  obtain ⟨gh, hg, hT⟩ := hp0
  refine ⟨⟨_, rfl, rfl⟩, gh, hg, hT, (fun f hf => by cases hf), fun r g' hr h1 h2 => ?_⟩
  obtain ⟨z, rfl⟩ : ∃ z : Int, r = [(1, z)] := by
    unfold yhR at hr
    rw [if_neg (by decide)] at hr
    exact hr
  exact hK z g' h1 h2)
def yP_hm9 : yPT := fun as g K => ∃ (x0 x1 : Int), as = [(3, 90), (1, x0), (1, x1)] ∧ (yTy zpZ g) ∧ (∀ (r : Int) (g' : yM), (yTy zpZ g') → (yUn zpC521.2.2.2.2 g g') → K [(1, r)] g')
def yC_hm9 : yC := (185, (5, 134), yP_hm9)
theorem yM_hm9 {l : Launch} {Ts : List Cond} {cl : List vw_C} {RO : zRO} (H : zHyp Ts cl RO) : yMet l Ts cl zpZ RO zpMT yC_hm9 := fun D tys A ad ws g as As K hMem hSA hlen hD hK0 => yhavF (C := zpC521) (q0 := 90) (ks := [1, 1]) (fs := []) (rt := 1) zpDj yZk rfl (by decide +kernel) (fun f hf => by cases hf) ((zpM521 H).toE rfl) D tys A ad ws g as As K hMem hSA hlen hD (by
  obtain ⟨x0, x1, rfl, hp0, hK⟩ := hK0
  obtain ⟨gh, hg, hT⟩ := hp0
  refine ⟨⟨_, rfl, rfl⟩, gh, hg, hT, (fun f hf => by cases hf), fun r g' hr h1 h2 => ?_⟩
  obtain ⟨z, rfl⟩ : ∃ z : Int, r = [(1, z)] := by
    unfold yhR at hr
    rw [if_neg (by decide)] at hr
    exact hr
  exact hK z g' h1 h2)
def yP_hc10 : yPT := fun as g K => ∃ (x0 x1 : Int), as = [(3, 0), (1, x0), (1, x1)] ∧ (yTy zpZ g) ∧ (∀ (r : Int) (g' : yM), (yTy zpZ g') → (yUn zpC68.2.2.2.2 g g') → K [(1, r)] g')
def yC_hc10 : yC := (24, (4, 110), yP_hc10)
theorem yM_hc10 {l : Launch} {Ts : List Cond} {cl : List vw_C} {RO : zRO} (H : zHyp Ts cl RO) : yMet l Ts cl zpZ RO zpMT yC_hc10 := fun D tys A ad ws g as As K hMem hSA hlen hD hK0 => yhavF (C := zpC68) (q0 := 0) (ks := [1, 1]) (fs := []) (rt := 1) zpDj yZk rfl (by decide +kernel) (fun f hf => by cases hf) ((zpM68 H).toE rfl) D tys A ad ws g as As K hMem hSA hlen hD (by
  obtain ⟨x0, x1, rfl, hp0, hK⟩ := hK0
  obtain ⟨gh, hg, hT⟩ := hp0
  refine ⟨⟨_, rfl, rfl⟩, gh, hg, hT, (fun f hf => by cases hf), fun r g' hr h1 h2 => ?_⟩
  obtain ⟨z, rfl⟩ : ∃ z : Int, r = [(1, z)] := by
    unfold yhR at hr
    rw [if_neg (by decide)] at hr
    exact hr
  exact hK z g' h1 h2)
def yP_hm10 : yPT := fun as g K => ∃ (x0 x1 : Int), as = [(3, 90), (1, x0), (1, x1)] ∧ (yTy zpZ g) ∧ (∀ (r : Int) (g' : yM), (yTy zpZ g') → (yUn zpC522.2.2.2.2 g g') → K [(1, r)] g')
def yC_hm10 : yC := (184, (5, 134), yP_hm10)
theorem yM_hm10 {l : Launch} {Ts : List Cond} {cl : List vw_C} {RO : zRO} (H : zHyp Ts cl RO) : yMet l Ts cl zpZ RO zpMT yC_hm10 := fun D tys A ad ws g as As K hMem hSA hlen hD hK0 => yhavF (C := zpC522) (q0 := 90) (ks := [1, 1]) (fs := []) (rt := 1) zpDj yZk rfl (by decide +kernel) (fun f hf => by cases hf) ((zpM522 H).toE rfl) D tys A ad ws g as As K hMem hSA hlen hD (by
  obtain ⟨x0, x1, rfl, hp0, hK⟩ := hK0
  obtain ⟨gh, hg, hT⟩ := hp0
  refine ⟨⟨_, rfl, rfl⟩, gh, hg, hT, (fun f hf => by cases hf), fun r g' hr h1 h2 => ?_⟩
  obtain ⟨z, rfl⟩ : ∃ z : Int, r = [(1, z)] := by
    unfold yhR at hr
    rw [if_neg (by decide)] at hr
    exact hr
  exact hK z g' h1 h2)
def yP_hc12 : yPT := fun as g K => ∃ (x0 x1 : Int), as = [(3, 0), (1, x0), (1, x1)] ∧ (yTy zpZ g) ∧ (∀ (r : Int) (g' : yM), (yTy zpZ g') → (yUn zpC72.2.2.2.2 g g') → K [(1, r)] g')
def yC_hc12 : yC := (17, (4, 110), yP_hc12)
theorem yM_hc12 {l : Launch} {Ts : List Cond} {cl : List vw_C} {RO : zRO} (H : zHyp Ts cl RO) : yMet l Ts cl zpZ RO zpMT yC_hc12 := fun D tys A ad ws g as As K hMem hSA hlen hD hK0 => yhavF (C := zpC72) (q0 := 0) (ks := [1, 1]) (fs := []) (rt := 1) zpDj yZk rfl (by decide +kernel) (fun f hf => by cases hf) ((zpM72 H).toE rfl) D tys A ad ws g as As K hMem hSA hlen hD (by
  obtain ⟨x0, x1, rfl, hp0, hK⟩ := hK0
  obtain ⟨gh, hg, hT⟩ := hp0
  refine ⟨⟨_, rfl, rfl⟩, gh, hg, hT, (fun f hf => by cases hf), fun r g' hr h1 h2 => ?_⟩
  obtain ⟨z, rfl⟩ : ∃ z : Int, r = [(1, z)] := by
    unfold yhR at hr
    rw [if_neg (by decide)] at hr
    exact hr
  exact hK z g' h1 h2)
def yP_hm12 : yPT := fun as g K => ∃ (x0 x1 : Int), as = [(3, 90), (1, x0), (1, x1)] ∧ (yTy zpZ g) ∧ (∀ (r : Int) (g' : yM), (yTy zpZ g') → (yUn zpC526.2.2.2.2 g g') → K [(1, r)] g')
def yC_hm12 : yC := (171, (5, 134), yP_hm12)
theorem yM_hm12 {l : Launch} {Ts : List Cond} {cl : List vw_C} {RO : zRO} (H : zHyp Ts cl RO) : yMet l Ts cl zpZ RO zpMT yC_hm12 := fun D tys A ad ws g as As K hMem hSA hlen hD hK0 => yhavF (C := zpC526) (q0 := 90) (ks := [1, 1]) (fs := []) (rt := 1) zpDj yZk rfl (by decide +kernel) (fun f hf => by cases hf) ((zpM526 H).toE rfl) D tys A ad ws g as As K hMem hSA hlen hD (by
  obtain ⟨x0, x1, rfl, hp0, hK⟩ := hK0
  obtain ⟨gh, hg, hT⟩ := hp0
  refine ⟨⟨_, rfl, rfl⟩, gh, hg, hT, (fun f hf => by cases hf), fun r g' hr h1 h2 => ?_⟩
  obtain ⟨z, rfl⟩ : ∃ z : Int, r = [(1, z)] := by
    unfold yhR at hr
    rw [if_neg (by decide)] at hr
    exact hr
  exact hK z g' h1 h2)
def yP_hc13 : yPT := fun as g K => ∃ (x0 : Int), as = [(3, 0), (1, x0)] ∧ (yTy zpZ g) ∧ (∀ (r : Int) (g' : yM), (yTy zpZ g') → (yUn zpC74.2.2.2.2 g g') → K [(2, r)] g')
def yC_hc13 : yC := (38, (4, 109), yP_hc13)
theorem yM_hc13 {l : Launch} {Ts : List Cond} {cl : List vw_C} {RO : zRO} (H : zHyp Ts cl RO) : yMet l Ts cl zpZ RO zpMT yC_hc13 := fun D tys A ad ws g as As K hMem hSA hlen hD hK0 => yhavF (C := zpC74) (q0 := 0) (ks := [1]) (fs := []) (rt := 2) zpDj yZk rfl (by decide +kernel) (fun f hf => by cases hf) ((zpM74 H).toE rfl) D tys A ad ws g as As K hMem hSA hlen hD (by
  obtain ⟨x0, rfl, hp0, hK⟩ := hK0
  obtain ⟨gh, hg, hT⟩ := hp0
  refine ⟨⟨_, rfl, rfl⟩, gh, hg, hT, (fun f hf => by cases hf), fun r g' hr h1 h2 => ?_⟩
  obtain ⟨z, rfl⟩ : ∃ z : Int, r = [(2, z)] := by
    unfold yhR at hr
    rw [if_neg (by decide)] at hr
    exact hr
  exact hK z g' h1 h2)
def yP_hm13 : yPT := fun as g K => ∃ (x0 : Int), as = [(3, 90), (1, x0)] ∧ (yTy zpZ g) ∧ (∀ (r : Int) (g' : yM), (yTy zpZ g') → (yUn zpC527.2.2.2.2 g g') → K [(2, r)] g')
def yC_hm13 : yC := (211, (5, 134), yP_hm13)
theorem yM_hm13 {l : Launch} {Ts : List Cond} {cl : List vw_C} {RO : zRO} (H : zHyp Ts cl RO) : yMet l Ts cl zpZ RO zpMT yC_hm13 := fun D tys A ad ws g as As K hMem hSA hlen hD hK0 => yhavF (C := zpC527) (q0 := 90) (ks := [1]) (fs := []) (rt := 2) zpDj yZk rfl (by decide +kernel) (fun f hf => by cases hf) ((zpM527 H).toE rfl) D tys A ad ws g as As K hMem hSA hlen hD (by
  obtain ⟨x0, rfl, hp0, hK⟩ := hK0
  obtain ⟨gh, hg, hT⟩ := hp0
  refine ⟨⟨_, rfl, rfl⟩, gh, hg, hT, (fun f hf => by cases hf), fun r g' hr h1 h2 => ?_⟩
  obtain ⟨z, rfl⟩ : ∃ z : Int, r = [(2, z)] := by
    unfold yhR at hr
    rw [if_neg (by decide)] at hr
    exact hr
  exact hK z g' h1 h2)
def yP_hc17 : yPT := fun as g K => ∃ (x0 x1 x2 : Int), as = [(3, 0), (1, x0), (1, x1), (1, x2)] ∧ (yTy zpZ g) ∧ (∀ (r : Int) (g' : yM), (yTy zpZ g') → (yUn zpC150.2.2.2.2 g g') → K [(1, r)] g')
def yC_hc17 : yC := (22, (25, 1126), yP_hc17)
theorem yM_hc17 {l : Launch} {Ts : List Cond} {cl : List vw_C} {RO : zRO} (H : zHyp Ts cl RO) : yMet l Ts cl zpZ RO zpMT yC_hc17 := fun D tys A ad ws g as As K hMem hSA hlen hD hK0 => yhavF (C := zpC150) (q0 := 0) (ks := [1, 1, 1]) (fs := []) (rt := 1) zpDj yZk rfl (by decide +kernel) (fun f hf => by cases hf) ((zpM150 H).toE rfl) D tys A ad ws g as As K hMem hSA hlen hD (by
  obtain ⟨x0, x1, x2, rfl, hp0, hK⟩ := hK0
  obtain ⟨gh, hg, hT⟩ := hp0
  refine ⟨⟨_, rfl, rfl⟩, gh, hg, hT, (fun f hf => by cases hf), fun r g' hr h1 h2 => ?_⟩
  obtain ⟨z, rfl⟩ : ∃ z : Int, r = [(1, z)] := by
    unfold yhR at hr
    rw [if_neg (by decide)] at hr
    exact hr
  exact hK z g' h1 h2)
def yP_hm17 : yPT := fun as g K => ∃ (x0 x1 x2 : Int), as = [(3, 90), (1, x0), (1, x1), (1, x2)] ∧ (yTy zpZ g) ∧ (∀ (r : Int) (g' : yM), (yTy zpZ g') → (yUn zpC597.2.2.2.2 g g') → K [(1, r)] g')
def yC_hm17 : yC := (179, (48, 1123), yP_hm17)
theorem yM_hm17 {l : Launch} {Ts : List Cond} {cl : List vw_C} {RO : zRO} (H : zHyp Ts cl RO) : yMet l Ts cl zpZ RO zpMT yC_hm17 := fun D tys A ad ws g as As K hMem hSA hlen hD hK0 => yhavF (C := zpC597) (q0 := 90) (ks := [1, 1, 1]) (fs := []) (rt := 1) zpDj yZk rfl (by decide +kernel) (fun f hf => by cases hf) ((zpM597 H).toE rfl) D tys A ad ws g as As K hMem hSA hlen hD (by
  obtain ⟨x0, x1, x2, rfl, hp0, hK⟩ := hK0
  obtain ⟨gh, hg, hT⟩ := hp0
  refine ⟨⟨_, rfl, rfl⟩, gh, hg, hT, (fun f hf => by cases hf), fun r g' hr h1 h2 => ?_⟩
  obtain ⟨z, rfl⟩ : ∃ z : Int, r = [(1, z)] := by
    unfold yhR at hr
    rw [if_neg (by decide)] at hr
    exact hr
  exact hK z g' h1 h2)
def yP_hc18 : yPT := fun as g K => ∃ (x0 x1 x2 : Int), as = [(3, 0), (1, x0), (1, x1), (1, x2)] ∧ (yTy zpZ g) ∧ (∀ (r : Int) (g' : yM), (yTy zpZ g') → (yUn zpC154.2.2.2.2 g g') → K [(1, r)] g')
def yC_hc18 : yC := (3, (27, 1174), yP_hc18)
theorem yM_hc18 {l : Launch} {Ts : List Cond} {cl : List vw_C} {RO : zRO} (H : zHyp Ts cl RO) : yMet l Ts cl zpZ RO zpMT yC_hc18 := fun D tys A ad ws g as As K hMem hSA hlen hD hK0 => yhavF (C := zpC154) (q0 := 0) (ks := [1, 1, 1]) (fs := []) (rt := 1) zpDj yZk rfl (by decide +kernel) (fun f hf => by cases hf) ((zpM154 H).toE rfl) D tys A ad ws g as As K hMem hSA hlen hD (by
  obtain ⟨x0, x1, x2, rfl, hp0, hK⟩ := hK0
  obtain ⟨gh, hg, hT⟩ := hp0
  refine ⟨⟨_, rfl, rfl⟩, gh, hg, hT, (fun f hf => by cases hf), fun r g' hr h1 h2 => ?_⟩
  obtain ⟨z, rfl⟩ : ∃ z : Int, r = [(1, z)] := by
    unfold yhR at hr
    rw [if_neg (by decide)] at hr
    exact hr
  exact hK z g' h1 h2)
def yP_hm18 : yPT := fun as g K => ∃ (x0 x1 x2 : Int), as = [(3, 90), (1, x0), (1, x1), (1, x2)] ∧ (yTy zpZ g) ∧ (∀ (r : Int) (g' : yM), (yTy zpZ g') → (yUn zpC599.2.2.2.2 g g') → K [(1, r)] g')
def yC_hm18 : yC := (141, (49, 1145), yP_hm18)
theorem yM_hm18 {l : Launch} {Ts : List Cond} {cl : List vw_C} {RO : zRO} (H : zHyp Ts cl RO) : yMet l Ts cl zpZ RO zpMT yC_hm18 := fun D tys A ad ws g as As K hMem hSA hlen hD hK0 => yhavF (C := zpC599) (q0 := 90) (ks := [1, 1, 1]) (fs := []) (rt := 1) zpDj yZk rfl (by decide +kernel) (fun f hf => by cases hf) ((zpM599 H).toE rfl) D tys A ad ws g as As K hMem hSA hlen hD (by
  obtain ⟨x0, x1, x2, rfl, hp0, hK⟩ := hK0
  obtain ⟨gh, hg, hT⟩ := hp0
  refine ⟨⟨_, rfl, rfl⟩, gh, hg, hT, (fun f hf => by cases hf), fun r g' hr h1 h2 => ?_⟩
  obtain ⟨z, rfl⟩ : ∃ z : Int, r = [(1, z)] := by
    unfold yhR at hr
    rw [if_neg (by decide)] at hr
    exact hr
  exact hK z g' h1 h2)
def yP_hc19 : yPT := fun as g K => ∃ (x0 : Int), as = [(3, 0), (1, x0)] ∧ (yTy zpZ g) ∧ (∀ (r : Int) (g' : yM), (yTy zpZ g') → (yUn zpC156.2.2.2.2 g g') → K [(1, r)] g')
def yC_hc19 : yC := (19, (27, 1173), yP_hc19)
theorem yM_hc19 {l : Launch} {Ts : List Cond} {cl : List vw_C} {RO : zRO} (H : zHyp Ts cl RO) : yMet l Ts cl zpZ RO zpMT yC_hc19 := fun D tys A ad ws g as As K hMem hSA hlen hD hK0 => yhavF (C := zpC156) (q0 := 0) (ks := [1]) (fs := []) (rt := 1) zpDj yZk rfl (by decide +kernel) (fun f hf => by cases hf) ((zpM156 H).toE rfl) D tys A ad ws g as As K hMem hSA hlen hD (by
  obtain ⟨x0, rfl, hp0, hK⟩ := hK0
  obtain ⟨gh, hg, hT⟩ := hp0
  refine ⟨⟨_, rfl, rfl⟩, gh, hg, hT, (fun f hf => by cases hf), fun r g' hr h1 h2 => ?_⟩
  obtain ⟨z, rfl⟩ : ∃ z : Int, r = [(1, z)] := by
    unfold yhR at hr
    rw [if_neg (by decide)] at hr
    exact hr
  exact hK z g' h1 h2)
def yP_hm19 : yPT := fun as g K => ∃ (x0 : Int), as = [(3, 90), (1, x0)] ∧ (yTy zpZ g) ∧ (∀ (r : Int) (g' : yM), (yTy zpZ g') → (yUn zpC600.2.2.2.2 g g') → K [(1, r)] g')
def yC_hm19 : yC := (173, (49, 1145), yP_hm19)
theorem yM_hm19 {l : Launch} {Ts : List Cond} {cl : List vw_C} {RO : zRO} (H : zHyp Ts cl RO) : yMet l Ts cl zpZ RO zpMT yC_hm19 := fun D tys A ad ws g as As K hMem hSA hlen hD hK0 => yhavF (C := zpC600) (q0 := 90) (ks := [1]) (fs := []) (rt := 1) zpDj yZk rfl (by decide +kernel) (fun f hf => by cases hf) ((zpM600 H).toE rfl) D tys A ad ws g as As K hMem hSA hlen hD (by
  obtain ⟨x0, rfl, hp0, hK⟩ := hK0
  obtain ⟨gh, hg, hT⟩ := hp0
  refine ⟨⟨_, rfl, rfl⟩, gh, hg, hT, (fun f hf => by cases hf), fun r g' hr h1 h2 => ?_⟩
  obtain ⟨z, rfl⟩ : ∃ z : Int, r = [(1, z)] := by
    unfold yhR at hr
    rw [if_neg (by decide)] at hr
    exact hr
  exact hK z g' h1 h2)
def yP_hc20 : yPT := fun as g K => ∃ (x0 : Int), as = [(3, 0), (1, x0)] ∧ (yTy zpZ g) ∧ (∀ (r : Int) (g' : yM), (yTy zpZ g') → (yUn zpC158.2.2.2.2 g g') → K [(1, r)] g')
def yC_hc20 : yC := (13, (27, 1172), yP_hc20)
theorem yM_hc20 {l : Launch} {Ts : List Cond} {cl : List vw_C} {RO : zRO} (H : zHyp Ts cl RO) : yMet l Ts cl zpZ RO zpMT yC_hc20 := fun D tys A ad ws g as As K hMem hSA hlen hD hK0 => yhavF (C := zpC158) (q0 := 0) (ks := [1]) (fs := []) (rt := 1) zpDj yZk rfl (by decide +kernel) (fun f hf => by cases hf) ((zpM158 H).toE rfl) D tys A ad ws g as As K hMem hSA hlen hD (by
  obtain ⟨x0, rfl, hp0, hK⟩ := hK0
  obtain ⟨gh, hg, hT⟩ := hp0
  refine ⟨⟨_, rfl, rfl⟩, gh, hg, hT, (fun f hf => by cases hf), fun r g' hr h1 h2 => ?_⟩
  obtain ⟨z, rfl⟩ : ∃ z : Int, r = [(1, z)] := by
    unfold yhR at hr
    rw [if_neg (by decide)] at hr
    exact hr
  exact hK z g' h1 h2)
def yP_hm20 : yPT := fun as g K => ∃ (x0 : Int), as = [(3, 90), (1, x0)] ∧ (yTy zpZ g) ∧ (∀ (r : Int) (g' : yM), (yTy zpZ g') → (yUn zpC601.2.2.2.2 g g') → K [(1, r)] g')
def yC_hm20 : yC := (158, (49, 1145), yP_hm20)
theorem yM_hm20 {l : Launch} {Ts : List Cond} {cl : List vw_C} {RO : zRO} (H : zHyp Ts cl RO) : yMet l Ts cl zpZ RO zpMT yC_hm20 := fun D tys A ad ws g as As K hMem hSA hlen hD hK0 => yhavF (C := zpC601) (q0 := 90) (ks := [1]) (fs := []) (rt := 1) zpDj yZk rfl (by decide +kernel) (fun f hf => by cases hf) ((zpM601 H).toE rfl) D tys A ad ws g as As K hMem hSA hlen hD (by
  obtain ⟨x0, rfl, hp0, hK⟩ := hK0
  obtain ⟨gh, hg, hT⟩ := hp0
  refine ⟨⟨_, rfl, rfl⟩, gh, hg, hT, (fun f hf => by cases hf), fun r g' hr h1 h2 => ?_⟩
  obtain ⟨z, rfl⟩ : ∃ z : Int, r = [(1, z)] := by
    unfold yhR at hr
    rw [if_neg (by decide)] at hr
    exact hr
  exact hK z g' h1 h2)
def yP_hc21 : yPT := fun as g K => ∃ (x0 : Int), as = [(3, 0), (1, x0)] ∧ (yTy zpZ g) ∧ (∀ (r : Int) (g' : yM), (yTy zpZ g') → (yUn zpC160.2.2.2.2 g g') → K [(1, r)] g')
def yC_hc21 : yC := (20, (26, 1149), yP_hc21)
theorem yM_hc21 {l : Launch} {Ts : List Cond} {cl : List vw_C} {RO : zRO} (H : zHyp Ts cl RO) : yMet l Ts cl zpZ RO zpMT yC_hc21 := fun D tys A ad ws g as As K hMem hSA hlen hD hK0 => yhavF (C := zpC160) (q0 := 0) (ks := [1]) (fs := []) (rt := 1) zpDj yZk rfl (by decide +kernel) (fun f hf => by cases hf) ((zpM160 H).toE rfl) D tys A ad ws g as As K hMem hSA hlen hD (by
  obtain ⟨x0, rfl, hp0, hK⟩ := hK0
  obtain ⟨gh, hg, hT⟩ := hp0
  refine ⟨⟨_, rfl, rfl⟩, gh, hg, hT, (fun f hf => by cases hf), fun r g' hr h1 h2 => ?_⟩
  obtain ⟨z, rfl⟩ : ∃ z : Int, r = [(1, z)] := by
    unfold yhR at hr
    rw [if_neg (by decide)] at hr
    exact hr
  exact hK z g' h1 h2)
def yP_hm21 : yPT := fun as g K => ∃ (x0 : Int), as = [(3, 90), (1, x0)] ∧ (yTy zpZ g) ∧ (∀ (r : Int) (g' : yM), (yTy zpZ g') → (yUn zpC602.2.2.2.2 g g') → K [(1, r)] g')
def yC_hm21 : yC := (176, (49, 1145), yP_hm21)
theorem yM_hm21 {l : Launch} {Ts : List Cond} {cl : List vw_C} {RO : zRO} (H : zHyp Ts cl RO) : yMet l Ts cl zpZ RO zpMT yC_hm21 := fun D tys A ad ws g as As K hMem hSA hlen hD hK0 => yhavF (C := zpC602) (q0 := 90) (ks := [1]) (fs := []) (rt := 1) zpDj yZk rfl (by decide +kernel) (fun f hf => by cases hf) ((zpM602 H).toE rfl) D tys A ad ws g as As K hMem hSA hlen hD (by
  obtain ⟨x0, rfl, hp0, hK⟩ := hK0
  obtain ⟨gh, hg, hT⟩ := hp0
  refine ⟨⟨_, rfl, rfl⟩, gh, hg, hT, (fun f hf => by cases hf), fun r g' hr h1 h2 => ?_⟩
  obtain ⟨z, rfl⟩ : ∃ z : Int, r = [(1, z)] := by
    unfold yhR at hr
    rw [if_neg (by decide)] at hr
    exact hr
  exact hK z g' h1 h2)
def yP_hc22 : yPT := fun as g K => ∃ (x0 x1 : Int), as = [(3, 0), (1, x0), (1, x1)] ∧ (yTy zpZ g) ∧ (∀ (r : Int) (g' : yM), (yTy zpZ g') → (yUn zpC164.2.2.2.2 g g') → K [(1, r)] g')
def yC_hc22 : yC := (6, (3, 86), yP_hc22)
theorem yM_hc22 {l : Launch} {Ts : List Cond} {cl : List vw_C} {RO : zRO} (H : zHyp Ts cl RO) : yMet l Ts cl zpZ RO zpMT yC_hc22 := fun D tys A ad ws g as As K hMem hSA hlen hD hK0 => yhavF (C := zpC164) (q0 := 0) (ks := [1, 1]) (fs := []) (rt := 1) zpDj yZk rfl (by decide +kernel) (fun f hf => by cases hf) ((zpM164 H).toE rfl) D tys A ad ws g as As K hMem hSA hlen hD (by
  obtain ⟨x0, x1, rfl, hp0, hK⟩ := hK0
  obtain ⟨gh, hg, hT⟩ := hp0
  refine ⟨⟨_, rfl, rfl⟩, gh, hg, hT, (fun f hf => by cases hf), fun r g' hr h1 h2 => ?_⟩
  obtain ⟨z, rfl⟩ : ∃ z : Int, r = [(1, z)] := by
    unfold yhR at hr
    rw [if_neg (by decide)] at hr
    exact hr
  exact hK z g' h1 h2)
def yP_hm22 : yPT := fun as g K => ∃ (x0 x1 : Int), as = [(3, 90), (1, x0), (1, x1)] ∧ (yTy zpZ g) ∧ (∀ (r : Int) (g' : yM), (yTy zpZ g') → (yUn zpC603.2.2.2.2 g g') → K [(1, r)] g')
def yC_hm22 : yC := (145, (3, 85), yP_hm22)
theorem yM_hm22 {l : Launch} {Ts : List Cond} {cl : List vw_C} {RO : zRO} (H : zHyp Ts cl RO) : yMet l Ts cl zpZ RO zpMT yC_hm22 := fun D tys A ad ws g as As K hMem hSA hlen hD hK0 => yhavF (C := zpC603) (q0 := 90) (ks := [1, 1]) (fs := []) (rt := 1) zpDj yZk rfl (by decide +kernel) (fun f hf => by cases hf) ((zpM603 H).toE rfl) D tys A ad ws g as As K hMem hSA hlen hD (by
  obtain ⟨x0, x1, rfl, hp0, hK⟩ := hK0
  obtain ⟨gh, hg, hT⟩ := hp0
  refine ⟨⟨_, rfl, rfl⟩, gh, hg, hT, (fun f hf => by cases hf), fun r g' hr h1 h2 => ?_⟩
  obtain ⟨z, rfl⟩ : ∃ z : Int, r = [(1, z)] := by
    unfold yhR at hr
    rw [if_neg (by decide)] at hr
    exact hr
  exact hK z g' h1 h2)
def yP_hc23 : yPT := fun as g K => ∃ (x0 x1 : Int), as = [(3, 0), (1, x0), (1, x1)] ∧ (yTy zpZ g) ∧ (∀ (r : Int) (g' : yM), (yTy zpZ g') → (yUn zpC169.2.2.2.2 g g') → K [(1, r)] g')
def yC_hc23 : yC := (14, (5, 133), yP_hc23)
theorem yM_hc23 {l : Launch} {Ts : List Cond} {cl : List vw_C} {RO : zRO} (H : zHyp Ts cl RO) : yMet l Ts cl zpZ RO zpMT yC_hc23 := fun D tys A ad ws g as As K hMem hSA hlen hD hK0 => yhavF (C := zpC169) (q0 := 0) (ks := [1, 1]) (fs := []) (rt := 1) zpDj yZk rfl (by decide +kernel) (fun f hf => by cases hf) ((zpM169 H).toE rfl) D tys A ad ws g as As K hMem hSA hlen hD (by
  obtain ⟨x0, x1, rfl, hp0, hK⟩ := hK0
  obtain ⟨gh, hg, hT⟩ := hp0
  refine ⟨⟨_, rfl, rfl⟩, gh, hg, hT, (fun f hf => by cases hf), fun r g' hr h1 h2 => ?_⟩
  obtain ⟨z, rfl⟩ : ∃ z : Int, r = [(1, z)] := by
    unfold yhR at hr
    rw [if_neg (by decide)] at hr
    exact hr
  exact hK z g' h1 h2)
def yP_hm23 : yPT := fun as g K => ∃ (x0 x1 : Int), as = [(3, 90), (1, x0), (1, x1)] ∧ (yTy zpZ g) ∧ (∀ (r : Int) (g' : yM), (yTy zpZ g') → (yUn zpC605.2.2.2.2 g g') → K [(1, r)] g')
def yC_hm23 : yC := (162, (5, 134), yP_hm23)
theorem yM_hm23 {l : Launch} {Ts : List Cond} {cl : List vw_C} {RO : zRO} (H : zHyp Ts cl RO) : yMet l Ts cl zpZ RO zpMT yC_hm23 := fun D tys A ad ws g as As K hMem hSA hlen hD hK0 => yhavF (C := zpC605) (q0 := 90) (ks := [1, 1]) (fs := []) (rt := 1) zpDj yZk rfl (by decide +kernel) (fun f hf => by cases hf) ((zpM605 H).toE rfl) D tys A ad ws g as As K hMem hSA hlen hD (by
  obtain ⟨x0, x1, rfl, hp0, hK⟩ := hK0
  obtain ⟨gh, hg, hT⟩ := hp0
  refine ⟨⟨_, rfl, rfl⟩, gh, hg, hT, (fun f hf => by cases hf), fun r g' hr h1 h2 => ?_⟩
  obtain ⟨z, rfl⟩ : ∃ z : Int, r = [(1, z)] := by
    unfold yhR at hr
    rw [if_neg (by decide)] at hr
    exact hr
  exact hK z g' h1 h2)
def yP_hc24 : yPT := fun as g K => ∃ (x0 x1 x2 : Int), as = [(3, 0), (1, x0), (1, x1), (1, x2)] ∧ (yTy zpZ g) ∧ (∀ (r : Int) (g' : yM), (yTy zpZ g') → (yUn zpC174.2.2.2.2 g g') → K [(1, r)] g')
def yC_hc24 : yC := (30, (4, 110), yP_hc24)
theorem yM_hc24 {l : Launch} {Ts : List Cond} {cl : List vw_C} {RO : zRO} (H : zHyp Ts cl RO) : yMet l Ts cl zpZ RO zpMT yC_hc24 := fun D tys A ad ws g as As K hMem hSA hlen hD hK0 => yhavF (C := zpC174) (q0 := 0) (ks := [1, 1, 1]) (fs := []) (rt := 1) zpDj yZk rfl (by decide +kernel) (fun f hf => by cases hf) ((zpM174 H).toE rfl) D tys A ad ws g as As K hMem hSA hlen hD (by
  obtain ⟨x0, x1, x2, rfl, hp0, hK⟩ := hK0
  obtain ⟨gh, hg, hT⟩ := hp0
  refine ⟨⟨_, rfl, rfl⟩, gh, hg, hT, (fun f hf => by cases hf), fun r g' hr h1 h2 => ?_⟩
  obtain ⟨z, rfl⟩ : ∃ z : Int, r = [(1, z)] := by
    unfold yhR at hr
    rw [if_neg (by decide)] at hr
    exact hr
  exact hK z g' h1 h2)
def yP_hm24 : yPT := fun as g K => ∃ (x0 x1 x2 : Int), as = [(3, 90), (1, x0), (1, x1), (1, x2)] ∧ (yTy zpZ g) ∧ (∀ (r : Int) (g' : yM), (yTy zpZ g') → (yUn zpC608.2.2.2.2 g g') → K [(1, r)] g')
def yC_hm24 : yC := (196, (5, 134), yP_hm24)
theorem yM_hm24 {l : Launch} {Ts : List Cond} {cl : List vw_C} {RO : zRO} (H : zHyp Ts cl RO) : yMet l Ts cl zpZ RO zpMT yC_hm24 := fun D tys A ad ws g as As K hMem hSA hlen hD hK0 => yhavF (C := zpC608) (q0 := 90) (ks := [1, 1, 1]) (fs := []) (rt := 1) zpDj yZk rfl (by decide +kernel) (fun f hf => by cases hf) ((zpM608 H).toE rfl) D tys A ad ws g as As K hMem hSA hlen hD (by
  obtain ⟨x0, x1, x2, rfl, hp0, hK⟩ := hK0
  obtain ⟨gh, hg, hT⟩ := hp0
  refine ⟨⟨_, rfl, rfl⟩, gh, hg, hT, (fun f hf => by cases hf), fun r g' hr h1 h2 => ?_⟩
  obtain ⟨z, rfl⟩ : ∃ z : Int, r = [(1, z)] := by
    unfold yhR at hr
    rw [if_neg (by decide)] at hr
    exact hr
  exact hK z g' h1 h2)
def yP_hc25 : yPT := fun as g K => ∃ (x0 x1 x2 : Int), as = [(3, 0), (1, x0), (1, x1), (1, x2)] ∧ (yTy zpZ g) ∧ (∀ (r : Int) (g' : yM), (yTy zpZ g') → (yUn zpC177.2.2.2.2 g g') → K [(1, r)] g')
def yC_hc25 : yC := (1, (3, 90), yP_hc25)
theorem yM_hc25 {l : Launch} {Ts : List Cond} {cl : List vw_C} {RO : zRO} (H : zHyp Ts cl RO) : yMet l Ts cl zpZ RO zpMT yC_hc25 := fun D tys A ad ws g as As K hMem hSA hlen hD hK0 => yhavF (C := zpC177) (q0 := 0) (ks := [1, 1, 1]) (fs := []) (rt := 1) zpDj yZk rfl (by decide +kernel) (fun f hf => by cases hf) ((zpM177 H).toE rfl) D tys A ad ws g as As K hMem hSA hlen hD (by
  obtain ⟨x0, x1, x2, rfl, hp0, hK⟩ := hK0
  obtain ⟨gh, hg, hT⟩ := hp0
  refine ⟨⟨_, rfl, rfl⟩, gh, hg, hT, (fun f hf => by cases hf), fun r g' hr h1 h2 => ?_⟩
  obtain ⟨z, rfl⟩ : ∃ z : Int, r = [(1, z)] := by
    unfold yhR at hr
    rw [if_neg (by decide)] at hr
    exact hr
  exact hK z g' h1 h2)
def yP_hm25 : yPT := fun as g K => ∃ (x0 x1 x2 : Int), as = [(3, 90), (1, x0), (1, x1), (1, x2)] ∧ (yTy zpZ g) ∧ (∀ (r : Int) (g' : yM), (yTy zpZ g') → (yUn zpC609.2.2.2.2 g g') → K [(1, r)] g')
def yC_hm25 : yC := (135, (3, 85), yP_hm25)
theorem yM_hm25 {l : Launch} {Ts : List Cond} {cl : List vw_C} {RO : zRO} (H : zHyp Ts cl RO) : yMet l Ts cl zpZ RO zpMT yC_hm25 := fun D tys A ad ws g as As K hMem hSA hlen hD hK0 => yhavF (C := zpC609) (q0 := 90) (ks := [1, 1, 1]) (fs := []) (rt := 1) zpDj yZk rfl (by decide +kernel) (fun f hf => by cases hf) ((zpM609 H).toE rfl) D tys A ad ws g as As K hMem hSA hlen hD (by
  obtain ⟨x0, x1, x2, rfl, hp0, hK⟩ := hK0
  obtain ⟨gh, hg, hT⟩ := hp0
  refine ⟨⟨_, rfl, rfl⟩, gh, hg, hT, (fun f hf => by cases hf), fun r g' hr h1 h2 => ?_⟩
  obtain ⟨z, rfl⟩ : ∃ z : Int, r = [(1, z)] := by
    unfold yhR at hr
    rw [if_neg (by decide)] at hr
    exact hr
  exact hK z g' h1 h2)
def yP_hc26 : yPT := fun as g K => ∃ (x0 x1 : Int), as = [(3, 0), (1, x0), (1, x1)] ∧ (yTy zpZ g) ∧ (∀ (r : Int) (g' : yM), (yTy zpZ g') → (yUn zpC179.2.2.2.2 g g') → K [(1, r)] g')
def yC_hc26 : yC := (32, (3, 85), yP_hc26)
theorem yM_hc26 {l : Launch} {Ts : List Cond} {cl : List vw_C} {RO : zRO} (H : zHyp Ts cl RO) : yMet l Ts cl zpZ RO zpMT yC_hc26 := fun D tys A ad ws g as As K hMem hSA hlen hD hK0 => yhavF (C := zpC179) (q0 := 0) (ks := [1, 1]) (fs := []) (rt := 1) zpDj yZk rfl (by decide +kernel) (fun f hf => by cases hf) ((zpM179 H).toE rfl) D tys A ad ws g as As K hMem hSA hlen hD (by
  obtain ⟨x0, x1, rfl, hp0, hK⟩ := hK0
  obtain ⟨gh, hg, hT⟩ := hp0
  refine ⟨⟨_, rfl, rfl⟩, gh, hg, hT, (fun f hf => by cases hf), fun r g' hr h1 h2 => ?_⟩
  obtain ⟨z, rfl⟩ : ∃ z : Int, r = [(1, z)] := by
    unfold yhR at hr
    rw [if_neg (by decide)] at hr
    exact hr
  exact hK z g' h1 h2)
def yP_hm26 : yPT := fun as g K => ∃ (x0 x1 : Int), as = [(3, 90), (1, x0), (1, x1)] ∧ (yTy zpZ g) ∧ (∀ (r : Int) (g' : yM), (yTy zpZ g') → (yUn zpC610.2.2.2.2 g g') → K [(1, r)] g')
def yC_hm26 : yC := (198, (4, 113), yP_hm26)
theorem yM_hm26 {l : Launch} {Ts : List Cond} {cl : List vw_C} {RO : zRO} (H : zHyp Ts cl RO) : yMet l Ts cl zpZ RO zpMT yC_hm26 := fun D tys A ad ws g as As K hMem hSA hlen hD hK0 => yhavF (C := zpC610) (q0 := 90) (ks := [1, 1]) (fs := []) (rt := 1) zpDj yZk rfl (by decide +kernel) (fun f hf => by cases hf) ((zpM610 H).toE rfl) D tys A ad ws g as As K hMem hSA hlen hD (by
  obtain ⟨x0, x1, rfl, hp0, hK⟩ := hK0
  obtain ⟨gh, hg, hT⟩ := hp0
  refine ⟨⟨_, rfl, rfl⟩, gh, hg, hT, (fun f hf => by cases hf), fun r g' hr h1 h2 => ?_⟩
  obtain ⟨z, rfl⟩ : ∃ z : Int, r = [(1, z)] := by
    unfold yhR at hr
    rw [if_neg (by decide)] at hr
    exact hr
  exact hK z g' h1 h2)
def yP_hc29 : yPT := fun as g K => ∃ (x0 x1 x2 : Int), as = [(3, 0), (1, x0), (1, x1), (1, x2)] ∧ (yTy zpZ g) ∧ (∀ (r : Int) (g' : yM), (yTy zpZ g') → (yUn zpC373.2.2.2.2 g g') → K [(1, r)] g')
def yC_hc29 : yC := (0, (26, 645), yP_hc29)
theorem yM_hc29 {l : Launch} {Ts : List Cond} {cl : List vw_C} {RO : zRO} (H : zHyp Ts cl RO) : yMet l Ts cl zpZ RO zpMT yC_hc29 := fun D tys A ad ws g as As K hMem hSA hlen hD hK0 => yhavF (C := zpC373) (q0 := 0) (ks := [1, 1, 1]) (fs := []) (rt := 1) zpDj yZk rfl (by decide +kernel) (fun f hf => by cases hf) ((zpM373 H).toE rfl) D tys A ad ws g as As K hMem hSA hlen hD (by
  obtain ⟨x0, x1, x2, rfl, hp0, hK⟩ := hK0
  obtain ⟨gh, hg, hT⟩ := hp0
  refine ⟨⟨_, rfl, rfl⟩, gh, hg, hT, (fun f hf => by cases hf), fun r g' hr h1 h2 => ?_⟩
  obtain ⟨z, rfl⟩ : ∃ z : Int, r = [(1, z)] := by
    unfold yhR at hr
    rw [if_neg (by decide)] at hr
    exact hr
  exact hK z g' h1 h2)
def yP_hm29 : yPT := fun as g K => ∃ (x0 x1 x2 : Int), as = [(3, 90), (1, x0), (1, x1), (1, x2)] ∧ (yTy zpZ g) ∧ (∀ (r : Int) (g' : yM), (yTy zpZ g') → (yUn zpC625.2.2.2.2 g g') → K [(1, r)] g')
def yC_hm29 : yC := (132, (10, 242), yP_hm29)
theorem yM_hm29 {l : Launch} {Ts : List Cond} {cl : List vw_C} {RO : zRO} (H : zHyp Ts cl RO) : yMet l Ts cl zpZ RO zpMT yC_hm29 := fun D tys A ad ws g as As K hMem hSA hlen hD hK0 => yhavF (C := zpC625) (q0 := 90) (ks := [1, 1, 1]) (fs := []) (rt := 1) zpDj yZk rfl (by decide +kernel) (fun f hf => by cases hf) ((zpM625 H).toE rfl) D tys A ad ws g as As K hMem hSA hlen hD (by
  obtain ⟨x0, x1, x2, rfl, hp0, hK⟩ := hK0
  obtain ⟨gh, hg, hT⟩ := hp0
  refine ⟨⟨_, rfl, rfl⟩, gh, hg, hT, (fun f hf => by cases hf), fun r g' hr h1 h2 => ?_⟩
  obtain ⟨z, rfl⟩ : ∃ z : Int, r = [(1, z)] := by
    unfold yhR at hr
    rw [if_neg (by decide)] at hr
    exact hr
  exact hK z g' h1 h2)
def yP_hc30 : yPT := fun as g K => ∃ (x0 : Int), as = [(3, 0), (1, x0)] ∧ (yTy zpZ g) ∧ (∀ (r : Int) (g' : yM), (yTy zpZ g') → (yUn zpC375.2.2.2.2 g g') → K [(1, r)] g')
def yC_hc30 : yC := (36, (2, 61), yP_hc30)
theorem yM_hc30 {l : Launch} {Ts : List Cond} {cl : List vw_C} {RO : zRO} (H : zHyp Ts cl RO) : yMet l Ts cl zpZ RO zpMT yC_hc30 := fun D tys A ad ws g as As K hMem hSA hlen hD hK0 => yhavF (C := zpC375) (q0 := 0) (ks := [1]) (fs := []) (rt := 1) zpDj yZk rfl (by decide +kernel) (fun f hf => by cases hf) ((zpM375 H).toE rfl) D tys A ad ws g as As K hMem hSA hlen hD (by
  obtain ⟨x0, rfl, hp0, hK⟩ := hK0
  obtain ⟨gh, hg, hT⟩ := hp0
  refine ⟨⟨_, rfl, rfl⟩, gh, hg, hT, (fun f hf => by cases hf), fun r g' hr h1 h2 => ?_⟩
  obtain ⟨z, rfl⟩ : ∃ z : Int, r = [(1, z)] := by
    unfold yhR at hr
    rw [if_neg (by decide)] at hr
    exact hr
  exact hK z g' h1 h2)
def yP_hm30 : yPT := fun as g K => ∃ (x0 : Int), as = [(3, 90), (1, x0)] ∧ (yTy zpZ g) ∧ (∀ (r : Int) (g' : yM), (yTy zpZ g') → (yUn zpC626.2.2.2.2 g g') → K [(1, r)] g')
def yC_hm30 : yC := (206, (1, 40), yP_hm30)
theorem yM_hm30 {l : Launch} {Ts : List Cond} {cl : List vw_C} {RO : zRO} (H : zHyp Ts cl RO) : yMet l Ts cl zpZ RO zpMT yC_hm30 := fun D tys A ad ws g as As K hMem hSA hlen hD hK0 => yhavF (C := zpC626) (q0 := 90) (ks := [1]) (fs := []) (rt := 1) zpDj yZk rfl (by decide +kernel) (fun f hf => by cases hf) ((zpM626 H).toE rfl) D tys A ad ws g as As K hMem hSA hlen hD (by
  obtain ⟨x0, rfl, hp0, hK⟩ := hK0
  obtain ⟨gh, hg, hT⟩ := hp0
  refine ⟨⟨_, rfl, rfl⟩, gh, hg, hT, (fun f hf => by cases hf), fun r g' hr h1 h2 => ?_⟩
  obtain ⟨z, rfl⟩ : ∃ z : Int, r = [(1, z)] := by
    unfold yhR at hr
    rw [if_neg (by decide)] at hr
    exact hr
  exact hK z g' h1 h2)
def yP_hc34 : yPT := fun as g K => ∃ (x0 x1 : Int), as = [(3, 0), (1, x0), (1, x1)] ∧ (yTy zpZ g) ∧ (∀ (r : Int) (g' : yM), (yTy zpZ g') → (yUn zpC386.2.2.2.2 g g') → K [(2, r)] g')
def yC_hc34 : yC := (10, (4, 106), yP_hc34)
theorem yM_hc34 {l : Launch} {Ts : List Cond} {cl : List vw_C} {RO : zRO} (H : zHyp Ts cl RO) : yMet l Ts cl zpZ RO zpMT yC_hc34 := fun D tys A ad ws g as As K hMem hSA hlen hD hK0 => yhavF (C := zpC386) (q0 := 0) (ks := [1, 1]) (fs := []) (rt := 2) zpDj yZk rfl (by decide +kernel) (fun f hf => by cases hf) ((zpM386 H).toE rfl) D tys A ad ws g as As K hMem hSA hlen hD (by
  obtain ⟨x0, x1, rfl, hp0, hK⟩ := hK0
  obtain ⟨gh, hg, hT⟩ := hp0
  refine ⟨⟨_, rfl, rfl⟩, gh, hg, hT, (fun f hf => by cases hf), fun r g' hr h1 h2 => ?_⟩
  obtain ⟨z, rfl⟩ : ∃ z : Int, r = [(2, z)] := by
    unfold yhR at hr
    rw [if_neg (by decide)] at hr
    exact hr
  exact hK z g' h1 h2)
def yP_hm34 : yPT := fun as g K => ∃ (x0 x1 : Int), as = [(3, 90), (1, x0), (1, x1)] ∧ (yTy zpZ g) ∧ (∀ (r : Int) (g' : yM), (yTy zpZ g') → (yUn zpC633.2.2.2.2 g g') → K [(2, r)] g')
def yC_hm34 : yC := (155, (4, 107), yP_hm34)
theorem yM_hm34 {l : Launch} {Ts : List Cond} {cl : List vw_C} {RO : zRO} (H : zHyp Ts cl RO) : yMet l Ts cl zpZ RO zpMT yC_hm34 := fun D tys A ad ws g as As K hMem hSA hlen hD hK0 => yhavF (C := zpC633) (q0 := 90) (ks := [1, 1]) (fs := []) (rt := 2) zpDj yZk rfl (by decide +kernel) (fun f hf => by cases hf) ((zpM633 H).toE rfl) D tys A ad ws g as As K hMem hSA hlen hD (by
  obtain ⟨x0, x1, rfl, hp0, hK⟩ := hK0
  obtain ⟨gh, hg, hT⟩ := hp0
  refine ⟨⟨_, rfl, rfl⟩, gh, hg, hT, (fun f hf => by cases hf), fun r g' hr h1 h2 => ?_⟩
  obtain ⟨z, rfl⟩ : ∃ z : Int, r = [(2, z)] := by
    unfold yhR at hr
    rw [if_neg (by decide)] at hr
    exact hr
  exact hK z g' h1 h2)
def yP_hc36 : yPT := fun as g K => ∃ (x0 x1 : Int), as = [(3, 0), (1, x0), (1, x1)] ∧ (yTy zpZ g) ∧ (∀ (r : Int) (g' : yM), (yTy zpZ g') → (yUn zpC452.2.2.2.2 g g') → K [(1, r)] g')
def yC_hc36 : yC := (34, (3, 84), yP_hc36)
theorem yM_hc36 {l : Launch} {Ts : List Cond} {cl : List vw_C} {RO : zRO} (H : zHyp Ts cl RO) : yMet l Ts cl zpZ RO zpMT yC_hc36 := fun D tys A ad ws g as As K hMem hSA hlen hD hK0 => yhavF (C := zpC452) (q0 := 0) (ks := [1, 1]) (fs := []) (rt := 1) zpDj yZk rfl (by decide +kernel) (fun f hf => by cases hf) ((zpM452 H).toE rfl) D tys A ad ws g as As K hMem hSA hlen hD (by
  obtain ⟨x0, x1, rfl, hp0, hK⟩ := hK0
  obtain ⟨gh, hg, hT⟩ := hp0
  refine ⟨⟨_, rfl, rfl⟩, gh, hg, hT, (fun f hf => by cases hf), fun r g' hr h1 h2 => ?_⟩
  obtain ⟨z, rfl⟩ : ∃ z : Int, r = [(1, z)] := by
    unfold yhR at hr
    rw [if_neg (by decide)] at hr
    exact hr
  exact hK z g' h1 h2)
def yP_hm36 : yPT := fun as g K => ∃ (x0 x1 : Int), as = [(3, 90), (1, x0), (1, x1)] ∧ (yTy zpZ g) ∧ (∀ (r : Int) (g' : yM), (yTy zpZ g') → (yUn zpC643.2.2.2.2 g g') → K [(1, r)] g')
def yC_hm36 : yC := (201, (3, 85), yP_hm36)
theorem yM_hm36 {l : Launch} {Ts : List Cond} {cl : List vw_C} {RO : zRO} (H : zHyp Ts cl RO) : yMet l Ts cl zpZ RO zpMT yC_hm36 := fun D tys A ad ws g as As K hMem hSA hlen hD hK0 => yhavF (C := zpC643) (q0 := 90) (ks := [1, 1]) (fs := []) (rt := 1) zpDj yZk rfl (by decide +kernel) (fun f hf => by cases hf) ((zpM643 H).toE rfl) D tys A ad ws g as As K hMem hSA hlen hD (by
  obtain ⟨x0, x1, rfl, hp0, hK⟩ := hK0
  obtain ⟨gh, hg, hT⟩ := hp0
  refine ⟨⟨_, rfl, rfl⟩, gh, hg, hT, (fun f hf => by cases hf), fun r g' hr h1 h2 => ?_⟩
  obtain ⟨z, rfl⟩ : ∃ z : Int, r = [(1, z)] := by
    unfold yhR at hr
    rw [if_neg (by decide)] at hr
    exact hr
  exact hK z g' h1 h2)
def yP_hc37 : yPT := fun as g K => ∃ (x0 : Int), as = [(3, 0), (1, x0)] ∧ (yTy zpZ g) ∧ (∀ (r : Int) (g' : yM), (yTy zpZ g') → (yUn zpC453.2.2.2.2 g g') → K [(1, r)] g')
def yC_hc37 : yC := (9, (1, 40), yP_hc37)
theorem yM_hc37 {l : Launch} {Ts : List Cond} {cl : List vw_C} {RO : zRO} (H : zHyp Ts cl RO) : yMet l Ts cl zpZ RO zpMT yC_hc37 := fun D tys A ad ws g as As K hMem hSA hlen hD hK0 => yhavF (C := zpC453) (q0 := 0) (ks := [1]) (fs := []) (rt := 1) zpDj yZk rfl (by decide +kernel) (fun f hf => by cases hf) ((zpM453 H).toE rfl) D tys A ad ws g as As K hMem hSA hlen hD (by
  obtain ⟨x0, rfl, hp0, hK⟩ := hK0
  obtain ⟨gh, hg, hT⟩ := hp0
  refine ⟨⟨_, rfl, rfl⟩, gh, hg, hT, (fun f hf => by cases hf), fun r g' hr h1 h2 => ?_⟩
  obtain ⟨z, rfl⟩ : ∃ z : Int, r = [(1, z)] := by
    unfold yhR at hr
    rw [if_neg (by decide)] at hr
    exact hr
  exact hK z g' h1 h2)
def yP_hm37 : yPT := fun as g K => ∃ (x0 : Int), as = [(3, 90), (1, x0)] ∧ (yTy zpZ g) ∧ (∀ (r : Int) (g' : yM), (yTy zpZ g') → (yUn zpC644.2.2.2.2 g g') → K [(1, r)] g')
def yC_hm37 : yC := (151, (1, 40), yP_hm37)
theorem yM_hm37 {l : Launch} {Ts : List Cond} {cl : List vw_C} {RO : zRO} (H : zHyp Ts cl RO) : yMet l Ts cl zpZ RO zpMT yC_hm37 := fun D tys A ad ws g as As K hMem hSA hlen hD hK0 => yhavF (C := zpC644) (q0 := 90) (ks := [1]) (fs := []) (rt := 1) zpDj yZk rfl (by decide +kernel) (fun f hf => by cases hf) ((zpM644 H).toE rfl) D tys A ad ws g as As K hMem hSA hlen hD (by
  obtain ⟨x0, rfl, hp0, hK⟩ := hK0
  obtain ⟨gh, hg, hT⟩ := hp0
  refine ⟨⟨_, rfl, rfl⟩, gh, hg, hT, (fun f hf => by cases hf), fun r g' hr h1 h2 => ?_⟩
  obtain ⟨z, rfl⟩ : ∃ z : Int, r = [(1, z)] := by
    unfold yhR at hr
    rw [if_neg (by decide)] at hr
    exact hr
  exact hK z g' h1 h2)
