/-! ROWS OF ROWS, made at once: the machine's step (the kit's printed row names what lies outside its reach) -/
/-- a row of m longs -/
def zmI (cL : ClassId) (m : Nat) : Cell := { cls := cL, slots := Array.replicate m (.long 0), vm := .none }
/-- the outer row, its first i places set -/
def zmO (cA : ClassId) (n h : Nat) : Nat → Cell
  | 0 => { cls := cA, slots := Array.replicate n .null, vm := .none }
  | i + 1 => (zmO cA n h i).setSlot i (.ref (h + 1 + i))
/-- the state with i rows made -/
def zmT (T : State) (cA cL : ClassId) (n m : Nat) : Nat → State
  | 0 => T.pushCell (zmO cA n T.heap.size 0)
  | i + 1 => ((zmT T cA cL n m i).pushCell (zmI cL m)).setCell T.heap.size (zmO cA n T.heap.size (i + 1))
theorem zmO_is (cA : ClassId) (n h : Nat) : ∀ i, (zmO cA n h i).cls = cA ∧ (zmO cA n h i).vm = .none ∧ (zmO cA n h i).slots.size = n
  | 0 => ⟨rfl, rfl, by simp [zmO]⟩
  | i + 1 => by
    have h1 := zmO_is cA n h i
    refine ⟨?_, ?_, ?_⟩
    · simp [zmO, Cell.setSlot, h1.1]
    · simp [zmO, Cell.setSlot, h1.2.1]
    · simp [zmO, Cell.setSlot, h1.2.2]
theorem zmO_arr (cA : ClassId) (n h : Nat) : ∀ i : Nat, zmO cA n h i = arrV cA n (fun j => va_rf (if j < i then some (h + 1 + j) else none))
  | 0 => by
    show ({ cls := cA, slots := Array.replicate n .null, vm := .none } : Cell) = _
    rw [arrV_new]
    refine congrArg (arrV cA n) (funext fun j => ?_)
    simp [va_rf]
  | i + 1 => by
    show (zmO cA n h i).setSlot i (.ref (h + 1 + i)) = _
    rw [zmO_arr cA n h i, arrV_store]
    refine congrArg (arrV cA n) (funext fun j => ?_)
    rcases Nat.lt_trichotomy j i with q | q | q
    · simp [updV, Nat.ne_of_lt q, q, Nat.lt_succ_of_lt q]
    · subst q
      simp [updV, va_rf]
    · simp [updV, Nat.ne_of_gt q, Nat.not_lt_of_gt q, show ¬ j < i + 1 by omega]
theorem zmT_is (T : State) (cA cL : ClassId) (n m : Nat) : ∀ i, (zmT T cA cL n m i).heap.size = T.heap.size + 1 + i ∧ (zmT T cA cL n m i).heap[T.heap.size]? = some (zmO cA n T.heap.size i) ∧ (zmT T cA cL n m i).vm = T.vm ∧ (zmT T cA cL n m i).slotsUsed = T.slotsUsed + n + i * m ∧ (∀ a : Addr, a < T.heap.size → (zmT T cA cL n m i).heap[a]? = T.heap[a]?) ∧ ∀ j, j < i → (zmT T cA cL n m i).heap[T.heap.size + 1 + j]? = some (zmI cL m)
  | 0 => by
    refine ⟨by simp [zmT], by simp [zmT], rfl, by simp [zmT, zmO], fun a ha => State.heap_pushCell_of_lt _ _ ha, fun j hj => absurd hj (Nat.not_lt_zero j)⟩
  | i + 1 => by
    obtain ⟨h1, h2, h3, h4, h5, h6⟩ := zmT_is T cA cL n m i
    have hlt : T.heap.size < (zmT T cA cL n m i).heap.size := by omega
    have hb : ((zmT T cA cL n m i).pushCell (zmI cL m)).heap[T.heap.size]? = some (zmO cA n T.heap.size i) := by
      rw [State.heap_pushCell_of_lt (h := hlt)]
      exact h2
    refine ⟨?_, State.heap_setCell_self hb, by simp [zmT, h3], ?_, fun a ha => ?_, fun j hj => ?_⟩
    · simp [zmT, State.setCell, h1]
      omega
    · simp [zmT, h4, zmI, Nat.succ_mul]
      omega
    · show (((zmT T cA cL n m i).pushCell (zmI cL m)).setCell T.heap.size _).heap[a]? = _
      rw [State.heap_setCell_other (Nat.ne_of_gt ha), State.heap_pushCell_of_lt (h := Nat.lt_trans ha hlt)]
      exact h5 a ha
    · show (((zmT T cA cL n m i).pushCell (zmI cL m)).setCell T.heap.size _).heap[T.heap.size + 1 + j]? = _
      rw [State.heap_setCell_other (show T.heap.size ≠ T.heap.size + 1 + j by omega)]
      by_cases e : j = i
      · subst e
        rw [← h1]
        exact State.heap_pushCell_size _ _
      · have hl2 : T.heap.size + 1 + j < (zmT T cA cL n m i).heap.size := by rw [h1]; omega
        rw [State.heap_pushCell_of_lt (h := hl2)]
        exact h6 j (by omega)
theorem zmT_top (T : State) (f : JFrame) (cA cL : ClassId) (n m : Nat) : ∀ i, zmT (T.setTop f) cA cL n m i = (zmT T cA cL n m i).setTop f
  | 0 => rfl
  | i + 1 => by simp only [zmT, zmT_top T f cA cL n m i, State.heap_setTop, State.pushCell_setTop, State.setCell_setTop]
section ZMU
variable {E : CtlPost} {e : Env} {d : Bool} {acts : List Action} {s : State}
theorem zwp_arr {c comp : ClassId} {k : Class} {type : FieldType} {len : Nat} {init : Value} (hk : s.vm.classes[c]? = some k) (hkind : k.kind = .array comp type) (h0 : ¬ len > e.platform.arrayLengthLimit) (hh : ¬ len * componentBytes type > e.platform.maxHeapBytes) (hf : fits type init = true) (hd : init.isDefault = true) {Q : Addr → Pre} (h1 : s.heap.size < e.platform.maxCells) (h2 : s.slotsUsed + len ≤ e.platform.maxSlots) (hq : Q s.heap.size d acts (s.pushCell { cls := c, slots := Array.replicate len init, vm := .none })) : wp (Jvm.newArray c len init) Q E e d acts s := by
  have hfit : ∀ i v, (Array.replicate len init)[i]? = some v → s.fitsSlot c .none i v = true := by
    intro i v hv
    rw [Array.getElem?_replicate] at hv
    split at hv
    · cases hv
      simp [State.fitsSlot, State.slotType?, hk, hkind, hf]
    · cases hv
  have hall : ((Array.replicate len init).all (·.isDefault)) = true := by
    rw [Array.all_replicate]
    split <;> simp [hd]
  have hda : allocActs (Array.replicate len init) s.heap.size acts = acts := by
    unfold allocActs
    rw [if_pos hall]
  simp only [Jvm.newArray, Jvm.arrayFits, wp_bind', W.ask, W.ite, h0, if_false, wp_pure', W.theClass, hk, hkind, hh, W.alloc, W.stop, Option.some.injEq, exists_eq_left', Array.size_replicate, hda]
  rw [if_neg (by omega)]
  exact ⟨h1, h2, hfit, hq⟩
theorem zwp_make {c comp cc : ClassId} {k kc : Class} {n m : Int32} (hk : s.vm.classes[c]? = some k) (hkind : k.kind = .array comp (.array .long)) (hkc : s.vm.classes[comp]? = some kc) (hkindc : kc.kind = .array cc .long) (hn : ¬ n < 0) (hm : ¬ m < 0)
    (a1 : ¬ n.toNatClampNeg > e.platform.arrayLengthLimit) (a2 : ¬ n.toNatClampNeg * componentBytes (.array .long) > e.platform.maxHeapBytes) (b1 : ¬ m.toNatClampNeg > e.platform.arrayLengthLimit) (b2 : ¬ m.toNatClampNeg * componentBytes .long > e.platform.maxHeapBytes) (hc : s.heap.size + 1 + n.toNatClampNeg ≤ e.platform.maxCells) (hs : s.slotsUsed + n.toNatClampNeg + n.toNatClampNeg * m.toNatClampNeg ≤ e.platform.maxSlots)
    {Q : Addr → Pre} (hq : ∀ d' acts', Q s.heap.size d' acts' (zmT s c comp n.toNatClampNeg m.toNatClampNeg n.toNatClampNeg)) : wp (multianewarray.make c [n, m]) Q E e d acts s := by
  have hfind : ([m].find? (· < 0)) = none := by simp [hm]
  rw [multianewarray.make]
  simp only [wp_bind', W.ite, hn, if_false, wp_pure', W.theClass, hk, hkind, Option.some.injEq, exists_eq_left']
  refine zwp_arr hk hkind a1 a2 rfl rfl (by omega) (by have := Nat.zero_le (n.toNatClampNeg * m.toNatClampNeg); omega) ?_
  simp only [hfind]
  rw [ite_self, wp_bind', Std.Legacy.Range.forIn_eq_forIn_range']
  have hsz : ([:n.toNatClampNeg] : Std.Legacy.Range).size = n.toNatClampNeg := by simp [Std.Legacy.Range.size]
  rw [hsz]
  show wp (forIn (List.range' 0 n.toNatClampNeg 1) PUnit.unit _) _ E e d acts _
  refine wp_forIn_inv (fun rest s' => ∃ i, i ≤ n.toNatClampNeg ∧ rest = List.range' i (n.toNatClampNeg - i) ∧ s' = zmT s c comp n.toNatClampNeg m.toNatClampNeg i) _ _ ⟨0, Nat.zero_le _, rfl, rfl⟩ ?_ ?_
  · rintro x rest s' d' acts' Q' ⟨i, hi, hl, rfl⟩ hnext
    have hlt : i < n.toNatClampNeg := by
      by_cases q : i < n.toNatClampNeg
      · exact q
      · rw [show n.toNatClampNeg - i = 0 by omega] at hl
        cases hl
    rw [show n.toNatClampNeg - i = (n.toNatClampNeg - (i + 1)) + 1 by omega, List.range'_succ] at hl
    cases hl
    obtain ⟨f1, f2, f3, f4, -, -⟩ := zmT_is s c comp n.toNatClampNeg m.toNatClampNeg x
    obtain ⟨o1, o2, o3⟩ := zmO_is c n.toNatClampNeg s.heap.size x
    have hmul : x * m.toNatClampNeg + m.toNatClampNeg ≤ n.toNatClampNeg * m.toNatClampNeg := by
      have := Nat.mul_le_mul_right m.toNatClampNeg (show x + 1 ≤ n.toNatClampNeg from hlt)
      rw [Nat.succ_mul] at this
      exact this
    simp only [wp_bind']
    rw [multianewarray.make]
    simp only [wp_bind', W.ite, hm, if_false, wp_pure', W.theClass, f3, hkc, hkindc, Option.some.injEq, exists_eq_left']
    refine zwp_arr (by rw [f3]; exact hkc) hkindc b1 b2 rfl rfl (by rw [f1]; omega) (by rw [f4]; omega) ?_
    have hlt0 : s.heap.size < (zmT s c comp n.toNatClampNeg m.toNatClampNeg x).heap.size := by rw [f1]; omega
    simp only [wp_bind', W.writeLoc, wp_pure']
    refine ⟨zmO c n.toNatClampNeg s.heap.size x, by rw [State.heap_pushCell_of_lt (h := hlt0)]; exact f2, by rw [o2]; simp, by rw [o3]; exact hlt, ?_, hnext _ _ _ ⟨x + 1, hlt, rfl, ?_⟩⟩
    · rw [o1, o2]
      simp [State.fitsSlot, State.slotType?, f3, hk, hkind, fits]
    · rw [f1]
      rfl
  · rintro s' d' acts' ⟨i, hi, hl, rfl⟩
    have hiN : i = n.toNatClampNeg := by
      by_cases q : i < n.toNatClampNeg
      · rw [show n.toNatClampNeg - i = (n.toNatClampNeg - (i + 1)) + 1 by omega, List.range'_succ] at hl
        cases hl
      · omega
    subst hiN
    simp only [wp_pure']
    exact hq _ _
end ZMU
/-- the word of an array over rows -/
theorem zover {args : Array Value} {first s : State} {o : Option Outcome} {idx : List Nat} (h : (Cond.arrayOver (.array .long)).holds args first o s idx = true) : ∃ comp c k, s.vm.findClass (FieldType.array .long).toString = some comp ∧ (s.vm.classes.findIdx? fun (x : Class) => match x.kind with | .array component _ => component == comp | _ => false) = some c ∧ s.vm.classes[c]? = some k ∧ k.kind = .array comp (.array .long) ∧ s.vm.findClass ("[" ++ (FieldType.array .long).toString) = some c := by
  simp only [Cond.holds, Cond.value, beq_iff_eq] at h
  cases hc : s.vm.findClass (FieldType.array .long).toString with
  | none => simp [hc] at h
  | some comp =>
    simp only [hc, Option.bind_some, Option.bind_eq_some_iff, Option.map_eq_some_iff] at h
    obtain ⟨c, hi, k, hk, hb⟩ := h
    have hp := (Array.findIdx?_eq_some_iff_getElem.mp hi).2.1
    rw [(Array.getElem?_eq_some_iff.mp hk).2] at hp
    cases hkind : k.kind with
    | array component ty =>
      rw [hkind] at hb hp
      simp at hb hp
      exact ⟨comp, c, k, rfl, hi, hk, by rw [hkind, hp, hb.1], hb.2⟩
    | _ => rw [hkind] at hb; simp at hb
theorem zover_moved {u U : State} (hvm : u.vm.Alike U.vm) (h : (Cond.arrayOver (.array .long)).before #[] u = true) : (Cond.arrayOver (.array .long)).before #[] U = true := by
  obtain ⟨comp, c, k, h1, h2, h3, h4, h5⟩ := zover h
  obtain ⟨k', hk', he⟩ := hvm.2.2 _ _ h3
  have hkind : k'.kind = .array comp (.array .long) := by rw [he]; exact h4
  have f1 : U.vm.findClass (FieldType.array .long).toString = some comp := by rw [hvm.findClass]; exact h1
  have f2 : U.vm.findClass ("[" ++ (FieldType.array .long).toString) = some c := by rw [hvm.findClass]; exact h5
  unfold Cond.before
  simp only [Cond.holds, Cond.value, f1, Option.bind_some, beq_iff_eq]
  rw [Option.bind_eq_some_iff]
  refine ⟨c, (hvm.findIdx?_eqK _ (fun _ => rfl)).trans h2, ?_⟩
  simp [hk', hkind, f2]
section ZMV
variable {p : Program} {l : Launch} {e : Env} {R : Room} {s : State} {m : MethodId} {args : Array Value} {below : List Frame} {meth : Method} {c : Code} {T : State} {locs : List Loc} {cells slots : Nat}
theorem zmT_stand (X : Stand p l e R s m args below meth c T locs cells slots) (cA cL : ClassId) (n k : Nat) : ∀ i, Stand p l e R s m args below meth c (zmT T cA cL n k i) (locs ++ (List.range i).map fun j => ⟨T.heap.size, j⟩) (cells + 1 + i) (slots + n + i * k)
  | 0 => by
    have h := X.pushed (zmO cA n T.heap.size 0)
    rw [(zmO_is cA n T.heap.size 0).2.2] at h
    simpa [zmT] using h
  | i + 1 => by
    have Xi := zmT_stand X cA cL n k i
    obtain ⟨f1, f2, f3, f4, -, -⟩ := zmT_is T cA cL n k i
    have hcell : ((zmT T cA cL n k i).pushCell (zmI cL k)).heap[T.heap.size]? = some (zmO cA n T.heap.size i) := by
      have hl2 : T.heap.size < (zmT T cA cL n k i).heap.size := by rw [f1]; omega
      rw [State.heap_pushCell_of_lt (h := hl2)]
      exact f2
    have h := (Xi.pushed (zmI cL k)).stored hcell i (.ref (T.heap.size + 1 + i))
    rw [show (zmI cL k).slots.size = k by simp [zmI]] at h
    rw [show (locs ++ (List.range (i + 1)).map fun j => (⟨T.heap.size, j⟩ : Loc)) = (locs ++ (List.range i).map fun j => (⟨T.heap.size, j⟩ : Loc)) ++ [⟨T.heap.size, i⟩] by simp [List.range_succ, List.append_assoc], show slots + n + (i + 1) * k = slots + n + i * k + k by rw [Nat.succ_mul]; omega]
    exact h
theorem zmulti (X : Stand p l e R s m args below meth c T locs cells slots) (hexec : p.tables.exec = Jvm.exec) {own : String} {index : Nat} (hown : s.vm.findClass own = some m.cls) (hclink : (Cond.classLink own index ("[" ++ (FieldType.array .long).toString)).before args s = true) (hover : (Cond.arrayOver (.array .long)).before args s = true) (harr : (Cond.arrayClass .long).before args s = true)
    {g : JFrame} (hg : g.method = m) (hdg : decode c.code g.pc = .ok (.multianewarray index 2, 4)) {rest : List Value} (hstack : g.stack = .int 60 :: .int 6 :: rest) (hcells : cells + (1 + 6) ≤ R.cells) (hslots : slots + (6 + 6 * 60) ≤ R.slots) :
    ∃ (vm₁ : Vm) (cA cL : ClassId), s.vm.findClass ("[" ++ (FieldType.array .long).toString) = some cA ∧ s.vm.findClass (FieldType.array .long).toString = some cL ∧ ArrOfT s cA (.array .long) ∧ Stand p l e R s m args below meth c (zmT (T.setVm vm₁) cA cL 6 60 6) locs (cells + 1 + 6) (slots + 6 + 6 * 60) ∧
      ∀ target, Steps p.tables e below ((zmT (T.setVm vm₁) cA cL 6 60 6).setTop { g with pc := g.pc + 4, stack := .ref T.heap.size :: rest }) target → Steps p.tables e below (T.setTop g) target := by
  subst hg
  have hpl : e.platform.magicAccessors = ({} : Platform).magicAccessors := by rw [X.admits.platform]
  obtain ⟨comp, cA, kA, hcomp, -, hkA, hkindA, hnameA⟩ := zover hover
  obtain ⟨comp', kC, cc, hcomp', hkC, hkindC⟩ := Cond.arrayClass_spec harr
  have ecomp : comp' = comp := Option.some.inj (hcomp'.symm.trans hcomp)
  subst ecomp
  obtain ⟨c0, hfc0, hcl⟩ := Cond.classLink_spec hown hclink e.platform hpl
  cases hnameA.symm.trans hfc0
  obtain ⟨hg₁, hwarm₁, hready₁⟩ := State.classEntry (e := e) X.warmed hcl
  generalize T.vm.noted g.method.cls index (.cls cA) = vm₁ at hg₁ hwarm₁ hready₁
  have hal : s.vm.Alike vm₁ := hwarm₁.alike
  obtain ⟨kA₁, hkA₁, heA⟩ := hal.2.2 _ _ hkA
  obtain ⟨kC₁, hkC₁, heC⟩ := hal.2.2 _ _ hkC
  have hkindA₁ : kA₁.kind = .array comp' (.array .long) := by rw [heA]; exact hkindA
  have hkindC₁ : kC₁.kind = .array cc .long := by rw [heC]; exact hkindC
  have X₁ := X.noted hwarm₁
  obtain ⟨hr1, hr2⟩ := X.roomAbove hcells hslots
  have XF := zmT_stand X₁ cA comp' 6 60 6
  refine ⟨vm₁, cA, comp', hnameA, hcomp, (fun N9 z9 => ⟨(fun q hq => by cases hq), kA, hkA, comp', hkindA⟩), XF.dropFresh (fun x hx => ?_), fun target hrest => ?_⟩
  · obtain ⟨j, -, rfl⟩ := List.mem_map.mp hx
    exact X.heapGrown
  have n6 : (6 : Int32).toNatClampNeg = 6 := by decide
  have n60 : (60 : Int32).toNatClampNeg = 60 := by decide
  have b4 : componentBytes (.array .long) = 4 := rfl
  have b8 : componentBytes .long = 8 := rfl
  jvm_step X.here [hexec, hdg]
  simp only [multianewarray.sem, wp_bind', W.resolveClassAt_links (State.method?_setTop g X.here.top) hg₁]
  rw [W.popN, if_neg (by decide)]
  refine ⟨g, State.topJava?_setTop' (s := T.setVm vm₁) g X.here.top, [.int 6, .int 60], rest, rfl, hstack, ?_⟩
  simp only [List.mapM_cons, List.mapM_nil, wp_bind', wp_pure']
  refine zwp_make (n := 6) (m := 60) (k := kA₁) (kc := kC₁) (comp := comp') (cc := cc) hkA₁ hkindA₁ hkC₁ hkindC₁ (by decide) (by decide) (by rw [Launch.admits_arrayLengthLimit X.admits, n6]; decide) (by rw [Launch.admits_maxHeapBytes X.admits, n6, b4]; decide) (by rw [Launch.admits_arrayLengthLimit X.admits, n60]; decide) (by rw [Launch.admits_maxHeapBytes X.admits, n60, b8]; decide) (by rw [n6]; show T.heap.size + 1 + _ ≤ _; omega) (by rw [n6, n60]; show T.slotsUsed + _ + _ ≤ _; omega) (fun d' acts' => ?_)
  rw [n6, n60]
  have eS : ((T.setTop g).setVm vm₁).setTop { g with stack := rest } = (T.setVm vm₁).setTop { g with stack := rest } := by
    show ((T.setVm vm₁).setTop g).setTop _ = _
    rw [State.setTop_setTop]
  rw [eS, zmT_top]
  simp only [wp_bind', W.mark, W.pushRef, State.topJava?_setTop' _ XF.here.top, Option.some.injEq, exists_eq_left', State.setTop_setTop, State.heap_setTop]
  intro acts
  simp [jvm, XF.here.top]
  exact hrest
end ZMV
