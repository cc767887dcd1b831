/-! THE CHECKER'S STEP -/
/-- of a class: its fields' instructions (entry, class, field, kind of store), its constants, its calls (entry, sort, method, arguments, class), its statics and texts (entry, cell) -/
abbrev zPool : Type := List (Nat × Nat × Nat × Nat) × List (Nat × Int) × List (Nat × Int) × List (Nat × Nat × Nat × Nat × Nat) × List (Nat × Nat) × List (Nat × Nat)
/-- of a contract: names at its start, exits, writes, room, answer (0 none, 1 int, 2 boolean, 3 long) -/
abbrev zCo : Type := Nat × List zTm × zWr × (Nat × Nat) × Nat
/-- a contract in the table: its method's number, room, entry, exits, writes -/
abbrev zC : Type := Nat × (Nat × Nat) × zTm × List zTm × zWr
abbrev zMT : Type := Nat → MethodName × ByteArray × Nat × Option FieldType
def zKof (MT : zMT) (C : zC) : zK := ((MT C.1).1, (MT C.1).2.1, (MT C.1).2.2.1, (MT C.1).2.2.2, C.2.1, C.2.2.1, C.2.2.2.1, C.2.2.2.2)
def ztgt (pc : Nat) (off : Int) : Nat := ((pc : Int) + off).toNat
def zon1 (x : Nat × zS) : Option (List (Nat × zS)) := some [x]
def zi_c (tag pc : Nat) (sg : zS) (n lo hi : Int) (len el : Nat) : Option (List (Nat × zS)) := if len = el ∧ lo ≤ n ∧ n ≤ hi then some [(pc + el, (sg.1, sg.2.1, sg.2.2.1, (tag, 0, n, 0, 0) :: sg.2.2.2.1, sg.2.2.2.2.1, sg.2.2.2.2.2))] else none
def zi_ld (tag pc : Nat) (sg : zS) (i len el : Nat) : Option (List (Nat × zS)) := match sg.2.2.1[i]? with
  | some a => if len = el ∧ a.1 = tag then some [(pc + el, (sg.1, sg.2.1, sg.2.2.1, (tag, a.2.1, a.2.2.1, 0, 0) :: sg.2.2.2.1, sg.2.2.2.2.1, sg.2.2.2.2.2))] else none
  | none => none
def zi_st (tag pc : Nat) (sg : zS) (i len el : Nat) : Option (List (Nat × zS)) := match sg.2.2.2.1 with
  | a :: r => if len = el ∧ a.1 = tag ∧ i < sg.2.2.1.length then some [(pc + el, (sg.1, sg.2.1, zst1 sg.2.2.1 i (tag, a.2.1, a.2.2.1, 0, 0), r, sg.2.2.2.2.1, sg.2.2.2.2.2))] else none
  | [] => none
def zi_stL (pc : Nat) (sg : zS) (i len el : Nat) : Option (List (Nat × zS)) := match sg.2.2.2.1 with
  | a :: r => if len = el ∧ a.1 = 2 ∧ i + 1 < sg.2.2.1.length then some [(pc + el, (sg.1, sg.2.1, zst2 sg.2.2.1 i (2, a.2.1, a.2.2.1, 0, 0), r, sg.2.2.2.2.1, sg.2.2.2.2.2))] else none
  | [] => none
def zi_iinc (pc : Nat) (sg : zS) (i : Nat) (d : Int) (len : Nat) : Option (List (Nat × zS)) := match sg.2.2.1[i]? with
  | some a => if len = 3 ∧ a.1 = 1 ∧ -2147483648 ≤ d ∧ d ≤ 2147483647 then some [(pc + 3, zinc sg i (zaddI sg.1 (a.2.1, a.2.2.1) (0, d)))] else none
  | none => none
def zi_bin (f : List zIv → Nat × Int → Nat × Int → zRes) (pc : Nat) (sg : zS) (len : Nat) : Option (List (Nat × zS)) := match sg.2.2.2.1 with
  | b :: a :: r => if len = 1 ∧ b.1 = 1 ∧ a.1 = 1 then some [(pc + 1, zpush 1 (sg.1, sg.2.1, sg.2.2.1, r, sg.2.2.2.2.1, sg.2.2.2.2.2) r (f sg.1 (a.2.1, a.2.2.1) (b.2.1, b.2.2.1)))] else none
  | _ => none
def zi_binL (f : List zIv → Nat × Int → Nat × Int → zRes) (pc : Nat) (sg : zS) (len : Nat) : Option (List (Nat × zS)) := match sg.2.2.2.1 with
  | b :: a :: r => if len = 1 ∧ b.1 = 2 ∧ a.1 = 2 then some [(pc + 1, zpush 2 (sg.1, sg.2.1, sg.2.2.1, r, sg.2.2.2.2.1, sg.2.2.2.2.2) r (f sg.1 (a.2.1, a.2.2.1) (b.2.1, b.2.2.1)))] else none
  | _ => none
def zi_shL (pc : Nat) (sg : zS) (len : Nat) : Option (List (Nat × zS)) := match sg.2.2.2.1 with
  | b :: a :: r => if len = 1 ∧ b.1 = 1 ∧ a.1 = 2 then some [(pc + 1, zpush 2 (sg.1, sg.2.1, sg.2.2.1, r, sg.2.2.2.2.1, sg.2.2.2.2.2) r (.inr zFullL))] else none
  | _ => none
def zi_dr (op pc : Nat) (sg : zS) (len : Nat) : Option (List (Nat × zS)) := match sg.2.2.2.1 with
  | b :: a :: r => if len = 1 ∧ b.1 = 1 ∧ a.1 = 1 then (match zdr op (sg.1, sg.2.1, sg.2.2.1, r, sg.2.2.2.2.1, sg.2.2.2.2.2) r (a.2.1, a.2.2.1) (b.2.1, b.2.2.1) with
    | some s' => some [(pc + 1, s')]
    | none => none) else none
  | _ => none
def zi_una (iv : zIv) (pc : Nat) (sg : zS) (len : Nat) : Option (List (Nat × zS)) := match sg.2.2.2.1 with
  | a :: r => if len = 1 ∧ a.1 = 1 then some [(pc + 1, zpush 1 (sg.1, sg.2.1, sg.2.2.1, r, sg.2.2.2.2.1, sg.2.2.2.2.2) r (.inr iv))] else none
  | _ => none
def zi_i2l (pc : Nat) (sg : zS) (len : Nat) : Option (List (Nat × zS)) := match sg.2.2.2.1 with
  | a :: r => if len = 1 ∧ a.1 = 1 then some [(pc + 1, (sg.1, sg.2.1, sg.2.2.1, (2, a.2.1, a.2.2.1, 0, 0) :: r, sg.2.2.2.2.1, sg.2.2.2.2.2))] else none
  | _ => none
def zi_l2i (pc : Nat) (sg : zS) (len : Nat) : Option (List (Nat × zS)) := match sg.2.2.2.1 with
  | a :: r => if len = 1 ∧ a.1 = 2 then some [(pc + 1, zpush 1 (sg.1, sg.2.1, sg.2.2.1, r, sg.2.2.2.2.1, sg.2.2.2.2.2) r (zl2i sg.1 (a.2.1, a.2.2.1)))] else none
  | _ => none
def zi_lcmp (pc : Nat) (sg : zS) (len : Nat) : Option (List (Nat × zS)) := match sg.2.2.2.1 with
  | b :: a :: r => if len = 1 ∧ b.1 = 2 ∧ a.1 = 2 then some [(pc + 1, (sg.1, sg.2.1, sg.2.2.1, (4, a.2.1, a.2.2.1, b.2.1, b.2.2.1) :: r, sg.2.2.2.2.1, sg.2.2.2.2.2))] else none
  | _ => none
/-- two ways on -/
def ztwo (op pc tgt : Nat) (sg : zS) (r : List zAV) (a b : Nat × Int) : List (Nat × zS) :=
  [(tgt, ((zas op sg.1 sg.2.1 a b).1, (zas op sg.1 sg.2.1 a b).2, sg.2.2.1, r, sg.2.2.2.2.1, sg.2.2.2.2.2)), (pc + 3, ((zas (zopn op) sg.1 sg.2.1 a b).1, (zas (zopn op) sg.1 sg.2.1 a b).2, sg.2.2.1, r, sg.2.2.2.2.1, sg.2.2.2.2.2))]
def zi_icmp (op pc : Nat) (sg : zS) (off : Int) (len : Nat) : Option (List (Nat × zS)) := match sg.2.2.2.1 with
  | b :: a :: r => if len = 3 ∧ b.1 = 1 ∧ a.1 = 1 ∧ (pc : Int) + off = (ztgt pc off : Int) then some (ztwo op pc (ztgt pc off) sg r (a.2.1, a.2.2.1) (b.2.1, b.2.2.1)) else none
  | _ => none
def zi_if (op pc : Nat) (sg : zS) (off : Int) (len : Nat) : Option (List (Nat × zS)) := match sg.2.2.2.1 with
  | a :: r => if len = 3 ∧ (pc : Int) + off = (ztgt pc off : Int) then (if a.1 = 1 then some (ztwo op pc (ztgt pc off) sg r (a.2.1, a.2.2.1) (0, 0)) else if a.1 = 4 then some (ztwo op pc (ztgt pc off) sg r (a.2.1, a.2.2.1) (a.2.2.2.1, a.2.2.2.2)) else none) else none
  | _ => none
def zi_goto (pc : Nat) (sg : zS) (off : Int) (len : Nat) : Option (List (Nat × zS)) := if len = 3 ∧ (pc : Int) + off = (ztgt pc off : Int) then some [(ztgt pc off, sg)] else none
def zi_dup (pc : Nat) (sg : zS) (len : Nat) : Option (List (Nat × zS)) := match sg.2.2.2.1 with
  | a :: r => if len = 1 ∧ a.1 ≠ 0 ∧ a.1 ≠ 2 then some [(pc + 1, (sg.1, sg.2.1, sg.2.2.1, a :: a :: r, sg.2.2.2.2.1, sg.2.2.2.2.2))] else none
  | _ => none
def zi_pop (pc : Nat) (sg : zS) (len : Nat) : Option (List (Nat × zS)) := match sg.2.2.2.1 with
  | a :: r => if len = 1 ∧ a.1 ≠ 0 ∧ a.1 ≠ 2 then some [(pc + 1, (sg.1, sg.2.1, sg.2.2.1, r, sg.2.2.2.2.1, sg.2.2.2.2.2))] else none
  | _ => none
def zi_pop2 (pc : Nat) (sg : zS) (len : Nat) : Option (List (Nat × zS)) := match sg.2.2.2.1 with
  | a :: r => if len = 1 ∧ a.1 = 2 then some [(pc + 1, (sg.1, sg.2.1, sg.2.2.1, r, sg.2.2.2.2.1, sg.2.2.2.2.2))] else none
  | _ => none
def zsw (pc : Nat) (sg : zS) (r : List zAV) (a : Nat × Int) (lo : Int) : Nat → List Int → List (Nat × zS)
  | _, [] => []
  | i, off :: offs => (ztgt pc off, ((zas 0 sg.1 sg.2.1 a (0, lo + i)).1, (zas 0 sg.1 sg.2.1 a (0, lo + i)).2, sg.2.2.1, r, sg.2.2.2.2.1, sg.2.2.2.2.2)) :: zsw pc sg r a lo (i + 1) offs
def zi_tsw (pc : Nat) (sg : zS) (dflt lo hi : Int) (offs : List Int) : Option (List (Nat × zS)) := match sg.2.2.2.1 with
  | a :: r => if a.1 = 1 ∧ (offs.length : Int) = hi - lo + 1 ∧ (pc : Int) + dflt = (ztgt pc dflt : Int) ∧ offs.all (fun o => decide ((pc : Int) + o = (ztgt pc o : Int))) = true then
      some ((ztgt pc dflt, ((zas 2 sg.1 sg.2.1 (a.2.1, a.2.2.1) (0, lo)).1, (zas 2 sg.1 sg.2.1 (a.2.1, a.2.2.1) (0, lo)).2, sg.2.2.1, r, sg.2.2.2.2.1, sg.2.2.2.2.2)) :: (ztgt pc dflt, ((zas 4 sg.1 sg.2.1 (a.2.1, a.2.2.1) (0, hi)).1, (zas 4 sg.1 sg.2.1 (a.2.1, a.2.2.1) (0, hi)).2, sg.2.2.1, r, sg.2.2.2.2.1, sg.2.2.2.2.2)) :: zsw pc sg r (a.2.1, a.2.2.1) lo 0 offs) else none
  | _ => none
def zi_lsw (pc : Nat) (sg : zS) (dflt : Int) (ps : List (Int × Int)) : Option (List (Nat × zS)) := match sg.2.2.2.1 with
  | a :: r => if a.1 = 1 ∧ (ps.zip (ps.drop 1)).all (fun (a, next) => a.1 < next.1) = true ∧ (pc : Int) + dflt = (ztgt pc dflt : Int) ∧ ps.all (fun o => decide ((pc : Int) + o.2 = (ztgt pc o.2 : Int))) = true then
      some ((ztgt pc dflt, (zcuts sg.1 (a.2.1, a.2.2.1) ps, sg.2.1, sg.2.2.1, r, sg.2.2.2.2.1, sg.2.2.2.2.2)) :: ps.map (fun q => (ztgt pc q.2, ((zas 0 sg.1 sg.2.1 (a.2.1, a.2.2.1) (0, q.1)).1, (zas 0 sg.1 sg.2.1 (a.2.1, a.2.2.1) (0, q.1)).2, sg.2.2.1, r, sg.2.2.2.2.1, sg.2.2.2.2.2)))) else none
  | _ => none
/-- the numbers from one on -/
def zspl (lo : Int) (n : Nat) : List Int := (List.range n).map (fun (i : Nat) => lo + (i : Int))
def zi_get (Z : zZ) (P : zPool) (pc : Nat) (sg : zS) (idx len : Nat) : Option (List (Nat × zS)) := match sg.2.2.2.1, P.1.find? (fun f => f.1 == idx) with
  | a :: r, some f => if len = 3 ∧ a.1 = 3 then (match zty Z sg.1 (a.2.1, a.2.2.1) with
    | some (0, ci, _, fts) => (match fts[f.2.2.1]? with
      | some ft => if ci = f.2.1 then (if ft.1 = 7 ∧ zff sg.2.2.2.2.1 a.2.1 a.2.2.1 f.2.2.1 = none then some ((zspl ft.2.1 (ft.2.2 - ft.2.1 + 1).toNat).map (fun v => (pc + 3, (sg.1, sg.2.1, sg.2.2.1, (1, 0, v, 0, 0) :: r, (a.2.1, a.2.2.1, f.2.2.1, (1, 0, v, 0, 0)) :: sg.2.2.2.2.1, sg.2.2.2.2.2)))) else match zread Z (sg.1, sg.2.1, sg.2.2.1, r, sg.2.2.2.2.1, sg.2.2.2.2.2) r (a.2.1, a.2.2.1) f.2.2.1 ft with
        | some s' => some [(pc + 3, s')]
        | none => none) else none
      | none => none)
    | _ => none) else none
  | _, _ => none
def zi_put (Z : zZ) (P : zPool) (wr : zWr) (pc : Nat) (sg : zS) (idx len : Nat) : Option (List (Nat × zS)) := match sg.2.2.2.1, P.1.find? (fun f => f.1 == idx) with
  | v :: a :: r, some f => if len = 3 ∧ a.1 = 3 ∧ f.2.2.2 ≤ 2 then (match zty Z sg.1 (a.2.1, a.2.2.1) with
    | some (0, ci, _, fts) => (match fts[f.2.2.1]? with
      | some ft => if ci = f.2.1 ∧ zwt Z sg.1 sg.2.1 (a.2.1, a.2.2.1) ft v = true ∧ zcovB wr sg.1 (a.2.1, a.2.2.1) f.2.2.1 = true ∧ zfitB sg.1 f.2.2.2 v = true then some [(pc + 3, (sg.1, sg.2.1, sg.2.2.1, r, (a.2.1, a.2.2.1, f.2.2.1, v) :: zfk sg.1 sg.2.2.2.2.1 (a.2.1, a.2.2.1) f.2.2.1, sg.2.2.2.2.2))] else none
      | none => none)
    | _ => none) else none
  | _, _ => none
/-- what a table that nobody writes can hold -/
def zrsI (r : List Int) (i : Nat × Int) (env : List zIv) : zRes := if zcst env i = true then .inl (0, r.getD (zlo env i.1 + i.2).toNat 0) else .inr (r.map (fun v => (v, v)))
def zi_iald (Z : zZ) (RS : List (List Int)) (pc : Nat) (sg : zS) (len : Nat) : Option (List (Nat × zS)) := match sg.2.2.2.1 with
  | i :: a :: r => if len = 1 ∧ i.1 = 1 ∧ a.1 = 3 then (if a.2.1 = 0 ∧ 1000 ≤ a.2.2.1 then (match RS[(a.2.2.1 - 1000).toNat]? with
      | some tb => if zbds sg.1 sg.2.1 (i.2.1, i.2.2.1) tb.length = true ∧ tb.all (fun v => decide (-2147483648 ≤ v) && decide (v ≤ 2147483647)) = true then some [(pc + 1, zpush 1 (sg.1, sg.2.1, sg.2.2.1, r, sg.2.2.2.2.1, sg.2.2.2.2.2) r (zrsI tb (i.2.1, i.2.2.1) sg.1))] else none
      | none => none)
    else (match zty Z sg.1 (a.2.1, a.2.2.1) with
    | some (1, _, n, ft :: _) => if zbds sg.1 sg.2.1 (i.2.1, i.2.2.1) n = true then (match zaread Z (sg.1, sg.2.1, sg.2.2.1, r, sg.2.2.2.2.1, sg.2.2.2.2.2) r (a.2.1, a.2.2.1) (i.2.1, i.2.2.1) ft with
        | some s' => some [(pc + 1, s')]
        | none => none) else none
    | _ => none)) else none
  | _ => none
def zi_bald (Z : zZ) (pc : Nat) (sg : zS) (len : Nat) : Option (List (Nat × zS)) := match sg.2.2.2.1 with
  | i :: a :: r => if len = 1 ∧ i.1 = 1 ∧ a.1 = 3 then (match zty Z sg.1 (a.2.1, a.2.2.1) with
    | some (2, _, n, ft :: _) => if zbds sg.1 sg.2.1 (i.2.1, i.2.2.1) n = true then (match zaread Z (sg.1, sg.2.1, sg.2.2.1, r, sg.2.2.2.2.1, sg.2.2.2.2.2) r (a.2.1, a.2.2.1) (i.2.1, i.2.2.1) ft with
        | some s' => some [(pc + 1, s')]
        | none => none) else none
    | _ => none) else none
  | _ => none
def zi_lald (Z : zZ) (pc : Nat) (sg : zS) (len : Nat) : Option (List (Nat × zS)) := match sg.2.2.2.1 with
  | i :: a :: r => if len = 1 ∧ i.1 = 1 ∧ a.1 = 3 then (match zty Z sg.1 (a.2.1, a.2.2.1) with
    | some (3, _, n, _) => if zbds sg.1 sg.2.1 (i.2.1, i.2.2.1) n = true then (match zaread Z (sg.1, sg.2.1, sg.2.2.1, r, sg.2.2.2.2.1, sg.2.2.2.2.2) r (a.2.1, a.2.2.1) (i.2.1, i.2.2.1) (1, 0, 0) with
        | some s' => some [(pc + 1, s')]
        | none => none) else none
    | _ => none) else none
  | _ => none
def zi_aald (Z : zZ) (pc : Nat) (sg : zS) (len : Nat) : Option (List (Nat × zS)) := match sg.2.2.2.1 with
  | i :: a :: r => if len = 1 ∧ i.1 = 1 ∧ a.1 = 3 then (match zty Z sg.1 (a.2.1, a.2.2.1) with
    | some (tg, _, n, ft :: _) => if (tg = 4 ∨ tg = 5) ∧ zbds sg.1 sg.2.1 (i.2.1, i.2.2.1) n = true then some [(pc + 1, (sg.1, sg.2.1, sg.2.2.1, (3, i.2.1, i.2.2.1 + (ft.2.1.toNat : Int), 0, 0) :: r, sg.2.2.2.2.1, sg.2.2.2.2.2))] else none
    | _ => none) else none
  | _ => none
def zi_iast (Z : zZ) (wr : zWr) (pc : Nat) (sg : zS) (len : Nat) : Option (List (Nat × zS)) := match sg.2.2.2.1 with
  | v :: i :: a :: r => if len = 1 ∧ v.1 = 1 ∧ i.1 = 1 ∧ a.1 = 3 then (match zty Z sg.1 (a.2.1, a.2.2.1) with
    | some (1, _, n, [ft]) => if zbds sg.1 sg.2.1 (i.2.1, i.2.2.1) n = true ∧ zwt Z sg.1 sg.2.1 (a.2.1, a.2.2.1) ft v = true ∧ zawC wr sg.1 (a.2.1, a.2.2.1) (i.2.1, i.2.2.1) = true then some [(pc + 1, (sg.1, sg.2.1, sg.2.2.1, r, zawF sg.1 sg.2.2.2.2.1 (a.2.1, a.2.2.1) (i.2.1, i.2.2.1) v, sg.2.2.2.2.2))] else none
    | _ => none) else none
  | _ => none
def zi_bast (Z : zZ) (wr : zWr) (pc : Nat) (sg : zS) (len : Nat) : Option (List (Nat × zS)) := match sg.2.2.2.1 with
  | v :: i :: a :: r => if len = 1 ∧ v.1 = 1 ∧ i.1 = 1 ∧ a.1 = 3 then (match zty Z sg.1 (a.2.1, a.2.2.1) with
    | some (2, _, n, fts) => if fts = [(0, -128, 127)] ∧ zbds sg.1 sg.2.1 (i.2.1, i.2.2.1) n = true ∧ zcovA wr sg.1 (a.2.1, a.2.2.1) = true then some [(pc + 1, (sg.1, sg.2.1, sg.2.2.1, r, zfkA sg.1 sg.2.2.2.2.1 (a.2.1, a.2.2.1), sg.2.2.2.2.2))] else none
    | _ => none) else none
  | _ => none
def zi_last (Z : zZ) (wr : zWr) (pc : Nat) (sg : zS) (len : Nat) : Option (List (Nat × zS)) := match sg.2.2.2.1 with
  | v :: i :: a :: r => if len = 1 ∧ v.1 = 2 ∧ i.1 = 1 ∧ a.1 = 3 then (match zty Z sg.1 (a.2.1, a.2.2.1) with
    | some (3, _, n, _) => if zbds sg.1 sg.2.1 (i.2.1, i.2.2.1) n = true ∧ zcovA wr sg.1 (a.2.1, a.2.2.1) = true then some [(pc + 1, (sg.1, sg.2.1, sg.2.2.1, r, zfkA sg.1 sg.2.2.2.2.1 (a.2.1, a.2.2.1), sg.2.2.2.2.2))] else none
    | _ => none) else none
  | _ => none
/-- a static, or a text: its cell -/
def zi_cell (tb : List (Nat × Nat)) (pc : Nat) (sg : zS) (idx len el : Nat) : Option (List (Nat × zS)) := match tb.find? (fun f => f.1 == idx) with
  | some f => if len = el then some [(pc + el, (sg.1, sg.2.1, sg.2.2.1, (3, 0, (f.2 : Int), 0, 0) :: sg.2.2.2.1, sg.2.2.2.2.1, sg.2.2.2.2.2))] else none
  | none => none
def zi_ldc (tb : List (Nat × Int)) (tag pc : Nat) (sg : zS) (idx len el : Nat) : Option (List (Nat × zS)) := match tb.find? (fun f => f.1 == idx) with
  | some f => if len = el then some [(pc + el, (sg.1, sg.2.1, sg.2.2.1, (tag, 0, f.2, 0, 0) :: sg.2.2.2.1, sg.2.2.2.2.1, sg.2.2.2.2.2))] else none
  | none => none
/-- reading ahead: a fact that a template asks for -/
def ztouch (Z : zZ) (env : List zIv) (cd : List zCd) (fa : List zFa) (a : Nat × Int) (j : Nat) : List zIv × List zFa := match zff fa a.1 a.2 j with
  | some _ => (env, fa)
  | none => (match zty Z env a with
    | some (0, _, _, fts) => (match fts[j]? with
      | some ft => if (zrdT Z env cd a ft).1 = 9 ∨ env.length ≤ a.1 then (env, fa) else (match (zrdT Z env cd a ft).2 with
        | .inl b => (env, (a.1, a.2, j, ((zrdT Z env cd a ft).1, b.1, b.2, 0, 0)) :: fa)
        | .inr iv => (env ++ [iv], (a.1, a.2, j, ((zrdT Z env cd a ft).1, env.length, 0, 0, 0)) :: fa))
      | none => (env, fa))
    | _ => (env, fa))
def zpref (Z : zZ) (cd : List zCd) (L st : List zAV) (me : List zMe) : List zIv → List zFa → List (Nat × Int) → List zSrc → List zIv × List zFa
  | env, fa, _, [] => (env, fa)
  | env, fa, acc, sr :: r => if sr.1 = 2 then (match acc[sr.2.1]? with
      | some a => (match zsrc ((ztouch Z env cd fa (a.1, a.2 + sr.2.2.1) sr.2.2.2).1, cd, L, st, (ztouch Z env cd fa (a.1, a.2 + sr.2.2.1) sr.2.2.2).2, me) acc sr with
        | some b => zpref Z cd L st me (ztouch Z env cd fa (a.1, a.2 + sr.2.2.1) sr.2.2.2).1 (ztouch Z env cd fa (a.1, a.2 + sr.2.2.1) sr.2.2.2).2 (acc ++ [b]) r
        | none => (env, fa))
      | none => (env, fa))
    else (match zsrc (env, cd, L, st, fa, me) acc sr with
      | some b => zpref Z cd L st me env fa (acc ++ [b]) r
      | none => (env, fa))
/-- the receiver is of this class -/
def zrcv (Z : zZ) (env : List zIv) (a : Nat × Int) (ci : Nat) : Bool := match zty Z env a with
  | some (0, c, _, _) => c == ci
  | _ => false
/-- one contract tried at a call -/
def zone (Z : zZ) (MT : zMT) (wr : zWr) (rm : Nat × Nat) (chk : List zIv → Bool) (sg : zS) (avs rest : List zAV) (C : zC) : Option (List zS) :=
  if (zlay avs).length ≤ (MT C.1).2.2.1 ∧ C.2.1.1 + 1 ≤ rm.1 ∧ 8 + ((MT C.1).2.2.1 + 11) + C.2.1.2 ≤ rm.2 ∧ zwrB wr C.2.2.2.2 = true ∧ C.2.2.2.1.all (fun t => zno4 t.2) = true then
    (match zinst ((zpref Z sg.2.1 (zlayP avs (MT C.1).2.2.1) [] sg.2.2.2.2.2 sg.1 sg.2.2.2.2.1 (zpre Z.2.2) C.2.2.1.1).1, sg.2.1, zlayP avs (MT C.1).2.2.1, [], (zpref Z sg.2.1 (zlayP avs (MT C.1).2.2.1) [] sg.2.2.2.2.2 sg.1 sg.2.2.2.2.1 (zpre Z.2.2) C.2.2.1.1).2, sg.2.2.2.2.2) (zpre Z.2.2) C.2.2.1.1 with
      | some ins => if chk (zpref Z sg.2.1 (zlayP avs (MT C.1).2.2.1) [] sg.2.2.2.2.2 sg.1 sg.2.2.2.2.1 (zpre Z.2.2) C.2.2.1.1).1 = true ∧ zmB ((zpref Z sg.2.1 (zlayP avs (MT C.1).2.2.1) [] sg.2.2.2.2.2 sg.1 sg.2.2.2.2.1 (zpre Z.2.2) C.2.2.1.1).1, sg.2.1, zlayP avs (MT C.1).2.2.1, [], (zpref Z sg.2.1 (zlayP avs (MT C.1).2.2.1) [] sg.2.2.2.2.2 sg.1 sg.2.2.2.2.1 (zpre Z.2.2) C.2.2.1.1).2, sg.2.2.2.2.2) ins C.2.2.1.2 = true then
          some ((C.2.2.2.1.filter (fun t => zalB (zpref Z sg.2.1 (zlayP avs (MT C.1).2.2.1) [] sg.2.2.2.2.2 sg.1 sg.2.2.2.2.1 (zpre Z.2.2) C.2.2.1.1).1 ins t.2.1)).map (fun t => zpost ((zpref Z sg.2.1 (zlayP avs (MT C.1).2.2.1) [] sg.2.2.2.2.2 sg.1 sg.2.2.2.2.1 (zpre Z.2.2) C.2.2.1.1).1, sg.2.1, sg.2.2.1, rest, (zpref Z sg.2.1 (zlayP avs (MT C.1).2.2.1) [] sg.2.2.2.2.2 sg.1 sg.2.2.2.2.1 (zpre Z.2.2) C.2.2.1.1).2, sg.2.2.2.2.2) rest ins C.2.2.2.2 t.2)) else none
      | none => none)
  else none
def zany (f : zC → Option (List zS)) : List zC → Option (List zS)
  | [] => none
  | C :: r => match f C with
    | some x => some x
    | none => zany f r
/-- a stretch of one array onto another of its sort: within both -/
def zcopB (Z : zZ) (env : List zIv) (n dp d sp sr : Nat × Int) : Bool := decide (0 ≤ zlo env n.1 + n.2) && (decide (0 ≤ zlo env dp.1 + dp.2) && (decide (0 ≤ zlo env sp.1 + sp.2) && (match zty Z env sr, zty Z env d with
  | some (1, _, n0, f0), some (1, _, n1, f1) => decide (f0 = f1) && (f0.all (fun t => t.1 == 0) && (decide (zhi env sp.1 + sp.2 + (zhi env n.1 + n.2) ≤ (n0 : Int)) && decide (zhi env dp.1 + dp.2 + (zhi env n.1 + n.2) ≤ (n1 : Int))))
  | some (3, _, n0, _), some (3, _, n1, _) => decide (zhi env sp.1 + sp.2 + (zhi env n.1 + n.2) ≤ (n0 : Int)) && decide (zhi env dp.1 + dp.2 + (zhi env n.1 + n.2) ≤ (n1 : Int))
  | _, _ => false)))
def zok8 (st : List zAV) : Bool := decide ((st.map zcat).sum ≤ 8) && st.all (fun a => !(a.1 == 0))
def zi_call (Z : zZ) (P : zPool) (MT : zMT) (CS : List zC) (wr : zWr) (rm : Nat × Nat) (virt : Bool) (pc : Nat) (sg : zS) (idx len : Nat) : Option (List (Nat × zS)) := match P.2.2.2.1.find? (fun f => f.1 == idx) with
  | some q =>
    if len = 3 ∧ virt = true ∧ q.2.1 = 0 then
      (match sg.2.2.2.1.drop q.2.2.2.1 with
        | a :: r => if a.1 = 3 ∧ (sg.2.2.2.1.take q.2.2.2.1).length = q.2.2.2.1 ∧ (sg.2.2.2.1.take q.2.2.2.1).all (fun a => !(a.1 == 0)) = true ∧ zok8 r = true then
            (zany (fun C => if C.1 = q.2.2.1 then zone Z MT wr rm (fun e1 => zrcv Z e1 (a.2.1, a.2.2.1) q.2.2.2.2) sg ((3, a.2.1, a.2.2.1, a.2.2.2.1, a.2.2.2.2) :: (sg.2.2.2.1.take q.2.2.2.1).reverse) r C else none) CS).map (fun l => l.map (fun s' => (pc + 3, s'))) else none
        | [] => none)
    else if len = 3 ∧ virt = false ∧ (q.2.1 = 1 ∨ q.2.1 = 2) then
      (if (sg.2.2.2.1.take q.2.2.2.1).length = q.2.2.2.1 ∧ (sg.2.2.2.1.take q.2.2.2.1).all (fun a => !(a.1 == 0)) = true ∧ zok8 (sg.2.2.2.1.drop q.2.2.2.1) = true then
        (zany (fun C => if C.1 = q.2.2.1 then zone Z MT wr rm (fun _ => true) sg (sg.2.2.2.1.take q.2.2.2.1).reverse (sg.2.2.2.1.drop q.2.2.2.1) C else none) CS).map (fun l => l.map (fun s' => (pc + 3, s'))) else none)
    else if len = 3 ∧ virt = true ∧ q.2.1 = 3 then
      (match sg.2.2.2.1 with
        | i :: a :: r => if i.1 = 1 ∧ a = (3, 0, 2000, 0, 0) ∧ zok8 r = true then some [(pc + 3, zpush 1 (sg.1, sg.2.1, sg.2.2.1, r, sg.2.2.2.2.1, sg.2.2.2.2.2) r (.inr [(-1, 7)]))] else none
        | _ => none)
    else if len = 3 ∧ virt = false ∧ q.2.1 = 4 then
      (match sg.2.2.2.1 with
        | n :: dp :: d :: sp :: sr :: r => if n.1 = 1 ∧ dp.1 = 1 ∧ d.1 = 3 ∧ sp.1 = 1 ∧ sr.1 = 3 ∧ zok8 r = true ∧ 1 ≤ rm.1 ∧ 1000 ≤ rm.2 ∧ zcopB Z sg.1 (n.2.1, n.2.2.1) (dp.2.1, dp.2.2.1) (d.2.1, d.2.2.1) (sp.2.1, sp.2.2.1) (sr.2.1, sr.2.2.1) = true ∧ zcovA wr sg.1 (d.2.1, d.2.2.1) = true then some [(pc + 3, (sg.1, sg.2.1, sg.2.2.1, r, zfkA sg.1 sg.2.2.2.2.1 (d.2.1, d.2.2.1), sg.2.2.2.2.2))] else none
        | _ => none)
    else none
  | none => none
/-- an exit tried at a return -/
def zpov : Nat → List zIv → List zIv → Bool
  | n + 1, a :: r, b :: s => a.any (fun p => b.any (fun q => zleI p.1 q.2 && zleI q.1 p.2)) && zpov n r s
  | _, _, _ => true
def zsq1 (env : List zIv) (t a : zAV) : Bool := if t.1 = 1 ∧ (t.2.1 = 0 ∧ (a.1 = 1 ∧ zcst env (a.2.1, 0) = true)) then zleI t.2.2.1 (zlo env a.2.1 + a.2.2.1) && zleI (zlo env a.2.1 + a.2.2.1) t.2.2.1 else true
def zsqL (env : List zIv) : List zAV → List zAV → Bool
  | t :: ts, a :: as => zsq1 env t a && zsqL env ts as
  | _, _ => true
def zex1 (Z : zZ) (P0 : Nat) (sg : zS) (sv : List zAV) (t : zTm) : Bool :=
  zsqL sg.1 t.2.2.2.2.1 sv && (zpov P0 sg.1 t.2.1 && (match zinst ((zpref Z sg.2.1 [] sv sg.2.2.2.2.2 sg.1 sg.2.2.2.2.1 (zpre P0) t.1).1, sg.2.1, [], sv, (zpref Z sg.2.1 [] sv sg.2.2.2.2.2 sg.1 sg.2.2.2.2.1 (zpre P0) t.1).2, sg.2.2.2.2.2) (zpre P0) t.1 with
  | some ins => zmB ((zpref Z sg.2.1 [] sv sg.2.2.2.2.2 sg.1 sg.2.2.2.2.1 (zpre P0) t.1).1, sg.2.1, [], sv, (zpref Z sg.2.1 [] sv sg.2.2.2.2.2 sg.1 sg.2.2.2.2.1 (zpre P0) t.1).2, sg.2.2.2.2.2) ins t.2
  | none => false))
def zi_ret (Z : zZ) (Co : zCo) (sg : zS) (rc len : Nat) : Option (List (Nat × zS)) := match rc, sg.2.2.2.1 with
  | 0, [] => if len = 1 ∧ Co.2.2.2.2 = 0 ∧ Co.2.1.any (zex1 Z Co.1 sg []) = true then some [] else none
  | 1, [a] => if len = 1 ∧ a.1 = 1 ∧ (Co.2.2.2.2 = 1 ∨ (Co.2.2.2.2 = 2 ∧ zin sg.1 (a.2.1, a.2.2.1) [(0, 1)] = true)) ∧ Co.2.1.any (zex1 Z Co.1 sg [a]) = true then some [] else none
  | 2, [a] => if len = 1 ∧ a.1 = 2 ∧ Co.2.2.2.2 = 3 ∧ Co.2.1.any (zex1 Z Co.1 sg [a]) = true then some [] else none
  | _, _ => none

def zstep (Z : zZ) (RS : List (List Int)) (P : zPool) (MT : zMT) (CS : List zC) (Co : zCo) (pc : Nat) (sg : zS) (ins : Instr) (len : Nat) : Option (List (Nat × zS)) := match ins with
  | .iconst n => zi_c 1 pc sg n (-2147483648) 2147483647 len 1
  | .bipush n => zi_c 1 pc sg n (-128) 127 len 2
  | .sipush n => zi_c 1 pc sg n (-32768) 32767 len 3
  | .lconst n => zi_c 2 pc sg (((n : Fin 2) : Nat) : Int) 0 1 len 1
  | .ldc i => (match P.2.2.2.2.2.find? (fun f => f.1 == i) with
    | some _ => zi_cell P.2.2.2.2.2 pc sg i len 2
    | none => zi_ldc P.2.1 1 pc sg i len 2)
  | .ldc_w i => zi_ldc P.2.1 1 pc sg i len 3
  | .ldc2_w i => zi_ldc P.2.2.1 2 pc sg i len 3
  | .iload_n k => zi_ld 1 pc sg k.val len 1
  | .iload i => zi_ld 1 pc sg i len 2
  | .lload_n k => zi_ld 2 pc sg k.val len 1
  | .lload i => zi_ld 2 pc sg i len 2
  | .aload_n k => zi_ld 3 pc sg k.val len 1
  | .aload i => zi_ld 3 pc sg i len 2
  | .istore_n k => zi_st 1 pc sg k.val len 1
  | .istore i => zi_st 1 pc sg i len 2
  | .astore_n k => zi_st 3 pc sg k.val len 1
  | .astore i => zi_st 3 pc sg i len 2
  | .lstore_n k => zi_stL pc sg k.val len 1
  | .lstore i => zi_stL pc sg i len 2
  | .iinc i d => zi_iinc pc sg i d len
  | .iadd => zi_bin zaddI pc sg len
  | .isub => zi_bin zsub pc sg len
  | .imul => zi_bin zmul pc sg len
  | .iand => zi_bin zand pc sg len
  | .ior => zi_bin (fun _ _ _ => .inr zFull) pc sg len
  | .ixor => zi_bin (fun _ _ _ => .inr zFull) pc sg len
  | .ishl => zi_bin zshl pc sg len
  | .ishr => zi_bin (fun _ _ _ => .inr zFull) pc sg len
  | .iushr => zi_bin (fun env _ b => zushr env b) pc sg len
  | .idiv => zi_dr 0 pc sg len
  | .irem => zi_dr 1 pc sg len
  | .ineg => zi_una zFull pc sg len
  | .i2b => zi_una [(-128, 127)] pc sg len
  | .i2s => zi_una [(-32768, 32767)] pc sg len
  | .i2c => zi_una [(0, 65535)] pc sg len
  | .i2l => zi_i2l pc sg len
  | .l2i => zi_l2i pc sg len
  | .lcmp => zi_lcmp pc sg len
  | .ladd => zi_binL zaddL pc sg len
  | .land => zi_binL (fun _ _ _ => .inr zFullL) pc sg len
  | .lor => zi_binL (fun _ _ _ => .inr zFullL) pc sg len
  | .lshl => zi_shL pc sg len
  | .lshr => zi_shL pc sg len
  | .lushr => zi_shL pc sg len
  | .dup => zi_dup pc sg len
  | .pop => zi_pop pc sg len
  | .pop2 => zi_pop2 pc sg len
  | .goto off => zi_goto pc sg off len
  | .tableswitch d lo hi offs => zi_tsw pc sg d lo hi offs.toList
  | .lookupswitch d ps => zi_lsw pc sg d ps.toList
  | .getfield i => zi_get Z P pc sg i len
  | .putfield i => zi_put Z P Co.2.2.1 pc sg i len
  | .getstatic i => zi_cell P.2.2.2.2.1 pc sg i len 3
  | .iaload => zi_iald Z RS pc sg len
  | .baload => zi_bald Z pc sg len
  | .laload => zi_lald Z pc sg len
  | .aaload => zi_aald Z pc sg len
  | .iastore => zi_iast Z Co.2.2.1 pc sg len
  | .bastore => zi_bast Z Co.2.2.1 pc sg len
  | .lastore => zi_last Z Co.2.2.1 pc sg len
  | .invokevirtual i => zi_call Z P MT CS Co.2.2.1 Co.2.2.2.1 true pc sg i len
  | .invokestatic i => zi_call Z P MT CS Co.2.2.1 Co.2.2.2.1 false pc sg i len
  | .return_ => zi_ret Z Co sg 0 len
  | .ireturn => zi_ret Z Co sg 1 len
  | .lreturn => zi_ret Z Co sg 2 len
  | .if_icmp .eq off => zi_icmp 0 pc sg off len
  | .ifCond .eq off => zi_if 0 pc sg off len
  | .if_icmp .ne off => zi_icmp 1 pc sg off len
  | .ifCond .ne off => zi_if 1 pc sg off len
  | .if_icmp .lt off => zi_icmp 2 pc sg off len
  | .ifCond .lt off => zi_if 2 pc sg off len
  | .if_icmp .ge off => zi_icmp 3 pc sg off len
  | .ifCond .ge off => zi_if 3 pc sg off len
  | .if_icmp .gt off => zi_icmp 4 pc sg off len
  | .ifCond .gt off => zi_if 4 pc sg off len
  | .if_icmp .le off => zi_icmp 5 pc sg off len
  | .ifCond .le off => zi_if 5 pc sg off len
  | _ => none
