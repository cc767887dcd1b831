/-! THE PURE MACHINE: values are numbers with a tag (1 int, 2 long, 3 a cell by its place, 100 + e the z-th cell of the e-th range), memory is a table of numbers; a walk of a method as a sentence on them -/
abbrev yV : Type := Nat × Int
abbrev yM : Type := Nat → Nat → Int
abbrev yPT : Type := List yV → yM → (List yV → yM → Prop) → Prop
abbrev yNx : Type := Nat → List yV → List yV → yM → Prop
def yset (g : yM) (q j : Nat) (v : Int) : yM := fun a b => if a = q ∧ b = j then v else g a b
/-- a stretch copied -/
def ycpy (g : yM) (q u : Nat) (sp dp n : Nat) : yM := fun a b => if a = q ∧ (dp ≤ b ∧ b < dp + n) then g u (sp + (b - dp)) else g a b
def yw (z : Int) : Int := z.bmod 4294967296
def ywl (z : Int) : Int := z.bmod 18446744073709551616
def yb (f : Int32 → Int32 → Int32) (x y : Int) : Int := (f (Int32.ofInt x) (Int32.ofInt y)).toInt
def ybl (f : Int64 → Int64 → Int64) (x y : Int) : Int := (f (Int64.ofInt x) (Int64.ofInt y)).toInt
def ysh (f : Int64 → Int32 → Int64) (x y : Int) : Int := (f (Int64.ofInt x) (Int32.ofInt y)).toInt
def yu (f : Int32 → Int32) (x : Int) : Int := (f (Int32.ofInt x)).toInt
def ycmp (x y : Int) : Int := if x < y then -1 else if x = y then 0 else 1
def yget : List yV → Nat → yV
  | [], _ => (0, 0)
  | a :: _, 0 => a
  | _ :: r, n + 1 => yget r n
/-- a place written: the rest goes on with the new list -/
def ysetK : List yV → Nat → yV → (List yV → Prop) → Prop
  | [], _, _, _ => False
  | _ :: r, 0, v, k => k (v :: r)
  | a :: r, n + 1, v, k => ysetK r n v (fun r' => k (a :: r'))
/-- what lies ahead of it, if it is a long, is lost -/
def ykillK (L : List yV) (i : Nat) (k : List yV → Prop) : Prop := match i with
  | 0 => k L
  | j + 1 => bif Nat.beq (yget L j).1 2 then ysetK L j (0, 0) k else k L
def yst1K (L : List yV) (i : Nat) (a : yV) (k : List yV → Prop) : Prop := ykillK L i (fun L1 => ysetK L1 i a k)
def yst2K (L : List yV) (i : Nat) (a : yV) (k : List yV → Prop) : Prop := ykillK L i (fun L1 => ysetK L1 (i + 1) (0, 0) (fun L2 => ysetK L2 i a k))
/-- where a reference points -/
def ypl (Z : zZ) (t : Nat) (z : Int) : Nat := bif Nat.beq t 3 then z.toNat else (Z.1.getD (t - 100) (0, 0, 0, 0, 0, [])).1 + z.toNat
def yty (Z : zZ) (t : Nat) (z : Int) : Option zCT := bif Nat.beq t 3 then (Z.1.find? (fun e => Nat.ble e.1 z.toNat && Nat.ble z.toNat e.2.1)).map (fun e => e.2.2) else bif Nat.ble 100 t then (Z.1[t - 100]?).map (fun e => e.2.2) else none
/-- the number of the range that begins at a place and has room for so many -/
def yrng : List (Nat × Nat × zCT) → Nat → Nat → Nat → Option Nat
  | [], _, _, _ => none
  | e :: r, b, n, i => bif Nat.beq e.1 b && Nat.ble (b + n) (e.2.1 + 1) then some i else yrng r b n (i + 1)
/-- a field's value by its type -/
def yfld (g : yM) (q j : Nat) (ft : zFT) : yV := match ft with
  | (1, _, _) => (2, g q j)
  | (2, lo, hi) => bif zleI hi lo then (3, lo) else (3, g q j)
  | (4, d, _) => (3, ((q + d.toNat : Nat) : Int))
  | _ => (1, g q j)
def yisI (k : Nat) : Bool := Nat.beq k 1 || (Nat.beq k 6 || Nat.beq k 7)
def yi_c (tag pc : Nat) (nx : yNx) (L st : List yV) (g : yM) (n lo hi : Int) (len el : Nat) : Prop := bif Nat.beq len el && (zleI lo n && zleI n hi) then nx (pc + el) L ((tag, n) :: st) g else False
def yi_ldc (tb : List (Nat × Int)) (tag pc : Nat) (nx : yNx) (L st : List yV) (g : yM) (idx len el : Nat) : Prop := match tb.find? (fun f => f.1 == idx) with
  | some f => bif Nat.beq len el then nx (pc + el) L ((tag, f.2) :: st) g else False
  | none => False
def yi_cell (tb : List (Nat × Nat)) (pc : Nat) (nx : yNx) (L st : List yV) (g : yM) (idx len el : Nat) : Prop := match tb.find? (fun f => f.1 == idx) with
  | some f => bif Nat.beq len el then nx (pc + el) L ((3, (f.2 : Int)) :: st) g else False
  | none => False
def yi_ld (tag pc : Nat) (nx : yNx) (L st : List yV) (g : yM) (i len el : Nat) : Prop := match yget L i with
  | (t, z) => bif Nat.beq len el && Nat.beq t tag then nx (pc + el) L ((tag, z) :: st) g else False
def yi_ldA (pc : Nat) (nx : yNx) (L st : List yV) (g : yM) (i len el : Nat) : Prop := match yget L i with
  | (t, z) => bif Nat.beq len el && (Nat.beq t 3 || Nat.ble 100 t) then nx (pc + el) L ((t, z) :: st) g else False
def yi_st (tag pc : Nat) (nx : yNx) (L st : List yV) (g : yM) (i len el : Nat) : Prop := match st with
  | (t, z) :: r => bif Nat.beq len el && Nat.beq t tag then yst1K L i (tag, z) (fun L' => nx (pc + el) L' r g) else False
  | [] => False
def yi_stA (pc : Nat) (nx : yNx) (L st : List yV) (g : yM) (i len el : Nat) : Prop := match st with
  | (t, z) :: r => bif Nat.beq len el && (Nat.beq t 3 || Nat.ble 100 t) then yst1K L i (t, z) (fun L' => nx (pc + el) L' r g) else False
  | [] => False
def yi_stL (pc : Nat) (nx : yNx) (L st : List yV) (g : yM) (i len el : Nat) : Prop := match st with
  | (t, z) :: r => bif Nat.beq len el && Nat.beq t 2 then yst2K L i (2, z) (fun L' => nx (pc + el) L' r g) else False
  | [] => False
def yi_iinc (pc : Nat) (nx : yNx) (L st : List yV) (g : yM) (i : Nat) (d : Int) (len : Nat) : Prop := match yget L i with
  | (t, z) => bif Nat.beq len 3 && (Nat.beq t 1 && (zleI (-2147483648) d && zleI d 2147483647)) then yst1K L i (1, yw (z + d)) (fun L' => nx (pc + 3) L' st g) else False
def yi_bin (tag : Nat) (f : Int → Int → Int) (pc : Nat) (nx : yNx) (L st : List yV) (g : yM) (len : Nat) : Prop := match st with
  | (t2, y) :: (t1, x) :: r => bif Nat.beq len 1 && (Nat.beq t2 tag && Nat.beq t1 tag) then nx (pc + 1) L ((tag, f x y) :: r) g else False
  | _ => False
def yi_shL (f : Int → Int → Int) (pc : Nat) (nx : yNx) (L st : List yV) (g : yM) (len : Nat) : Prop := match st with
  | (t2, y) :: (t1, x) :: r => bif Nat.beq len 1 && (Nat.beq t2 1 && Nat.beq t1 2) then nx (pc + 1) L ((2, f x y) :: r) g else False
  | _ => False
def yi_dr (f : Int → Int → Int) (pc : Nat) (nx : yNx) (L st : List yV) (g : yM) (len : Nat) : Prop := match st with
  | (t2, y) :: (t1, x) :: r => bif Nat.beq len 1 && (Nat.beq t2 1 && Nat.beq t1 1) then y ≠ 0 ∧ nx (pc + 1) L ((1, f x y) :: r) g else False
  | _ => False
def yi_una (t0 tag : Nat) (f : Int → Int) (pc : Nat) (nx : yNx) (L st : List yV) (g : yM) (len : Nat) : Prop := match st with
  | (t, x) :: r => bif Nat.beq len 1 && Nat.beq t t0 then nx (pc + 1) L ((tag, f x) :: r) g else False
  | _ => False
def yi_lcmp (pc : Nat) (nx : yNx) (L st : List yV) (g : yM) (len : Nat) : Prop := match st with
  | (t2, y) :: (t1, x) :: r => bif Nat.beq len 1 && (Nat.beq t2 2 && Nat.beq t1 2) then nx (pc + 1) L ((1, ycmp x y) :: r) g else False
  | _ => False
def yi_dup (pc : Nat) (nx : yNx) (L st : List yV) (g : yM) (len : Nat) : Prop := match st with
  | (t, x) :: r => bif Nat.beq len 1 && (Nat.beq t 1 || (Nat.beq t 3 || Nat.ble 100 t)) then nx (pc + 1) L ((t, x) :: (t, x) :: r) g else False
  | _ => False
def yi_pop (pc : Nat) (nx : yNx) (L st : List yV) (g : yM) (len : Nat) : Prop := match st with
  | (t, x) :: r => bif Nat.beq len 1 && (Nat.beq t 1 || (Nat.beq t 3 || Nat.ble 100 t)) then nx (pc + 1) L r g else False
  | _ => False
def yi_pop2 (pc : Nat) (nx : yNx) (L st : List yV) (g : yM) (len : Nat) : Prop := match st with
  | (t, x) :: r => bif Nat.beq len 1 && Nat.beq t 2 then nx (pc + 1) L r g else False
  | _ => False
/-- where a jump goes -/
def yjmp (pc : Nat) (off : Int) (k : Nat → Prop) : Prop := bif zleI 0 ((pc : Int) + off) then k ((pc : Int) + off).toNat else False
def yi_goto (pc : Nat) (nx : yNx) (L st : List yV) (g : yM) (off : Int) (len : Nat) : Prop := bif Nat.beq len 3 then yjmp pc off (fun t => nx t L st g) else False
def yi_icmp (c : Int → Int → Prop) (pc : Nat) (nx : yNx) (L st : List yV) (g : yM) (off : Int) (len : Nat) : Prop := match st with
  | (t2, y) :: (t1, x) :: r => bif Nat.beq len 3 && (Nat.beq t2 1 && Nat.beq t1 1) then yjmp pc off (fun t => (c x y → nx t L r g) ∧ (¬ c x y → nx (pc + 3) L r g)) else False
  | _ => False
def yi_if (c : Int → Int → Prop) (pc : Nat) (nx : yNx) (L st : List yV) (g : yM) (off : Int) (len : Nat) : Prop := match st with
  | (t1, x) :: r => bif Nat.beq len 3 && Nat.beq t1 1 then yjmp pc off (fun t => (c x 0 → nx t L r g) ∧ (¬ c x 0 → nx (pc + 3) L r g)) else False
  | _ => False
def yi_sw (pc : Nat) (nx : yNx) (L r : List yV) (g : yM) (x lo : Int) : List Int → Prop
  | [] => True
  | o :: os => yjmp pc o (fun t => x = lo → nx t L r g) ∧ yi_sw pc nx L r g x (lo + 1) os
def yi_tsw (pc : Nat) (nx : yNx) (L st : List yV) (g : yM) (d lo hi : Int) (offs : List Int) : Prop := match st with
  | (t1, x) :: r => bif Nat.beq t1 1 then (offs.length : Int) = hi - lo + 1 ∧ (yjmp pc d (fun t => x < lo ∨ hi < x → nx t L r g) ∧ yi_sw pc nx L r g x lo offs) else False
  | _ => False
def yi_ls (pc : Nat) (nx : yNx) (L r : List yV) (g : yM) (x : Int) : List (Int × Int) → Prop
  | [] => True
  | o :: os => yjmp pc o.2 (fun t => x = o.1 → nx t L r g) ∧ yi_ls pc nx L r g x os
def yi_lsw (pc : Nat) (nx : yNx) (L st : List yV) (g : yM) (d : Int) (ps : List (Int × Int)) : Prop := match st with
  | (t1, x) :: r => bif Nat.beq t1 1 && (ps.zip (ps.drop 1)).all (fun (a, next) => a.1 < next.1) then yjmp pc d (fun t => (∀ q ∈ ps, q.1 ≠ x) → nx t L r g) ∧ yi_ls pc nx L r g x ps else False
  | _ => False
def yi_get (Z : zZ) (P : zPool) (pc : Nat) (nx : yNx) (L st : List yV) (g : yM) (idx len : Nat) : Prop := match st with
  | (t, z) :: r => (match P.1.find? (fun f => f.1 == idx), yty Z t z with
    | some f, some (0, ci, _, fts) => (match fts[f.2.2.1]? with
      | some ft => bif Nat.beq len 3 && Nat.beq ci f.2.1 then nx (pc + 3) L (yfld g (ypl Z t z) f.2.2.1 ft :: r) g else False
      | none => False)
    | _, _ => False)
  | _ => False
/-- may it be written: kind 0 an int, 1 a boolean, 2 a reference -/
def yint (ft : zFT) : Bool := !(Nat.beq ft.1 1 || (Nat.beq ft.1 2 || Nat.beq ft.1 4))
def yputc (kd : Nat) (ft : zFT) (t : Nat) (v : Int) (k : Prop) : Prop := match kd with
  | 0 => bif yint ft && Nat.beq t 1 then k else False
  | 1 => bif yint ft && Nat.beq t 1 then (0 ≤ v ∧ v ≤ 1) ∧ k else False
  | 2 => bif Nat.beq ft.1 2 && Nat.beq t 3 then (ft.2.1 ≤ v ∧ v ≤ ft.2.2) ∧ k else False
  | _ => False
def yi_put (Z : zZ) (P : zPool) (pc : Nat) (nx : yNx) (L st : List yV) (g : yM) (idx len : Nat) : Prop := match st with
  | (tv, v) :: (t, z) :: r => (match P.1.find? (fun f => f.1 == idx), yty Z t z with
    | some f, some (0, ci, _, fts) => (match fts[f.2.2.1]? with
      | some ft => bif Nat.beq len 3 && Nat.beq ci f.2.1 then yputc f.2.2.2 ft tv v (nx (pc + 3) L r (yset g (ypl Z t z) f.2.2.1 v)) else False
      | none => False)
    | _, _ => False)
  | _ => False
def yi_iald (Z : zZ) (RS : List (List Int)) (pc : Nat) (nx : yNx) (L st : List yV) (g : yM) (len : Nat) : Prop := match st with
  | (ti, i) :: (t, z) :: r => (match yty Z t z with
    | some (k, _, n, _) => bif Nat.beq len 1 && (Nat.beq ti 1 && yisI k) then (0 ≤ i ∧ i < (n : Int)) ∧ nx (pc + 1) L ((1, g (ypl Z t z) i.toNat) :: r) g else False
    | none => bif Nat.beq len 1 && (Nat.beq ti 1 && (Nat.beq t 3 && zleI 1000 z)) then (match RS[(z - 1000).toNat]? with
      | some tb => (0 ≤ i ∧ i < (tb.length : Int)) ∧ nx (pc + 1) L ((1, tb.getD i.toNat 0) :: r) g
      | none => False) else False)
  | _ => False
def yi_bald (Z : zZ) (pc : Nat) (nx : yNx) (L st : List yV) (g : yM) (len : Nat) : Prop := match st with
  | (ti, i) :: (t, z) :: r => (match yty Z t z with
    | some (k, _, n, _) => bif Nat.beq len 1 && (Nat.beq ti 1 && Nat.beq k 2) then (0 ≤ i ∧ i < (n : Int)) ∧ nx (pc + 1) L ((1, g (ypl Z t z) i.toNat) :: r) g else False
    | none => False)
  | _ => False
def yi_lald (Z : zZ) (pc : Nat) (nx : yNx) (L st : List yV) (g : yM) (len : Nat) : Prop := match st with
  | (ti, i) :: (t, z) :: r => (match yty Z t z with
    | some (k, _, n, _) => bif Nat.beq len 1 && (Nat.beq ti 1 && Nat.beq k 3) then (0 ≤ i ∧ i < (n : Int)) ∧ nx (pc + 1) L ((2, g (ypl Z t z) i.toNat) :: r) g else False
    | none => False)
  | _ => False
def yi_aald (Z : zZ) (pc : Nat) (nx : yNx) (L st : List yV) (g : yM) (len : Nat) : Prop := match st with
  | (ti, i) :: (t, z) :: r => (match yty Z t z with
    | some (k, _, n, ft :: _) => (match yrng Z.1 ft.2.1.toNat n 0 with
      | some e => bif Nat.beq len 1 && (Nat.beq ti 1 && (Nat.beq k 4 || Nat.beq k 5)) then (0 ≤ i ∧ i < (n : Int)) ∧ nx (pc + 1) L ((100 + e, i) :: r) g else False
      | none => False)
    | _ => False)
  | _ => False
def yi_iast (Z : zZ) (pc : Nat) (nx : yNx) (L st : List yV) (g : yM) (len : Nat) : Prop := match st with
  | (tv, v) :: (ti, i) :: (t, z) :: r => (match yty Z t z with
    | some (k, _, n, _) => bif Nat.beq len 1 && (Nat.beq tv 1 && (Nat.beq ti 1 && yisI k)) then (0 ≤ i ∧ i < (n : Int)) ∧ nx (pc + 1) L r (yset g (ypl Z t z) i.toNat v) else False
    | none => False)
  | _ => False
def yi_bast (Z : zZ) (pc : Nat) (nx : yNx) (L st : List yV) (g : yM) (len : Nat) : Prop := match st with
  | (tv, v) :: (ti, i) :: (t, z) :: r => (match yty Z t z with
    | some (k, _, n, _) => bif Nat.beq len 1 && (Nat.beq tv 1 && (Nat.beq ti 1 && Nat.beq k 2)) then (0 ≤ i ∧ i < (n : Int)) ∧ nx (pc + 1) L r (yset g (ypl Z t z) i.toNat (v.bmod 256)) else False
    | none => False)
  | _ => False
def yi_last (Z : zZ) (pc : Nat) (nx : yNx) (L st : List yV) (g : yM) (len : Nat) : Prop := match st with
  | (tv, v) :: (ti, i) :: (t, z) :: r => (match yty Z t z with
    | some (k, _, n, _) => bif Nat.beq len 1 && (Nat.beq tv 2 && (Nat.beq ti 1 && Nat.beq k 3)) then (0 ≤ i ∧ i < (n : Int)) ∧ nx (pc + 1) L r (yset g (ypl Z t z) i.toNat v) else False
    | none => False)
  | _ => False
/-- a contract: the method, its room, the sentence that it makes of what follows -/
abbrev yC : Type := Nat × (Nat × Nat) × yPT
def ycat (a : yV) : Nat := if a.1 = 2 then 2 else 1
def yok8 (st : List yV) : Bool := Nat.ble (st.map ycat).sum 8 && st.all (fun a => !(Nat.beq a.1 0))
def ylay : List yV → List yV
  | [] => []
  | a :: r => if a.1 = 2 then a :: (0, 0) :: ylay r else a :: ylay r
def ylayP (avs : List yV) (n : Nat) : List yV := ylay avs ++ List.replicate (n - (ylay avs).length) (0, 0)
def ytake (n : Nat) (st acc : List yV) (k : List yV → List yV → Prop) : Prop := match n, st with
  | 0, r => k acc r
  | m + 1, a :: r => ytake m r (a :: acc) k
  | _ + 1, [] => False
def ycall (MT : zMT) (CS : List yC) (rm : Nat × Nat) (mid : Nat) (as r : List yV) (g : yM) (k : List yV → yM → Prop) : Prop := match CS.find? (fun c => Nat.beq c.1 mid) with
  | some c => bif Nat.ble (c.2.1.1 + 1) rm.1 && (Nat.ble (8 + ((MT mid).2.2.1 + 11) + c.2.1.2) rm.2 && (Nat.ble (ylay as).length (MT mid).2.2.1 && (yok8 r && as.all (fun a => !(Nat.beq a.1 0))))) then c.2.2 as g k else False
  | none => False
def yi_call (Z : zZ) (P : zPool) (MT : zMT) (CS : List yC) (rm : Nat × Nat) (virt : Bool) (pc : Nat) (nx : yNx) (L st : List yV) (g : yM) (idx len : Nat) : Prop := match P.2.2.2.1.find? (fun f => f.1 == idx) with
  | some q =>
    bif Nat.beq len 3 && (virt && Nat.beq q.2.1 0) then
      ytake q.2.2.2.1 st [] (fun as r0 => match r0 with
        | (t, z) :: r => (match yty Z t z with
          | some (0, ci, _, _) => bif Nat.beq ci q.2.2.2.2 then ycall MT CS rm q.2.2.1 ((t, z) :: as) r g (fun v g' => nx (pc + 3) L (v ++ r) g') else False
          | _ => False)
        | [] => False)
    else bif Nat.beq len 3 && (!virt && (Nat.beq q.2.1 1 || Nat.beq q.2.1 2)) then
      ytake q.2.2.2.1 st [] (fun as r => ycall MT CS rm q.2.2.1 as r g (fun v g' => nx (pc + 3) L (v ++ r) g'))
    else bif Nat.beq len 3 && (!virt && (Nat.beq q.2.1 4 && (Nat.ble 1 rm.1 && Nat.ble 1000 rm.2))) then
      (match st with
        | (tn, n) :: (td, dp) :: (t, z) :: (ts, sp) :: (u, y) :: r => (match yty Z t z, yty Z u y with
          | some (k, _, n1, _), some (k0, _, n0, _) => bif (Nat.beq tn 1 && (Nat.beq td 1 && Nat.beq ts 1)) && (yok8 r && ((Nat.beq k 1 && Nat.beq k0 1) || (Nat.beq k 3 && Nat.beq k0 3))) then
            (0 ≤ n ∧ 0 ≤ dp ∧ 0 ≤ sp ∧ sp + n ≤ (n0 : Int) ∧ dp + n ≤ (n1 : Int)) ∧ nx (pc + 3) L r (ycpy g (ypl Z t z) (ypl Z u y) sp.toNat dp.toNat n.toNat) else False
          | _, _ => False)
        | _ => False)
    else False
  | none => False
/-- a return: 0 nothing, 1 an int, 2 a boolean, 3 a long -/
def yi_ret (rc : Nat) (K : List yV → yM → Prop) (st : List yV) (g : yM) (s len : Nat) : Prop := match s, st with
  | 0, [] => bif Nat.beq len 1 && Nat.beq rc 0 then K [] g else False
  | 1, [(t, x)] => bif Nat.beq len 1 && (Nat.beq t 1 && Nat.beq rc 1) then K [(1, x)] g else bif Nat.beq len 1 && (Nat.beq t 1 && Nat.beq rc 2) then (0 ≤ x ∧ x ≤ 1) ∧ K [(1, x)] g else False
  | 2, [(t, x)] => bif Nat.beq len 1 && (Nat.beq t 2 && Nat.beq rc 3) then K [(2, x)] g else False
  | _, _ => False
/-- what a walk rests on: the ranges, tables that nobody writes, the pool, methods, contracts, room, what it answers -/
abbrev yX : Type := zZ × List (List Int) × zPool × zMT × List yC × (Nat × Nat) × Nat
def ystep (X : yX) (K : List yV → yM → Prop) (nx : yNx) (pc : Nat) (L st : List yV) (g : yM) (ins : Instr) (len : Nat) : Prop := match ins with
  | .iconst n => yi_c 1 pc nx L st g n (-2147483648) 2147483647 len 1
  | .bipush n => yi_c 1 pc nx L st g n (-128) 127 len 2
  | .sipush n => yi_c 1 pc nx L st g n (-32768) 32767 len 3
  | .lconst n => yi_c 2 pc nx L st g (((n : Fin 2) : Nat) : Int) 0 1 len 1
  | .ldc i => yi_ldc X.2.2.1.2.1 1 pc nx L st g i len 2
  | .ldc_w i => yi_ldc X.2.2.1.2.1 1 pc nx L st g i len 3
  | .ldc2_w i => yi_ldc X.2.2.1.2.2.1 2 pc nx L st g i len 3
  | .iload_n k => yi_ld 1 pc nx L st g k.val len 1
  | .iload i => yi_ld 1 pc nx L st g i len 2
  | .lload_n k => yi_ld 2 pc nx L st g k.val len 1
  | .lload i => yi_ld 2 pc nx L st g i len 2
  | .aload_n k => yi_ldA pc nx L st g k.val len 1
  | .aload i => yi_ldA pc nx L st g i len 2
  | .istore_n k => yi_st 1 pc nx L st g k.val len 1
  | .istore i => yi_st 1 pc nx L st g i len 2
  | .astore_n k => yi_stA pc nx L st g k.val len 1
  | .astore i => yi_stA pc nx L st g i len 2
  | .lstore_n k => yi_stL pc nx L st g k.val len 1
  | .lstore i => yi_stL pc nx L st g i len 2
  | .iinc i d => yi_iinc pc nx L st g i d len
  | .iadd => yi_bin 1 (fun x y => yw (x + y)) pc nx L st g len
  | .isub => yi_bin 1 (fun x y => yw (x - y)) pc nx L st g len
  | .imul => yi_bin 1 (fun x y => yw (x * y)) pc nx L st g len
  | .iand => yi_bin 1 (yb (fun x y => x &&& y)) pc nx L st g len
  | .ior => yi_bin 1 (yb (fun x y => x ||| y)) pc nx L st g len
  | .ixor => yi_bin 1 (yb (fun x y => x ^^^ y)) pc nx L st g len
  | .ishl => yi_bin 1 (yb (fun x y => x <<< (y &&& 31))) pc nx L st g len
  | .ishr => yi_bin 1 (yb (fun x y => x >>> (y &&& 31))) pc nx L st g len
  | .iushr => yi_bin 1 (yb (fun x y => (x.toUInt32 >>> (y.toUInt32 &&& Int32.toUInt32 31)).toInt32)) pc nx L st g len
  | .idiv => yi_dr (yb (fun x y => x / y)) pc nx L st g len
  | .irem => yi_dr (yb (fun x y => x - x / y * y)) pc nx L st g len
  | .ineg => yi_una 1 1 (fun x => yw (-x)) pc nx L st g len
  | .i2b => yi_una 1 1 (fun x => x.bmod 256) pc nx L st g len
  | .i2s => yi_una 1 1 (fun x => x.bmod 65536) pc nx L st g len
  | .i2c => yi_una 1 1 (yu (fun x => (x.toUInt32 % 65536).toInt32)) pc nx L st g len
  | .i2l => yi_una 1 2 (fun x => x) pc nx L st g len
  | .l2i => yi_una 2 1 yw pc nx L st g len
  | .lcmp => yi_lcmp pc nx L st g len
  | .ladd => yi_bin 2 (fun x y => ywl (x + y)) pc nx L st g len
  | .land => yi_bin 2 (ybl (fun x y => x &&& y)) pc nx L st g len
  | .lor => yi_bin 2 (ybl (fun x y => x ||| y)) pc nx L st g len
  | .lshl => yi_shL (ysh (fun x y => x <<< (y.toInt64 &&& 63))) pc nx L st g len
  | .lshr => yi_shL (ysh (fun x y => x >>> (y.toInt64 &&& 63))) pc nx L st g len
  | .lushr => yi_shL (ysh (fun x y => (x.toUInt64 >>> (y.toInt64.toUInt64 &&& Int64.toUInt64 63)).toInt64)) pc nx L st g len
  | .dup => yi_dup pc nx L st g len
  | .pop => yi_pop pc nx L st g len
  | .pop2 => yi_pop2 pc nx L st g len
  | .goto off => yi_goto pc nx L st g off len
  | .tableswitch d lo hi offs => yi_tsw pc nx L st g d lo hi offs.toList
  | .lookupswitch d ps => yi_lsw pc nx L st g d ps.toList
  | .getfield i => yi_get X.1 X.2.2.1 pc nx L st g i len
  | .putfield i => yi_put X.1 X.2.2.1 pc nx L st g i len
  | .getstatic i => yi_cell X.2.2.1.2.2.2.2.1 pc nx L st g i len 3
  | .iaload => yi_iald X.1 X.2.1 pc nx L st g len
  | .baload => yi_bald X.1 pc nx L st g len
  | .laload => yi_lald X.1 pc nx L st g len
  | .aaload => yi_aald X.1 pc nx L st g len
  | .iastore => yi_iast X.1 pc nx L st g len
  | .bastore => yi_bast X.1 pc nx L st g len
  | .lastore => yi_last X.1 pc nx L st g len
  | .invokevirtual i => yi_call X.1 X.2.2.1 X.2.2.2.1 X.2.2.2.2.1 X.2.2.2.2.2.1 true pc nx L st g i len
  | .invokestatic i => yi_call X.1 X.2.2.1 X.2.2.2.1 X.2.2.2.2.1 X.2.2.2.2.2.1 false pc nx L st g i len
  | .return_ => yi_ret X.2.2.2.2.2.2 K st g 0 len
  | .ireturn => yi_ret X.2.2.2.2.2.2 K st g 1 len
  | .lreturn => yi_ret X.2.2.2.2.2.2 K st g 2 len
  | .if_icmp .eq off => yi_icmp (fun x y => x = y) pc nx L st g off len
  | .if_icmp .ne off => yi_icmp (fun x y => x ≠ y) pc nx L st g off len
  | .if_icmp .lt off => yi_icmp (fun x y => x < y) pc nx L st g off len
  | .if_icmp .ge off => yi_icmp (fun x y => y ≤ x) pc nx L st g off len
  | .if_icmp .gt off => yi_icmp (fun x y => y < x) pc nx L st g off len
  | .if_icmp .le off => yi_icmp (fun x y => x ≤ y) pc nx L st g off len
  | .ifCond .eq off => yi_if (fun x y => x = y) pc nx L st g off len
  | .ifCond .ne off => yi_if (fun x y => x ≠ y) pc nx L st g off len
  | .ifCond .lt off => yi_if (fun x y => x < y) pc nx L st g off len
  | .ifCond .ge off => yi_if (fun x y => y ≤ x) pc nx L st g off len
  | .ifCond .gt off => yi_if (fun x y => y < x) pc nx L st g off len
  | .ifCond .le off => yi_if (fun x y => x ≤ y) pc nx L st g off len
  | _ => False
/-- a walk up to stops, in so many steps; at a stop Y -/
def yrun (t : Nat → Option (Instr × Nat)) (X : yX) (K : List yV → yM → Prop) (Y : yNx) (sp : Nat → Bool) : Nat → Nat → List yV → List yV → yM → Prop
  | 0, pc, L, st, g => Y pc L st g
  | n + 1, pc, L, st, g => match t pc with
    | none => False
    | some q => ystep X K (fun pc' L' st' g' => bif sp pc' then Y pc' L' st' g' else yrun t X K Y sp n pc' L' st' g') pc L st g q.1 q.2
/-- what a walk goes on with: steps of the table -/
def yCl (t : Nat → Option (Instr × Nat)) (X : yX) (K : List yV → yM → Prop) (Y : yNx) : Prop := ∀ (nx : yNx) (pc : Nat) (L st : List yV) (g : yM) (q : Instr × Nat), t pc = some q → ystep X K nx pc L st g q.1 q.2 → (∀ (pc' : Nat) (L' st' : List yV) (g' : yM), nx pc' L' st' g' → Y pc' L' st' g') → Y pc L st g
theorem yrun_ok {t : Nat → Option (Instr × Nat)} {X : yX} {K : List yV → yM → Prop} {Y : yNx} {sp : Nat → Bool} (hY : yCl t X K Y) : ∀ (n pc : Nat) (L st : List yV) (g : yM), yrun t X K Y sp n pc L st g → Y pc L st g
  | 0, _, _, _, _, h => h
  | n + 1, pc, L, st, g, h => by
    unfold yrun at h
    split at h
    · exact h.elim
    · rename_i q hq
      refine hY _ pc L st g q hq h (fun pc' L' st' g' h2 => ?_)
      cases hs : sp pc' with
      | true =>
        rw [hs] at h2
        exact h2
      | false =>
        rw [hs] at h2
        exact yrun_ok hY n pc' L' st' g' h2
