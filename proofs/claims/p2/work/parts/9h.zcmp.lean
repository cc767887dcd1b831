/-! THE COMPARED CASE: away -/
theorem zpcmp : zrunL zpZ zpRS zpPL zpMT [zpC8, zpC458] zpLC code zpLX 400 200 zpLS = true := zrunLT_ok zpDLk _ _ _ (by decide +kernel)
theorem whole_start {p : Program} {e : Env} {s : State} {m : MethodId} {below : List Frame} {meth : Method} {c : Code} (l : Launch) (hflags : l.flags = flags0) {b L : Nat} {xs : Nat → Int32} (hL : L ≤ 384) (C0 : lw_At p s m meth c b L xs) : W p l e room_1 s m #[Value.ref b] below meth c s.heap [] 0 0 (lw_Z below #[Value.ref b] s) (entryFrame m ([Value.ref b] : List Value).toArray 4) := zwhole l hL C0 zpcmp
