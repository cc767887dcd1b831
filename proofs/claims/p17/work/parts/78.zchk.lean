theorem zpT505h18 : zhead zpZ zpRS zpMT [zpC455, zpC457, zpC461, zpC469, zpC481, zpC503, zpC504] zpC505 zpP12 1 zpA505 [(74, 4, 0, 12)] 3000 zpA505h18 = true := by decide +kernel
theorem zpT505h19 : zhead zpZ zpRS zpMT [zpC455, zpC457, zpC461, zpC469, zpC481, zpC503, zpC504] zpC505 zpP12 1 zpA505 [(74, 4, 0, 12)] 3000 zpA505h19 = true := by decide +kernel
theorem zpT505h20 : zhead zpZ zpRS zpMT [zpC455, zpC457, zpC461, zpC469, zpC481, zpC503, zpC504] zpC505 zpP12 1 zpA505 [(74, 4, 0, 12)] 3000 zpA505h20 = true := by decide +kernel
theorem zpT505h21 : zhead zpZ zpRS zpMT [zpC455, zpC457, zpC461, zpC469, zpC481, zpC503, zpC504] zpC505 zpP12 1 zpA505 [(74, 4, 0, 12)] 3000 zpA505h21 = true := by decide +kernel
theorem zpT505h22 : zhead zpZ zpRS zpMT [zpC455, zpC457, zpC461, zpC469, zpC481, zpC503, zpC504] zpC505 zpP12 1 zpA505 [(74, 4, 0, 12)] 3000 zpA505h22 = true := by decide +kernel
theorem zpT505h23 : zhead zpZ zpRS zpMT [zpC455, zpC457, zpC461, zpC469, zpC481, zpC503, zpC504] zpC505 zpP12 1 zpA505 [(74, 4, 0, 12)] 3000 zpA505h23 = true := by decide +kernel
theorem zpT505h24 : zhead zpZ zpRS zpMT [zpC455, zpC457, zpC461, zpC469, zpC481, zpC503, zpC504] zpC505 zpP12 1 zpA505 [(74, 4, 0, 12)] 3000 zpA505h24 = true := by decide +kernel
theorem zpT505h25 : zhead zpZ zpRS zpMT [zpC455, zpC457, zpC461, zpC469, zpC481, zpC503, zpC504] zpC505 zpP12 1 zpA505 [(74, 4, 0, 12)] 3000 zpA505h25 = true := by decide +kernel
theorem zpT505h26 : zhead zpZ zpRS zpMT [zpC455, zpC457, zpC461, zpC469, zpC481, zpC503, zpC504] zpC505 zpP12 1 zpA505 [(74, 4, 0, 12)] 3000 zpA505h26 = true := by decide +kernel
theorem zpT505h27 : zhead zpZ zpRS zpMT [zpC455, zpC457, zpC461, zpC469, zpC481, zpC503, zpC504] zpC505 zpP12 1 zpA505 [(74, 4, 0, 12)] 3000 zpA505h27 = true := by decide +kernel
theorem zpT505h28 : zhead zpZ zpRS zpMT [zpC455, zpC457, zpC461, zpC469, zpC481, zpC503, zpC504] zpC505 zpP12 1 zpA505 [(74, 4, 0, 12)] 3000 zpA505h28 = true := by decide +kernel
theorem zpT505h29 : zhead zpZ zpRS zpMT [zpC455, zpC457, zpC461, zpC469, zpC481, zpC503, zpC504] zpC505 zpP12 1 zpA505 [(74, 4, 0, 12)] 3000 zpA505h29 = true := by decide +kernel
theorem zpT505h30 : zhead zpZ zpRS zpMT [zpC455, zpC457, zpC461, zpC469, zpC481, zpC503, zpC504] zpC505 zpP12 1 zpA505 [(74, 4, 0, 12)] 3000 zpA505h30 = true := by decide +kernel
theorem zpT505h31 : zhead zpZ zpRS zpMT [zpC455, zpC457, zpC461, zpC469, zpC481, zpC503, zpC504] zpC505 zpP12 1 zpA505 [(74, 4, 0, 12)] 3000 zpA505h31 = true := by decide +kernel
theorem zpT505h32 : zhead zpZ zpRS zpMT [zpC455, zpC457, zpC461, zpC469, zpC481, zpC503, zpC504] zpC505 zpP12 1 zpA505 [(74, 4, 0, 12)] 3000 zpA505h32 = true := by decide +kernel
theorem zpT505h33 : zhead zpZ zpRS zpMT [zpC455, zpC457, zpC461, zpC469, zpC481, zpC503, zpC504] zpC505 zpP12 1 zpA505 [(74, 4, 0, 12)] 3000 zpA505h33 = true := by decide +kernel
theorem zpT505h34 : zhead zpZ zpRS zpMT [zpC455, zpC457, zpC461, zpC469, zpC481, zpC503, zpC504] zpC505 zpP12 1 zpA505 [(74, 4, 0, 12)] 3000 zpA505h34 = true := by decide +kernel
theorem zpT505h35 : zhead zpZ zpRS zpMT [zpC455, zpC457, zpC461, zpC469, zpC481, zpC503, zpC504] zpC505 zpP12 1 zpA505 [(74, 4, 0, 12)] 3000 zpA505h35 = true := by decide +kernel
theorem zpT505h36 : zhead zpZ zpRS zpMT [zpC455, zpC457, zpC461, zpC469, zpC481, zpC503, zpC504] zpC505 zpP12 1 zpA505 [(74, 4, 0, 12)] 3000 zpA505h36 = true := by decide +kernel
theorem zpT505h37 : zhead zpZ zpRS zpMT [zpC455, zpC457, zpC461, zpC469, zpC481, zpC503, zpC504] zpC505 zpP12 1 zpA505 [(74, 4, 0, 12)] 3000 zpA505h37 = true := by decide +kernel
theorem zpT505h38 : zhead zpZ zpRS zpMT [zpC455, zpC457, zpC461, zpC469, zpC481, zpC503, zpC504] zpC505 zpP12 1 zpA505 [(74, 4, 0, 12)] 3000 zpA505h38 = true := by decide +kernel
theorem zpT505h39 : zhead zpZ zpRS zpMT [zpC455, zpC457, zpC461, zpC469, zpC481, zpC503, zpC504] zpC505 zpP12 1 zpA505 [(74, 4, 0, 12)] 3000 zpA505h39 = true := by decide +kernel
theorem zpT505h40 : zhead zpZ zpRS zpMT [zpC455, zpC457, zpC461, zpC469, zpC481, zpC503, zpC504] zpC505 zpP12 1 zpA505 [(74, 4, 0, 12)] 3000 zpA505h40 = true := by decide +kernel
theorem zpT505h41 : zhead zpZ zpRS zpMT [zpC455, zpC457, zpC461, zpC469, zpC481, zpC503, zpC504] zpC505 zpP12 1 zpA505 [(74, 4, 0, 12)] 3000 zpA505h41 = true := by decide +kernel
theorem zpT505h42 : zhead zpZ zpRS zpMT [zpC455, zpC457, zpC461, zpC469, zpC481, zpC503, zpC504] zpC505 zpP12 1 zpA505 [(74, 4, 0, 12)] 3000 zpA505h42 = true := by decide +kernel
theorem zpT505h43 : zhead zpZ zpRS zpMT [zpC455, zpC457, zpC461, zpC469, zpC481, zpC503, zpC504] zpC505 zpP12 1 zpA505 [(74, 4, 0, 12)] 3000 zpA505h43 = true := by decide +kernel
theorem zpT505h44 : zhead zpZ zpRS zpMT [zpC455, zpC457, zpC461, zpC469, zpC481, zpC503, zpC504] zpC505 zpP12 1 zpA505 [(74, 4, 0, 12)] 3000 zpA505h44 = true := by decide +kernel
theorem zpT505h45 : zhead zpZ zpRS zpMT [zpC455, zpC457, zpC461, zpC469, zpC481, zpC503, zpC504] zpC505 zpP12 1 zpA505 [(74, 4, 0, 12)] 3000 zpA505h45 = true := by decide +kernel
theorem zpT505h46 : zhead zpZ zpRS zpMT [zpC455, zpC457, zpC461, zpC469, zpC481, zpC503, zpC504] zpC505 zpP12 1 zpA505 [(74, 4, 0, 12)] 3000 zpA505h46 = true := by decide +kernel
theorem zpT505h47 : zhead zpZ zpRS zpMT [zpC455, zpC457, zpC461, zpC469, zpC481, zpC503, zpC504] zpC505 zpP12 1 zpA505 [(74, 4, 0, 12)] 3000 zpA505h47 = true := by decide +kernel
theorem zpT505h48 : zhead zpZ zpRS zpMT [zpC455, zpC457, zpC461, zpC469, zpC481, zpC503, zpC504] zpC505 zpP12 1 zpA505 [(74, 4, 0, 12)] 3000 zpA505h48 = true := by decide +kernel
theorem zpT505 : zcheck zpZ zpRS zpMT [zpC455, zpC457, zpC461, zpC469, zpC481, zpC503, zpC504] zpC505 zpP12 1 zpA505 [(74, 4, 0, 12)] 3000 = true := zcheck_of zpT505e (zall_cons zpT505h0 (zall_cons zpT505h1 (zall_cons zpT505h2 (zall_cons zpT505h3 (zall_cons zpT505h4 (zall_cons zpT505h5 (zall_cons zpT505h6 (zall_cons zpT505h7 (zall_cons zpT505h8 (zall_cons zpT505h9 (zall_cons zpT505h10 (zall_cons zpT505h11 (zall_cons zpT505h12 (zall_cons zpT505h13 (zall_cons zpT505h14 (zall_cons zpT505h15 (zall_cons zpT505h16 (zall_cons zpT505h17 (zall_cons zpT505h18 (zall_cons zpT505h19 (zall_cons zpT505h20 (zall_cons zpT505h21 (zall_cons zpT505h22 (zall_cons zpT505h23 (zall_cons zpT505h24 (zall_cons zpT505h25 (zall_cons zpT505h26 (zall_cons zpT505h27 (zall_cons zpT505h28 (zall_cons zpT505h29 (zall_cons zpT505h30 (zall_cons zpT505h31 (zall_cons zpT505h32 (zall_cons zpT505h33 (zall_cons zpT505h34 (zall_cons zpT505h35 (zall_cons zpT505h36 (zall_cons zpT505h37 (zall_cons zpT505h38 (zall_cons zpT505h39 (zall_cons zpT505h40 (zall_cons zpT505h41 (zall_cons zpT505h42 (zall_cons zpT505h43 (zall_cons zpT505h44 (zall_cons zpT505h45 (zall_cons zpT505h46 (zall_cons zpT505h47 (zall_cons zpT505h48 (zall_nil)))))))))))))))))))))))))))))))))))))))))))))))))) (by decide +kernel)
theorem zpT506 : zcheck zpZ zpRS zpMT [] zpC506 zpP12 2 zpA506 [] 3000 = true := by decide +kernel
theorem zpT507 : zcheck zpZ zpRS zpMT [zpC506] zpC507 zpP12 1 zpA507 [] 3000 = true := by decide +kernel
theorem zpT508 : zcheck zpZ zpRS zpMT [] zpC508 zpP12 2 zpA508 [] 3000 = true := by decide +kernel
theorem zpT509 : zcheck zpZ zpRS zpMT [zpC508] zpC509 zpP12 2 zpA509 [] 3000 = true := by decide +kernel
theorem zpT510 : zcheck zpZ zpRS zpMT [] zpC510 zpP12 1 zpA510 [] 3000 = true := by decide +kernel
theorem zpT511 : zcheck zpZ zpRS zpMT [zpC507, zpC509, zpC510] zpC511 zpP12 1 zpA511 [] 3000 = true := by decide +kernel
theorem zpT512 : zcheck zpZ zpRS zpMT [] zpC512 zpP12 2 zpA512 [] 3000 = true := by decide +kernel
theorem zpT513 : zcheck zpZ zpRS zpMT [zpC512] zpC513 zpP12 2 zpA513 [] 3000 = true := by decide +kernel
theorem zpT514 : zcheck zpZ zpRS zpMT [zpC507, zpC510, zpC511, zpC513] zpC514 zpP12 1 zpA514 [] 3000 = true := by decide +kernel
theorem zpT515 : zcheck zpZ zpRS zpMT [zpC459, zpC513] zpC515 zpP12 1 zpA515 [] 3000 = true := by decide +kernel
theorem zpT516 : zcheck zpZ zpRS zpMT [zpC454] zpC516 zpP12 2 zpA516 [] 3000 = true := by decide +kernel
theorem zpT517 : zcheck zpZ zpRS zpMT [zpC511, zpC516] zpC517 zpP12 1 zpA517 [] 3000 = true := by decide +kernel
theorem zpT518 : zcheck zpZ zpRS zpMT [zpC511] zpC518 zpP12 0 zpA518 [] 3000 = true := by decide +kernel
theorem zpT519 : zcheck zpZ zpRS zpMT [] zpC519 zpP12 2 zpA519 [] 3000 = true := by decide +kernel
theorem zpT520 : zcheck zpZ zpRS zpMT [zpC510, zpC519] zpC520 zpP12 2 zpA520 [] 3000 = true := by decide +kernel
theorem zpT521 : zcheck zpZ zpRS zpMT [zpC460, zpC513, zpC518, zpC520] zpC521 zpP12 1 zpA521 [] 3000 = true := by decide +kernel
theorem zpT522 : zcheck zpZ zpRS zpMT [zpC460, zpC516, zpC518, zpC520] zpC522 zpP12 1 zpA522 [] 3000 = true := by decide +kernel
theorem zpT523 : zcheck zpZ zpRS zpMT [] zpC523 zpP12 2 zpA523 [] 3000 = true := by decide +kernel
theorem zpT524 : zcheck zpZ zpRS zpMT [zpC513, zpC523] zpC524 zpP12 1 zpA524 [] 3000 = true := by decide +kernel
theorem zpT525 : zcheck zpZ zpRS zpMT [zpC519] zpC525 zpP12 2 zpA525 [] 3000 = true := by decide +kernel
theorem zpT526 : zcheck zpZ zpRS zpMT [zpC460, zpC510, zpC516, zpC518, zpC525] zpC526 zpP12 1 zpA526 [] 3000 = true := by decide +kernel
theorem zpT527 : zcheck zpZ zpRS zpMT [zpC513, zpC518, zpC525] zpC527 zpP12 3 zpA527 [] 3000 = true := by decide +kernel
theorem zpT528 : zcheck zpZ zpRS zpMT [] zpC528 zpP12 0 zpA528 [] 3000 = true := by decide +kernel
theorem zpT529 : zcheck zpZ zpRS zpMT [zpC510, zpC519, zpC528] zpC529 zpP12 0 zpA529 [] 3000 = true := by decide +kernel
theorem zpT530 : zcheck zpZ zpRS zpMT [zpC510, zpC519, zpC529] zpC530 zpP12 0 zpA530 [] 3000 = true := by decide +kernel
theorem zpT531 : zcheck zpZ zpRS zpMT [zpC510, zpC519, zpC530] zpC531 zpP12 0 zpA531 [] 3000 = true := by decide +kernel
theorem zpT532 : zcheck zpZ zpRS zpMT [zpC510, zpC519, zpC531] zpC532 zpP12 0 zpA532 [] 3000 = true := by decide +kernel
theorem zpT533 : zcheck zpZ zpRS zpMT [zpC510, zpC519, zpC532] zpC533 zpP12 0 zpA533 [] 3000 = true := by decide +kernel
theorem zpT534 : zcheck zpZ zpRS zpMT [zpC510, zpC533] zpC534 zpP12 0 zpA534 [] 3000 = true := by decide +kernel
theorem zpT535 : zcheck zpZ zpRS zpMT [zpC518, zpC534] zpC535 zpP12 1 zpA535 [] 3000 = true := by decide +kernel
theorem zpT536 : zcheck zpZ zpRS zpMT [] zpC536 zpP12 2 zpA536 [] 3000 = true := by decide +kernel
theorem zpT537 : zcheck zpZ zpRS zpMT [zpC481, zpC484, zpC536] zpC537 zpP12 1 zpA537 [] 3000 = true := by decide +kernel
theorem zpT538 : zcheck zpZ zpRS zpMT [] zpC538 zpP12 1 zpA538 [] 3000 = true := by decide +kernel
theorem zpT539 : zcheck zpZ zpRS zpMT [zpC472, zpC473, zpC538] zpC539 zpP12 1 zpA539 [] 3000 = true := by decide +kernel
theorem zpT540 : zcheck zpZ zpRS zpMT [zpC472, zpC539] zpC540 zpP12 1 zpA540 [] 3000 = true := by decide +kernel
theorem zpT541 : zcheck zpZ zpRS zpMT [zpC472, zpC540] zpC541 zpP12 1 zpA541 [] 3000 = true := by decide +kernel
