theorem zpT464 : zcheck zpZ zpRS zpMT [] zpC464 zpP12 2 zpA464 [] 3000 = true := by decide +kernel
theorem zpT465 : zcheck zpZ zpRS zpMT [] zpC465 zpP12 2 zpA465 [] 3000 = true := by decide +kernel
theorem zpT466 : zcheck zpZ zpRS zpMT [zpC454, zpC459, zpC460, zpC464, zpC465] zpC466 zpP12 1 zpA466 [] 3000 = true := by decide +kernel
theorem zpT467 : zcheck zpZ zpRS zpMT [] zpC467 zpP12 2 zpA467 [] 3000 = true := by decide +kernel
theorem zpT468 : zcheck zpZ zpRS zpMT [zpC467] zpC468 zpP12 1 zpA468 [(14, 1, (-9), 99)] 3000 = true := by decide +kernel
theorem zpT469 : zcheck zpZ zpRS zpMT [] zpC469 zpP12 0 zpA469 [] 3000 = true := by decide +kernel
theorem zpT470 : zcheck zpZ zpRS zpMT [] zpC470 zpP12 1 zpA470 [] 3000 = true := by decide +kernel
theorem zpT471 : zcheck zpZ zpRS zpMT [zpC470] zpC471 zpP12 1 zpA471 [] 3000 = true := by decide +kernel
theorem zpT472 : zcheck zpZ zpRS zpMT [] zpC472 zpP12 1 zpA472 [] 3000 = true := by decide +kernel
theorem zpT473 : zcheck zpZ zpRS zpMT [] zpC473 zpP12 1 zpA473 [] 3000 = true := by decide +kernel
theorem zpT474 : zcheck zpZ zpRS zpMT [zpC454, zpC472, zpC473] zpC474 zpP12 1 zpA474 [] 3000 = true := by decide +kernel
theorem zpT475 : zcheck zpZ zpRS zpMT [] zpC475 zpP12 1 zpA475 [] 3000 = true := by decide +kernel
theorem zpT476 : zcheck zpZ zpRS zpMT [zpC475] zpC476 zpP12 1 zpA476 [] 3000 = true := by decide +kernel
theorem zpT477 : zcheck zpZ zpRS zpMT [zpC470] zpC477 zpP12 1 zpA477 [] 3000 = true := by decide +kernel
theorem zpT478 : zcheck zpZ zpRS zpMT [zpC461, zpC472, zpC473] zpC478 zpP12 1 zpA478 [] 3000 = true := by decide +kernel
theorem zpT479 : zcheck zpZ zpRS zpMT [zpC475] zpC479 zpP12 1 zpA479 [] 3000 = true := by decide +kernel
theorem zpT480 : zcheck zpZ zpRS zpMT [zpC470] zpC480 zpP12 1 zpA480 [] 3000 = true := by decide +kernel
theorem zpT481 : zcheck zpZ zpRS zpMT [] zpC481 zpP12 2 zpA481 [] 3000 = true := by decide +kernel
theorem zpT482 : zcheck zpZ zpRS zpMT [zpC472, zpC473, zpC481] zpC482 zpP12 1 zpA482 [] 3000 = true := by decide +kernel
theorem zpT483 : zcheck zpZ zpRS zpMT [zpC475] zpC483 zpP12 1 zpA483 [] 3000 = true := by decide +kernel
theorem zpT484 : zcheck zpZ zpRS zpMT [] zpC484 zpP12 2 zpA484 [] 3000 = true := by decide +kernel
theorem zpT485 : zcheck zpZ zpRS zpMT [zpC472, zpC473, zpC484] zpC485 zpP12 1 zpA485 [] 3000 = true := by decide +kernel
theorem zpT486 : zcheck zpZ zpRS zpMT [] zpC486 zpP12 2 zpA486 [] 3000 = true := by decide +kernel
theorem zpT487 : zcheck zpZ zpRS zpMT [zpC472, zpC473, zpC486] zpC487 zpP12 1 zpA487 [] 3000 = true := by decide +kernel
theorem zpT488 : zcheck zpZ zpRS zpMT [zpC475] zpC488 zpP12 1 zpA488 [] 3000 = true := by decide +kernel
theorem zpT489 : zcheck zpZ zpRS zpMT [zpC470] zpC489 zpP12 1 zpA489 [] 3000 = true := by decide +kernel
theorem zpT490 : zcheck zpZ zpRS zpMT [] zpC490 zpP12 2 zpA490 [] 3000 = true := by decide +kernel
theorem zpT491 : zcheck zpZ zpRS zpMT [zpC472, zpC473, zpC490] zpC491 zpP12 1 zpA491 [] 3000 = true := by decide +kernel
theorem zpT492 : zcheck zpZ zpRS zpMT [zpC472] zpC492 zpP12 2 zpA492 [] 3000 = true := by decide +kernel
theorem zpT493 : zcheck zpZ zpRS zpMT [] zpC493 zpP12 2 zpA493 [] 3000 = true := by decide +kernel
theorem zpT494 : zcheck zpZ zpRS zpMT [] zpC494 zpP12 2 zpA494 [] 3000 = true := by decide +kernel
theorem zpT495 : zcheck zpZ zpRS zpMT [zpC472] zpC495 zpP12 2 zpA495 [] 3000 = true := by decide +kernel
theorem zpT496 : zcheck zpZ zpRS zpMT [] zpC496 zpP12 2 zpA496 [] 3000 = true := by decide +kernel
theorem zpT497 : zcheck zpZ zpRS zpMT [] zpC497 zpP12 2 zpA497 [] 3000 = true := by decide +kernel
theorem zpT498 : zcheck zpZ zpRS zpMT [zpC472] zpC498 zpP12 2 zpA498 [] 3000 = true := by decide +kernel
theorem zpT499 : zcheck zpZ zpRS zpMT [zpC473, zpC498] zpC499 zpP12 0 zpA499 [] 3000 = true := by decide +kernel
theorem zpT500 : zcheck zpZ zpRS zpMT [] zpC500 zpP12 0 zpA500 [] 3000 = true := by decide +kernel
theorem zpT501 : zcheck zpZ zpRS zpMT [] zpC501 zpP12 0 zpA501 [] 3000 = true := by decide +kernel
theorem zpT502e : zrun zpZ zpRS zpP12 zpMT [zpC469, zpC471, zpC473, zpC474, zpC476, zpC477, zpC478, zpC479, zpC480, zpC482, zpC483, zpC485, zpC487, zpC488, zpC489, zpC491, zpC492, zpC493, zpC494, zpC495, zpC496, zpC497, zpC499, zpC500, zpC501] (zpC502.2.2.1.2.1.length, zpC502.2.2.2.1, zpC502.2.2.2.2, zpC502.2.1, 1) (zpMT zpC502.1).2.1 zpA502 [] none 3000 0 zpC502.2.2.1.2 = true := by decide +kernel
theorem zpT502h0 : zhead zpZ zpRS zpMT [zpC469, zpC471, zpC473, zpC474, zpC476, zpC477, zpC478, zpC479, zpC480, zpC482, zpC483, zpC485, zpC487, zpC488, zpC489, zpC491, zpC492, zpC493, zpC494, zpC495, zpC496, zpC497, zpC499, zpC500, zpC501] zpC502 zpP12 1 zpA502 [] 3000 zpA502h0 = true := by decide +kernel
theorem zpT502h1 : zhead zpZ zpRS zpMT [zpC469, zpC471, zpC473, zpC474, zpC476, zpC477, zpC478, zpC479, zpC480, zpC482, zpC483, zpC485, zpC487, zpC488, zpC489, zpC491, zpC492, zpC493, zpC494, zpC495, zpC496, zpC497, zpC499, zpC500, zpC501] zpC502 zpP12 1 zpA502 [] 3000 zpA502h1 = true := by decide +kernel
theorem zpT502h2 : zhead zpZ zpRS zpMT [zpC469, zpC471, zpC473, zpC474, zpC476, zpC477, zpC478, zpC479, zpC480, zpC482, zpC483, zpC485, zpC487, zpC488, zpC489, zpC491, zpC492, zpC493, zpC494, zpC495, zpC496, zpC497, zpC499, zpC500, zpC501] zpC502 zpP12 1 zpA502 [] 3000 zpA502h2 = true := by decide +kernel
theorem zpT502 : zcheck zpZ zpRS zpMT [zpC469, zpC471, zpC473, zpC474, zpC476, zpC477, zpC478, zpC479, zpC480, zpC482, zpC483, zpC485, zpC487, zpC488, zpC489, zpC491, zpC492, zpC493, zpC494, zpC495, zpC496, zpC497, zpC499, zpC500, zpC501] zpC502 zpP12 1 zpA502 [] 3000 = true := zcheck_of zpT502e (zall_cons zpT502h0 (zall_cons zpT502h1 (zall_cons zpT502h2 (zall_nil)))) (by decide +kernel)
theorem zpT503 : zcheck zpZ zpRS zpMT [zpC461] zpC503 zpP12 2 zpA503 [] 3000 = true := by decide +kernel
theorem zpT504 : zcheck zpZ zpRS zpMT [] zpC504 zpP12 2 zpA504 [] 3000 = true := by decide +kernel
theorem zpT505e : zrun zpZ zpRS zpP12 zpMT [zpC455, zpC457, zpC461, zpC469, zpC481, zpC503, zpC504] (zpC505.2.2.1.2.1.length, zpC505.2.2.2.1, zpC505.2.2.2.2, zpC505.2.1, 1) (zpMT zpC505.1).2.1 zpA505 [(74, 4, 0, 12)] none 3000 0 zpC505.2.2.1.2 = true := by decide +kernel
theorem zpT505h0 : zhead zpZ zpRS zpMT [zpC455, zpC457, zpC461, zpC469, zpC481, zpC503, zpC504] zpC505 zpP12 1 zpA505 [(74, 4, 0, 12)] 3000 zpA505h0 = true := by decide +kernel
theorem zpT505h1 : zhead zpZ zpRS zpMT [zpC455, zpC457, zpC461, zpC469, zpC481, zpC503, zpC504] zpC505 zpP12 1 zpA505 [(74, 4, 0, 12)] 3000 zpA505h1 = true := by decide +kernel
theorem zpT505h2 : zhead zpZ zpRS zpMT [zpC455, zpC457, zpC461, zpC469, zpC481, zpC503, zpC504] zpC505 zpP12 1 zpA505 [(74, 4, 0, 12)] 3000 zpA505h2 = true := by decide +kernel
theorem zpT505h3 : zhead zpZ zpRS zpMT [zpC455, zpC457, zpC461, zpC469, zpC481, zpC503, zpC504] zpC505 zpP12 1 zpA505 [(74, 4, 0, 12)] 3000 zpA505h3 = true := by decide +kernel
theorem zpT505h4 : zhead zpZ zpRS zpMT [zpC455, zpC457, zpC461, zpC469, zpC481, zpC503, zpC504] zpC505 zpP12 1 zpA505 [(74, 4, 0, 12)] 3000 zpA505h4 = true := by decide +kernel
theorem zpT505h5 : zhead zpZ zpRS zpMT [zpC455, zpC457, zpC461, zpC469, zpC481, zpC503, zpC504] zpC505 zpP12 1 zpA505 [(74, 4, 0, 12)] 3000 zpA505h5 = true := by decide +kernel
theorem zpT505h6 : zhead zpZ zpRS zpMT [zpC455, zpC457, zpC461, zpC469, zpC481, zpC503, zpC504] zpC505 zpP12 1 zpA505 [(74, 4, 0, 12)] 3000 zpA505h6 = true := by decide +kernel
theorem zpT505h7 : zhead zpZ zpRS zpMT [zpC455, zpC457, zpC461, zpC469, zpC481, zpC503, zpC504] zpC505 zpP12 1 zpA505 [(74, 4, 0, 12)] 3000 zpA505h7 = true := by decide +kernel
theorem zpT505h8 : zhead zpZ zpRS zpMT [zpC455, zpC457, zpC461, zpC469, zpC481, zpC503, zpC504] zpC505 zpP12 1 zpA505 [(74, 4, 0, 12)] 3000 zpA505h8 = true := by decide +kernel
theorem zpT505h9 : zhead zpZ zpRS zpMT [zpC455, zpC457, zpC461, zpC469, zpC481, zpC503, zpC504] zpC505 zpP12 1 zpA505 [(74, 4, 0, 12)] 3000 zpA505h9 = true := by decide +kernel
theorem zpT505h10 : zhead zpZ zpRS zpMT [zpC455, zpC457, zpC461, zpC469, zpC481, zpC503, zpC504] zpC505 zpP12 1 zpA505 [(74, 4, 0, 12)] 3000 zpA505h10 = true := by decide +kernel
theorem zpT505h11 : zhead zpZ zpRS zpMT [zpC455, zpC457, zpC461, zpC469, zpC481, zpC503, zpC504] zpC505 zpP12 1 zpA505 [(74, 4, 0, 12)] 3000 zpA505h11 = true := by decide +kernel
theorem zpT505h12 : zhead zpZ zpRS zpMT [zpC455, zpC457, zpC461, zpC469, zpC481, zpC503, zpC504] zpC505 zpP12 1 zpA505 [(74, 4, 0, 12)] 3000 zpA505h12 = true := by decide +kernel
theorem zpT505h13 : zhead zpZ zpRS zpMT [zpC455, zpC457, zpC461, zpC469, zpC481, zpC503, zpC504] zpC505 zpP12 1 zpA505 [(74, 4, 0, 12)] 3000 zpA505h13 = true := by decide +kernel
theorem zpT505h14 : zhead zpZ zpRS zpMT [zpC455, zpC457, zpC461, zpC469, zpC481, zpC503, zpC504] zpC505 zpP12 1 zpA505 [(74, 4, 0, 12)] 3000 zpA505h14 = true := by decide +kernel
theorem zpT505h15 : zhead zpZ zpRS zpMT [zpC455, zpC457, zpC461, zpC469, zpC481, zpC503, zpC504] zpC505 zpP12 1 zpA505 [(74, 4, 0, 12)] 3000 zpA505h15 = true := by decide +kernel
theorem zpT505h16 : zhead zpZ zpRS zpMT [zpC455, zpC457, zpC461, zpC469, zpC481, zpC503, zpC504] zpC505 zpP12 1 zpA505 [(74, 4, 0, 12)] 3000 zpA505h16 = true := by decide +kernel
theorem zpT505h17 : zhead zpZ zpRS zpMT [zpC455, zpC457, zpC461, zpC469, zpC481, zpC503, zpC504] zpC505 zpP12 1 zpA505 [(74, 4, 0, 12)] 3000 zpA505h17 = true := by decide +kernel
