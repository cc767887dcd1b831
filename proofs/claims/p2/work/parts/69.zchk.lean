theorem zpT480 : zcheck zpZ zpRS zpMT [zpC460, zpC469, zpC479] zpC480 zpP11 0 zpA480 [] 3000 = true := by decide +kernel
theorem zpT481 : zcheck zpZ zpRS zpMT [zpC460, zpC469, zpC480] zpC481 zpP11 0 zpA481 [] 3000 = true := by decide +kernel
theorem zpT482 : zcheck zpZ zpRS zpMT [zpC460, zpC469, zpC481] zpC482 zpP11 0 zpA482 [] 3000 = true := by decide +kernel
theorem zpT483 : zcheck zpZ zpRS zpMT [zpC460, zpC469, zpC482] zpC483 zpP11 0 zpA483 [] 3000 = true := by decide +kernel
theorem zpT484 : zcheck zpZ zpRS zpMT [zpC460, zpC483] zpC484 zpP11 0 zpA484 [] 3000 = true := by decide +kernel
theorem zpT485 : zcheck zpZ zpRS zpMT [zpC468, zpC484] zpC485 zpP11 1 zpA485 [] 3000 = true := by decide +kernel
theorem zpT486 : zcheck zpZ zpRS zpMT [] zpC486 zpP11 2 zpA486 [] 3000 = true := by decide +kernel
theorem zpT487 : zcheck zpZ zpRS zpMT [zpC431, zpC434, zpC486] zpC487 zpP11 1 zpA487 [] 3000 = true := by decide +kernel
theorem zpT488 : zcheck zpZ zpRS zpMT [] zpC488 zpP11 1 zpA488 [] 3000 = true := by decide +kernel
theorem zpT489 : zcheck zpZ zpRS zpMT [zpC422, zpC423, zpC488] zpC489 zpP11 1 zpA489 [] 3000 = true := by decide +kernel
theorem zpT490 : zcheck zpZ zpRS zpMT [zpC422, zpC489] zpC490 zpP11 1 zpA490 [] 3000 = true := by decide +kernel
theorem zpT491 : zcheck zpZ zpRS zpMT [zpC422, zpC490] zpC491 zpP11 1 zpA491 [] 3000 = true := by decide +kernel
theorem zpT492 : zcheck zpZ zpRS zpMT [zpC422, zpC491] zpC492 zpP11 1 zpA492 [] 3000 = true := by decide +kernel
theorem zpT493 : zcheck zpZ zpRS zpMT [zpC422] zpC493 zpP11 2 zpA493 [] 3000 = true := by decide +kernel
theorem zpT494 : zcheck zpZ zpRS zpMT [] zpC494 zpP11 2 zpA494 [] 3000 = true := by decide +kernel
theorem zpT495 : zcheck zpZ zpRS zpMT [zpC492, zpC493, zpC494] zpC495 zpP11 1 zpA495 [] 3000 = true := by decide +kernel
theorem zpT496 : zcheck zpZ zpRS zpMT [zpC422] zpC496 zpP11 2 zpA496 [] 3000 = true := by decide +kernel
theorem zpT497 : zcheck zpZ zpRS zpMT [] zpC497 zpP11 2 zpA497 [] 3000 = true := by decide +kernel
theorem zpT498 : zcheck zpZ zpRS zpMT [zpC495, zpC496, zpC497] zpC498 zpP11 1 zpA498 [] 3000 = true := by decide +kernel
theorem zpT499 : zcheck zpZ zpRS zpMT [zpC422] zpC499 zpP11 2 zpA499 [] 3000 = true := by decide +kernel
theorem zpT500 : zcheck zpZ zpRS zpMT [] zpC500 zpP11 2 zpA500 [] 3000 = true := by decide +kernel
theorem zpT501 : zcheck zpZ zpRS zpMT [zpC420, zpC422, zpC423, zpC488, zpC489, zpC498, zpC499, zpC500] zpC501 zpP11 1 zpA501 [] 3000 = true := by decide +kernel
theorem zpT502 : zcheck zpZ zpRS zpMT [zpC422, zpC501] zpC502 zpP11 1 zpA502 [] 3000 = true := by decide +kernel
theorem zpT503 : zcheck zpZ zpRS zpMT [zpC422, zpC502] zpC503 zpP11 1 zpA503 [] 3000 = true := by decide +kernel
theorem zpT504 : zcheck zpZ zpRS zpMT [zpC422, zpC503] zpC504 zpP11 1 zpA504 [] 3000 = true := by decide +kernel
theorem zpT505 : zcheck zpZ zpRS zpMT [zpC493, zpC494, zpC504] zpC505 zpP11 1 zpA505 [] 3000 = true := by decide +kernel
theorem zpT506 : zcheck zpZ zpRS zpMT [zpC496, zpC497, zpC505] zpC506 zpP11 1 zpA506 [] 3000 = true := by decide +kernel
theorem zpT507 : zcheck zpZ zpRS zpMT [zpC420, zpC422, zpC423, zpC488, zpC499, zpC500, zpC501, zpC506] zpC507 zpP11 1 zpA507 [] 3000 = true := by decide +kernel
theorem zpT508 : zcheck zpZ zpRS zpMT [zpC422, zpC507] zpC508 zpP11 1 zpA508 [] 3000 = true := by decide +kernel
theorem zpT509 : zcheck zpZ zpRS zpMT [zpC422, zpC508] zpC509 zpP11 1 zpA509 [] 3000 = true := by decide +kernel
theorem zpT510 : zcheck zpZ zpRS zpMT [zpC422, zpC509] zpC510 zpP11 1 zpA510 [] 3000 = true := by decide +kernel
theorem zpT511 : zcheck zpZ zpRS zpMT [zpC493, zpC494, zpC510] zpC511 zpP11 1 zpA511 [] 3000 = true := by decide +kernel
theorem zpT512 : zcheck zpZ zpRS zpMT [zpC496, zpC497, zpC511] zpC512 zpP11 1 zpA512 [] 3000 = true := by decide +kernel
theorem zpT513 : zcheck zpZ zpRS zpMT [zpC420, zpC422, zpC423, zpC488, zpC499, zpC500, zpC507, zpC512] zpC513 zpP11 1 zpA513 [] 3000 = true := by decide +kernel
theorem zpT514 : zcheck zpZ zpRS zpMT [zpC422, zpC513] zpC514 zpP11 1 zpA514 [] 3000 = true := by decide +kernel
theorem zpT515 : zcheck zpZ zpRS zpMT [zpC422, zpC514] zpC515 zpP11 1 zpA515 [] 3000 = true := by decide +kernel
theorem zpT516 : zcheck zpZ zpRS zpMT [zpC422, zpC515] zpC516 zpP11 1 zpA516 [] 3000 = true := by decide +kernel
theorem zpT517 : zcheck zpZ zpRS zpMT [zpC493, zpC494, zpC516] zpC517 zpP11 1 zpA517 [] 3000 = true := by decide +kernel
theorem zpT518 : zcheck zpZ zpRS zpMT [zpC496, zpC497, zpC517] zpC518 zpP11 1 zpA518 [] 3000 = true := by decide +kernel
theorem zpT519 : zcheck zpZ zpRS zpMT [zpC420, zpC422, zpC423, zpC488, zpC499, zpC500, zpC513, zpC518] zpC519 zpP11 1 zpA519 [] 3000 = true := by decide +kernel
theorem zpT520 : zcheck zpZ zpRS zpMT [zpC422, zpC519] zpC520 zpP11 1 zpA520 [] 3000 = true := by decide +kernel
theorem zpT521 : zcheck zpZ zpRS zpMT [zpC422, zpC520] zpC521 zpP11 1 zpA521 [] 3000 = true := by decide +kernel
theorem zpT522 : zcheck zpZ zpRS zpMT [zpC422, zpC521] zpC522 zpP11 1 zpA522 [] 3000 = true := by decide +kernel
theorem zpT523 : zcheck zpZ zpRS zpMT [zpC493, zpC494, zpC522] zpC523 zpP11 1 zpA523 [] 3000 = true := by decide +kernel
theorem zpT524 : zcheck zpZ zpRS zpMT [zpC496, zpC497, zpC523] zpC524 zpP11 1 zpA524 [] 3000 = true := by decide +kernel
theorem zpT525 : zcheck zpZ zpRS zpMT [zpC420, zpC422, zpC423, zpC488, zpC499, zpC500, zpC519, zpC524] zpC525 zpP11 1 zpA525 [] 3000 = true := by decide +kernel
theorem zpT526 : zcheck zpZ zpRS zpMT [zpC422, zpC525] zpC526 zpP11 1 zpA526 [] 3000 = true := by decide +kernel
theorem zpT527 : zcheck zpZ zpRS zpMT [zpC422, zpC526] zpC527 zpP11 1 zpA527 [] 3000 = true := by decide +kernel
theorem zpT528 : zcheck zpZ zpRS zpMT [zpC422, zpC527] zpC528 zpP11 1 zpA528 [] 3000 = true := by decide +kernel
theorem zpT529 : zcheck zpZ zpRS zpMT [zpC493, zpC494, zpC528] zpC529 zpP11 1 zpA529 [] 3000 = true := by decide +kernel
theorem zpT530 : zcheck zpZ zpRS zpMT [zpC496, zpC497, zpC529] zpC530 zpP11 1 zpA530 [] 3000 = true := by decide +kernel
theorem zpT531 : zcheck zpZ zpRS zpMT [zpC420, zpC422, zpC423, zpC488, zpC499, zpC500, zpC525, zpC530] zpC531 zpP11 1 zpA531 [] 3000 = true := by decide +kernel
theorem zpT532 : zcheck zpZ zpRS zpMT [zpC422, zpC531] zpC532 zpP11 1 zpA532 [] 3000 = true := by decide +kernel
theorem zpT533 : zcheck zpZ zpRS zpMT [zpC422, zpC532] zpC533 zpP11 1 zpA533 [] 3000 = true := by decide +kernel
theorem zpT534 : zcheck zpZ zpRS zpMT [zpC422, zpC533] zpC534 zpP11 1 zpA534 [] 3000 = true := by decide +kernel
theorem zpT535 : zcheck zpZ zpRS zpMT [zpC493, zpC494, zpC534] zpC535 zpP11 1 zpA535 [] 3000 = true := by decide +kernel
theorem zpT536 : zcheck zpZ zpRS zpMT [zpC496, zpC497, zpC535] zpC536 zpP11 1 zpA536 [] 3000 = true := by decide +kernel
theorem zpT537 : zcheck zpZ zpRS zpMT [zpC422] zpC537 zpP11 2 zpA537 [] 3000 = true := by decide +kernel
theorem zpT538 : zcheck zpZ zpRS zpMT [] zpC538 zpP11 2 zpA538 [] 3000 = true := by decide +kernel
theorem zpT539 : zcheck zpZ zpRS zpMT [zpC422] zpC539 zpP11 2 zpA539 [] 3000 = true := by decide +kernel
