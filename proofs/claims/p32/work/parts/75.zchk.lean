theorem zpT484 : zcheck zpZ zpRS zpMT [zpC73, zpC74, zpC106, zpC114, zpC124, zpC128, zpC144] zpC484 zpP0 1 zpA484 [(28, 2, 0, 3)] 3000 = true := by decide +kernel
theorem zpT485 : zcheck zpZ zpRS zpMT [zpC73, zpC74, zpC106, zpC149, zpC156, zpC163, zpC179] zpC485 zpP0 1 zpA485 [(28, 2, 0, 3)] 3000 = true := by decide +kernel
theorem zpT486 : zcheck zpZ zpRS zpMT [zpC73, zpC74, zpC106, zpC187, zpC200, zpC204, zpC223] zpC486 zpP0 1 zpA486 [(28, 2, 0, 3)] 3000 = true := by decide +kernel
theorem zpT487 : zcheck zpZ zpRS zpMT [zpC73, zpC74, zpC106, zpC234, zpC247, zpC251, zpC270] zpC487 zpP0 1 zpA487 [(28, 2, 0, 3)] 3000 = true := by decide +kernel
theorem zpT488 : zcheck zpZ zpRS zpMT [zpC73, zpC74, zpC106, zpC275, zpC282, zpC286, zpC302] zpC488 zpP0 1 zpA488 [(28, 2, 0, 3)] 3000 = true := by decide +kernel
theorem zpT489 : zcheck zpZ zpRS zpMT [zpC73, zpC74, zpC106, zpC313, zpC335, zpC339, zpC367] zpC489 zpP0 1 zpA489 [(28, 2, 0, 3)] 3000 = true := by decide +kernel
theorem zpT490 : zcheck zpZ zpRS zpMT [zpC73, zpC74, zpC106, zpC372, zpC379, zpC389, zpC408] zpC490 zpP0 1 zpA490 [(28, 2, 0, 3)] 3000 = true := by decide +kernel
theorem zpT491 : zcheck zpZ zpRS zpMT [zpC73, zpC74] zpC491 zpP0 1 zpA491 [(28, 2, 0, 3)] 3000 = true := by decide +kernel
theorem zpT492 : zcheck zpZ zpRS zpMT [zpC73, zpC74, zpC81, zpC88, zpC92, zpC105, zpC106] zpC492 zpP0 1 zpA492 [(28, 2, 0, 3)] 3000 = true := by decide +kernel
theorem zpT493 : zcheck zpZ zpRS zpMT [zpC73, zpC74, zpC106, zpC114, zpC124, zpC128, zpC144] zpC493 zpP0 1 zpA493 [(28, 2, 0, 3)] 3000 = true := by decide +kernel
theorem zpT494 : zcheck zpZ zpRS zpMT [zpC73, zpC74, zpC106, zpC149, zpC156, zpC163, zpC179] zpC494 zpP0 1 zpA494 [(28, 2, 0, 3)] 3000 = true := by decide +kernel
theorem zpT495 : zcheck zpZ zpRS zpMT [zpC73, zpC74, zpC106, zpC187, zpC200, zpC204, zpC223] zpC495 zpP0 1 zpA495 [(28, 2, 0, 3)] 3000 = true := by decide +kernel
theorem zpT496 : zcheck zpZ zpRS zpMT [zpC73, zpC74, zpC106, zpC234, zpC247, zpC251, zpC270] zpC496 zpP0 1 zpA496 [(28, 2, 0, 3)] 3000 = true := by decide +kernel
theorem zpT497 : zcheck zpZ zpRS zpMT [zpC73, zpC74, zpC106, zpC275, zpC282, zpC286, zpC302] zpC497 zpP0 1 zpA497 [(28, 2, 0, 3)] 3000 = true := by decide +kernel
theorem zpT498 : zcheck zpZ zpRS zpMT [zpC73, zpC74, zpC106, zpC313, zpC335, zpC339, zpC367] zpC498 zpP0 1 zpA498 [(28, 2, 0, 3)] 3000 = true := by decide +kernel
theorem zpT499 : zcheck zpZ zpRS zpMT [zpC73, zpC74, zpC106, zpC372, zpC379, zpC389, zpC408] zpC499 zpP0 1 zpA499 [(28, 2, 0, 3)] 3000 = true := by decide +kernel
theorem zpT500 : zcheck zpZ zpRS zpMT [zpC73, zpC74] zpC500 zpP0 1 zpA500 [(28, 2, 0, 3)] 3000 = true := by decide +kernel
theorem zpT501 : zcheck zpZ zpRS zpMT [zpC73, zpC74, zpC81, zpC88, zpC92, zpC105, zpC106] zpC501 zpP0 1 zpA501 [(28, 2, 0, 3)] 3000 = true := by decide +kernel
theorem zpT502 : zcheck zpZ zpRS zpMT [zpC73, zpC74, zpC106, zpC114, zpC124, zpC128, zpC144] zpC502 zpP0 1 zpA502 [(28, 2, 0, 3)] 3000 = true := by decide +kernel
theorem zpT503 : zcheck zpZ zpRS zpMT [zpC73, zpC74, zpC106, zpC149, zpC156, zpC163, zpC179] zpC503 zpP0 1 zpA503 [(28, 2, 0, 3)] 3000 = true := by decide +kernel
theorem zpT504 : zcheck zpZ zpRS zpMT [zpC73, zpC74, zpC106, zpC187, zpC200, zpC204, zpC223] zpC504 zpP0 1 zpA504 [(28, 2, 0, 3)] 3000 = true := by decide +kernel
theorem zpT505 : zcheck zpZ zpRS zpMT [zpC73, zpC74, zpC106, zpC234, zpC247, zpC251, zpC270] zpC505 zpP0 1 zpA505 [(28, 2, 0, 3)] 3000 = true := by decide +kernel
theorem zpT506 : zcheck zpZ zpRS zpMT [zpC73, zpC74, zpC106, zpC275, zpC282, zpC286, zpC302] zpC506 zpP0 1 zpA506 [(28, 2, 0, 3)] 3000 = true := by decide +kernel
theorem zpT507 : zcheck zpZ zpRS zpMT [zpC73, zpC74, zpC106, zpC313, zpC335, zpC339, zpC367] zpC507 zpP0 1 zpA507 [(28, 2, 0, 3)] 3000 = true := by decide +kernel
theorem zpT508 : zcheck zpZ zpRS zpMT [zpC73, zpC74, zpC106, zpC372, zpC379, zpC389, zpC408] zpC508 zpP0 1 zpA508 [(28, 2, 0, 3)] 3000 = true := by decide +kernel
theorem zpT509 : zcheck zpZ zpRS zpMT [zpC73, zpC74] zpC509 zpP0 1 zpA509 [(28, 2, 0, 3)] 3000 = true := by decide +kernel
theorem zpT510 : zcheck zpZ zpRS zpMT [zpC73, zpC74, zpC81, zpC88, zpC92, zpC105, zpC106] zpC510 zpP0 1 zpA510 [(28, 2, 0, 3)] 3000 = true := by decide +kernel
theorem zpT511 : zcheck zpZ zpRS zpMT [zpC73, zpC74, zpC106, zpC114, zpC124, zpC128, zpC144] zpC511 zpP0 1 zpA511 [(28, 2, 0, 3)] 3000 = true := by decide +kernel
theorem zpT512 : zcheck zpZ zpRS zpMT [zpC73, zpC74, zpC106, zpC149, zpC156, zpC163, zpC179] zpC512 zpP0 1 zpA512 [(28, 2, 0, 3)] 3000 = true := by decide +kernel
theorem zpT513 : zcheck zpZ zpRS zpMT [zpC73, zpC74, zpC106, zpC187, zpC200, zpC204, zpC223] zpC513 zpP0 1 zpA513 [(28, 2, 0, 3)] 3000 = true := by decide +kernel
theorem zpT514 : zcheck zpZ zpRS zpMT [zpC73, zpC74, zpC106, zpC234, zpC247, zpC251, zpC270] zpC514 zpP0 1 zpA514 [(28, 2, 0, 3)] 3000 = true := by decide +kernel
theorem zpT515 : zcheck zpZ zpRS zpMT [zpC73, zpC74, zpC106, zpC275, zpC282, zpC286, zpC302] zpC515 zpP0 1 zpA515 [(28, 2, 0, 3)] 3000 = true := by decide +kernel
theorem zpT516 : zcheck zpZ zpRS zpMT [zpC73, zpC74, zpC106, zpC313, zpC335, zpC339, zpC367] zpC516 zpP0 1 zpA516 [(28, 2, 0, 3)] 3000 = true := by decide +kernel
theorem zpT517 : zcheck zpZ zpRS zpMT [zpC73, zpC74, zpC106, zpC372, zpC379, zpC389, zpC408] zpC517 zpP0 1 zpA517 [(28, 2, 0, 3)] 3000 = true := by decide +kernel
theorem zpT518 : zcheck zpZ zpRS zpMT [zpC73, zpC74] zpC518 zpP0 1 zpA518 [(28, 2, 0, 3)] 3000 = true := by decide +kernel
theorem zpT519 : zcheck zpZ zpRS zpMT [zpC73, zpC74, zpC81, zpC88, zpC92, zpC105, zpC106] zpC519 zpP0 1 zpA519 [(28, 2, 0, 3)] 3000 = true := by decide +kernel
theorem zpT520 : zcheck zpZ zpRS zpMT [zpC73, zpC74, zpC106, zpC114, zpC124, zpC128, zpC144] zpC520 zpP0 1 zpA520 [(28, 2, 0, 3)] 3000 = true := by decide +kernel
theorem zpT521 : zcheck zpZ zpRS zpMT [zpC73, zpC74, zpC106, zpC149, zpC156, zpC163, zpC179] zpC521 zpP0 1 zpA521 [(28, 2, 0, 3)] 3000 = true := by decide +kernel
theorem zpT522 : zcheck zpZ zpRS zpMT [zpC73, zpC74, zpC106, zpC187, zpC200, zpC204, zpC223] zpC522 zpP0 1 zpA522 [(28, 2, 0, 3)] 3000 = true := by decide +kernel
theorem zpT523 : zcheck zpZ zpRS zpMT [zpC73, zpC74, zpC106, zpC234, zpC247, zpC251, zpC270] zpC523 zpP0 1 zpA523 [(28, 2, 0, 3)] 3000 = true := by decide +kernel
theorem zpT524 : zcheck zpZ zpRS zpMT [zpC73, zpC74, zpC106, zpC275, zpC282, zpC286, zpC302] zpC524 zpP0 1 zpA524 [(28, 2, 0, 3)] 3000 = true := by decide +kernel
theorem zpT525 : zcheck zpZ zpRS zpMT [zpC73, zpC74, zpC106, zpC313, zpC335, zpC339, zpC367] zpC525 zpP0 1 zpA525 [(28, 2, 0, 3)] 3000 = true := by decide +kernel
theorem zpT526 : zcheck zpZ zpRS zpMT [zpC73, zpC74, zpC106, zpC372, zpC379, zpC389, zpC408] zpC526 zpP0 1 zpA526 [(28, 2, 0, 3)] 3000 = true := by decide +kernel
theorem zpT527 : zcheck zpZ zpRS zpMT [zpC73, zpC74] zpC527 zpP0 1 zpA527 [(28, 2, 0, 3)] 3000 = true := by decide +kernel
theorem zpT528 : zcheck zpZ zpRS zpMT [zpC73, zpC74, zpC81, zpC88, zpC92, zpC105, zpC106] zpC528 zpP0 1 zpA528 [(28, 2, 0, 3)] 3000 = true := by decide +kernel
theorem zpT529 : zcheck zpZ zpRS zpMT [zpC73, zpC74, zpC106, zpC114, zpC124, zpC128, zpC144] zpC529 zpP0 1 zpA529 [(28, 2, 0, 3)] 3000 = true := by decide +kernel
theorem zpT530 : zcheck zpZ zpRS zpMT [zpC73, zpC74, zpC106, zpC149, zpC156, zpC163, zpC179] zpC530 zpP0 1 zpA530 [(28, 2, 0, 3)] 3000 = true := by decide +kernel
theorem zpT531 : zcheck zpZ zpRS zpMT [zpC73, zpC74, zpC106, zpC187, zpC200, zpC204, zpC223] zpC531 zpP0 1 zpA531 [(28, 2, 0, 3)] 3000 = true := by decide +kernel
theorem zpT532 : zcheck zpZ zpRS zpMT [zpC73, zpC74, zpC106, zpC234, zpC247, zpC251, zpC270] zpC532 zpP0 1 zpA532 [(28, 2, 0, 3)] 3000 = true := by decide +kernel
theorem zpT533 : zcheck zpZ zpRS zpMT [zpC73, zpC74, zpC106, zpC275, zpC282, zpC286, zpC302] zpC533 zpP0 1 zpA533 [(28, 2, 0, 3)] 3000 = true := by decide +kernel
theorem zpT534 : zcheck zpZ zpRS zpMT [zpC73, zpC74, zpC106, zpC313, zpC335, zpC339, zpC367] zpC534 zpP0 1 zpA534 [(28, 2, 0, 3)] 3000 = true := by decide +kernel
theorem zpT535 : zcheck zpZ zpRS zpMT [zpC73, zpC74, zpC106, zpC372, zpC379, zpC389, zpC408] zpC535 zpP0 1 zpA535 [(28, 2, 0, 3)] 3000 = true := by decide +kernel
theorem zpT536 : zcheck zpZ zpRS zpMT [zpC73, zpC74] zpC536 zpP0 1 zpA536 [(28, 2, 0, 3)] 3000 = true := by decide +kernel
theorem zpT537 : zcheck zpZ zpRS zpMT [zpC73, zpC74, zpC81, zpC88, zpC92, zpC105, zpC106] zpC537 zpP0 1 zpA537 [(28, 2, 0, 3)] 3000 = true := by decide +kernel
theorem zpT538 : zcheck zpZ zpRS zpMT [zpC73, zpC74, zpC106, zpC114, zpC124, zpC128, zpC144] zpC538 zpP0 1 zpA538 [(28, 2, 0, 3)] 3000 = true := by decide +kernel
theorem zpT539 : zcheck zpZ zpRS zpMT [zpC73, zpC74, zpC106, zpC149, zpC156, zpC163, zpC179] zpC539 zpP0 1 zpA539 [(28, 2, 0, 3)] 3000 = true := by decide +kernel
theorem zpT540 : zcheck zpZ zpRS zpMT [zpC73, zpC74, zpC106, zpC187, zpC200, zpC204, zpC223] zpC540 zpP0 1 zpA540 [(28, 2, 0, 3)] 3000 = true := by decide +kernel
theorem zpT541 : zcheck zpZ zpRS zpMT [zpC73, zpC74, zpC106, zpC234, zpC247, zpC251, zpC270] zpC541 zpP0 1 zpA541 [(28, 2, 0, 3)] 3000 = true := by decide +kernel
theorem zpT542 : zcheck zpZ zpRS zpMT [zpC73, zpC74, zpC106, zpC275, zpC282, zpC286, zpC302] zpC542 zpP0 1 zpA542 [(28, 2, 0, 3)] 3000 = true := by decide +kernel
theorem zpT543 : zcheck zpZ zpRS zpMT [zpC73, zpC74, zpC106, zpC313, zpC335, zpC339, zpC367] zpC543 zpP0 1 zpA543 [(28, 2, 0, 3)] 3000 = true := by decide +kernel
theorem zpT544 : zcheck zpZ zpRS zpMT [zpC73, zpC74, zpC106, zpC372, zpC379, zpC389, zpC408] zpC544 zpP0 1 zpA544 [(28, 2, 0, 3)] 3000 = true := by decide +kernel
theorem zpT545 : zcheck zpZ zpRS zpMT [zpC73, zpC74] zpC545 zpP0 1 zpA545 [(28, 2, 0, 3)] 3000 = true := by decide +kernel
theorem zpT546 : zcheck zpZ zpRS zpMT [zpC73, zpC74, zpC81, zpC88, zpC92, zpC105, zpC106] zpC546 zpP0 1 zpA546 [(28, 2, 0, 3)] 3000 = true := by decide +kernel
theorem zpT547 : zcheck zpZ zpRS zpMT [zpC73, zpC74, zpC106, zpC114, zpC124, zpC128, zpC144] zpC547 zpP0 1 zpA547 [(28, 2, 0, 3)] 3000 = true := by decide +kernel
theorem zpT548 : zcheck zpZ zpRS zpMT [zpC73, zpC74, zpC106, zpC149, zpC156, zpC163, zpC179] zpC548 zpP0 1 zpA548 [(28, 2, 0, 3)] 3000 = true := by decide +kernel
theorem zpT549 : zcheck zpZ zpRS zpMT [zpC73, zpC74, zpC106, zpC187, zpC200, zpC204, zpC223] zpC549 zpP0 1 zpA549 [(28, 2, 0, 3)] 3000 = true := by decide +kernel
theorem zpT550 : zcheck zpZ zpRS zpMT [zpC73, zpC74, zpC106, zpC234, zpC247, zpC251, zpC270] zpC550 zpP0 1 zpA550 [(28, 2, 0, 3)] 3000 = true := by decide +kernel
theorem zpT551 : zcheck zpZ zpRS zpMT [zpC73, zpC74, zpC106, zpC275, zpC282, zpC286, zpC302] zpC551 zpP0 1 zpA551 [(28, 2, 0, 3)] 3000 = true := by decide +kernel
theorem zpT552 : zcheck zpZ zpRS zpMT [zpC73, zpC74, zpC106, zpC313, zpC335, zpC339, zpC367] zpC552 zpP0 1 zpA552 [(28, 2, 0, 3)] 3000 = true := by decide +kernel
theorem zpT553 : zcheck zpZ zpRS zpMT [zpC73, zpC74, zpC106, zpC372, zpC379, zpC389, zpC408] zpC553 zpP0 1 zpA553 [(28, 2, 0, 3)] 3000 = true := by decide +kernel
