theorem zpT413 : zcheck zpZ zpRS zpMT [zpC73, zpC74, zpC106, zpC149, zpC156, zpC163, zpC179] zpC413 zpP0 1 zpA413 [(28, 2, 0, 3)] 3000 = true := by decide +kernel
theorem zpT414 : zcheck zpZ zpRS zpMT [zpC73, zpC74, zpC106, zpC187, zpC200, zpC204, zpC223] zpC414 zpP0 1 zpA414 [(28, 2, 0, 3)] 3000 = true := by decide +kernel
theorem zpT415 : zcheck zpZ zpRS zpMT [zpC73, zpC74, zpC106, zpC234, zpC247, zpC251, zpC270] zpC415 zpP0 1 zpA415 [(28, 2, 0, 3)] 3000 = true := by decide +kernel
theorem zpT416 : zcheck zpZ zpRS zpMT [zpC73, zpC74, zpC106, zpC275, zpC282, zpC286, zpC302] zpC416 zpP0 1 zpA416 [(28, 2, 0, 3)] 3000 = true := by decide +kernel
theorem zpT417 : zcheck zpZ zpRS zpMT [zpC73, zpC74, zpC106, zpC313, zpC335, zpC339, zpC367] zpC417 zpP0 1 zpA417 [(28, 2, 0, 3)] 3000 = true := by decide +kernel
theorem zpT418 : zcheck zpZ zpRS zpMT [zpC73, zpC74, zpC106, zpC372, zpC379, zpC389, zpC408] zpC418 zpP0 1 zpA418 [(28, 2, 0, 3)] 3000 = true := by decide +kernel
theorem zpT419 : zcheck zpZ zpRS zpMT [zpC73, zpC74] zpC419 zpP0 1 zpA419 [(28, 2, 0, 3)] 3000 = true := by decide +kernel
theorem zpT420 : zcheck zpZ zpRS zpMT [zpC73, zpC74, zpC81, zpC88, zpC92, zpC105, zpC106] zpC420 zpP0 1 zpA420 [(28, 2, 0, 3)] 3000 = true := by decide +kernel
theorem zpT421 : zcheck zpZ zpRS zpMT [zpC73, zpC74, zpC106, zpC114, zpC124, zpC128, zpC144] zpC421 zpP0 1 zpA421 [(28, 2, 0, 3)] 3000 = true := by decide +kernel
theorem zpT422 : zcheck zpZ zpRS zpMT [zpC73, zpC74, zpC106, zpC149, zpC156, zpC163, zpC179] zpC422 zpP0 1 zpA422 [(28, 2, 0, 3)] 3000 = true := by decide +kernel
theorem zpT423 : zcheck zpZ zpRS zpMT [zpC73, zpC74, zpC106, zpC187, zpC200, zpC204, zpC223] zpC423 zpP0 1 zpA423 [(28, 2, 0, 3)] 3000 = true := by decide +kernel
theorem zpT424 : zcheck zpZ zpRS zpMT [zpC73, zpC74, zpC106, zpC234, zpC247, zpC251, zpC270] zpC424 zpP0 1 zpA424 [(28, 2, 0, 3)] 3000 = true := by decide +kernel
theorem zpT425 : zcheck zpZ zpRS zpMT [zpC73, zpC74, zpC106, zpC275, zpC282, zpC286, zpC302] zpC425 zpP0 1 zpA425 [(28, 2, 0, 3)] 3000 = true := by decide +kernel
theorem zpT426 : zcheck zpZ zpRS zpMT [zpC73, zpC74, zpC106, zpC313, zpC335, zpC339, zpC367] zpC426 zpP0 1 zpA426 [(28, 2, 0, 3)] 3000 = true := by decide +kernel
theorem zpT427 : zcheck zpZ zpRS zpMT [zpC73, zpC74, zpC106, zpC372, zpC379, zpC389, zpC408] zpC427 zpP0 1 zpA427 [(28, 2, 0, 3)] 3000 = true := by decide +kernel
theorem zpT428 : zcheck zpZ zpRS zpMT [zpC73, zpC74] zpC428 zpP0 1 zpA428 [(28, 2, 0, 3)] 3000 = true := by decide +kernel
theorem zpT429 : zcheck zpZ zpRS zpMT [zpC73, zpC74, zpC81, zpC88, zpC92, zpC105, zpC106] zpC429 zpP0 1 zpA429 [(28, 2, 0, 3)] 3000 = true := by decide +kernel
theorem zpT430 : zcheck zpZ zpRS zpMT [zpC73, zpC74, zpC106, zpC114, zpC124, zpC128, zpC144] zpC430 zpP0 1 zpA430 [(28, 2, 0, 3)] 3000 = true := by decide +kernel
theorem zpT431 : zcheck zpZ zpRS zpMT [zpC73, zpC74, zpC106, zpC149, zpC156, zpC163, zpC179] zpC431 zpP0 1 zpA431 [(28, 2, 0, 3)] 3000 = true := by decide +kernel
theorem zpT432 : zcheck zpZ zpRS zpMT [zpC73, zpC74, zpC106, zpC187, zpC200, zpC204, zpC223] zpC432 zpP0 1 zpA432 [(28, 2, 0, 3)] 3000 = true := by decide +kernel
theorem zpT433 : zcheck zpZ zpRS zpMT [zpC73, zpC74, zpC106, zpC234, zpC247, zpC251, zpC270] zpC433 zpP0 1 zpA433 [(28, 2, 0, 3)] 3000 = true := by decide +kernel
theorem zpT434 : zcheck zpZ zpRS zpMT [zpC73, zpC74, zpC106, zpC275, zpC282, zpC286, zpC302] zpC434 zpP0 1 zpA434 [(28, 2, 0, 3)] 3000 = true := by decide +kernel
theorem zpT435 : zcheck zpZ zpRS zpMT [zpC73, zpC74, zpC106, zpC313, zpC335, zpC339, zpC367] zpC435 zpP0 1 zpA435 [(28, 2, 0, 3)] 3000 = true := by decide +kernel
theorem zpT436 : zcheck zpZ zpRS zpMT [zpC73, zpC74, zpC106, zpC372, zpC379, zpC389, zpC408] zpC436 zpP0 1 zpA436 [(28, 2, 0, 3)] 3000 = true := by decide +kernel
theorem zpT437 : zcheck zpZ zpRS zpMT [zpC73, zpC74] zpC437 zpP0 1 zpA437 [(28, 2, 0, 3)] 3000 = true := by decide +kernel
theorem zpT438 : zcheck zpZ zpRS zpMT [zpC73, zpC74, zpC81, zpC88, zpC92, zpC105, zpC106] zpC438 zpP0 1 zpA438 [(28, 2, 0, 3)] 3000 = true := by decide +kernel
theorem zpT439 : zcheck zpZ zpRS zpMT [zpC73, zpC74, zpC106, zpC114, zpC124, zpC128, zpC144] zpC439 zpP0 1 zpA439 [(28, 2, 0, 3)] 3000 = true := by decide +kernel
theorem zpT440 : zcheck zpZ zpRS zpMT [zpC73, zpC74, zpC106, zpC149, zpC156, zpC163, zpC179] zpC440 zpP0 1 zpA440 [(28, 2, 0, 3)] 3000 = true := by decide +kernel
theorem zpT441 : zcheck zpZ zpRS zpMT [zpC73, zpC74, zpC106, zpC187, zpC200, zpC204, zpC223] zpC441 zpP0 1 zpA441 [(28, 2, 0, 3)] 3000 = true := by decide +kernel
theorem zpT442 : zcheck zpZ zpRS zpMT [zpC73, zpC74, zpC106, zpC234, zpC247, zpC251, zpC270] zpC442 zpP0 1 zpA442 [(28, 2, 0, 3)] 3000 = true := by decide +kernel
theorem zpT443 : zcheck zpZ zpRS zpMT [zpC73, zpC74, zpC106, zpC275, zpC282, zpC286, zpC302] zpC443 zpP0 1 zpA443 [(28, 2, 0, 3)] 3000 = true := by decide +kernel
theorem zpT444 : zcheck zpZ zpRS zpMT [zpC73, zpC74, zpC106, zpC313, zpC335, zpC339, zpC367] zpC444 zpP0 1 zpA444 [(28, 2, 0, 3)] 3000 = true := by decide +kernel
theorem zpT445 : zcheck zpZ zpRS zpMT [zpC73, zpC74, zpC106, zpC372, zpC379, zpC389, zpC408] zpC445 zpP0 1 zpA445 [(28, 2, 0, 3)] 3000 = true := by decide +kernel
theorem zpT446 : zcheck zpZ zpRS zpMT [zpC73, zpC74] zpC446 zpP0 1 zpA446 [(28, 2, 0, 3)] 3000 = true := by decide +kernel
theorem zpT447 : zcheck zpZ zpRS zpMT [zpC73, zpC74, zpC81, zpC88, zpC92, zpC105, zpC106] zpC447 zpP0 1 zpA447 [(28, 2, 0, 3)] 3000 = true := by decide +kernel
theorem zpT448 : zcheck zpZ zpRS zpMT [zpC73, zpC74, zpC106, zpC114, zpC124, zpC128, zpC144] zpC448 zpP0 1 zpA448 [(28, 2, 0, 3)] 3000 = true := by decide +kernel
theorem zpT449 : zcheck zpZ zpRS zpMT [zpC73, zpC74, zpC106, zpC149, zpC156, zpC163, zpC179] zpC449 zpP0 1 zpA449 [(28, 2, 0, 3)] 3000 = true := by decide +kernel
theorem zpT450 : zcheck zpZ zpRS zpMT [zpC73, zpC74, zpC106, zpC187, zpC200, zpC204, zpC223] zpC450 zpP0 1 zpA450 [(28, 2, 0, 3)] 3000 = true := by decide +kernel
theorem zpT451 : zcheck zpZ zpRS zpMT [zpC73, zpC74, zpC106, zpC234, zpC247, zpC251, zpC270] zpC451 zpP0 1 zpA451 [(28, 2, 0, 3)] 3000 = true := by decide +kernel
theorem zpT452 : zcheck zpZ zpRS zpMT [zpC73, zpC74, zpC106, zpC275, zpC282, zpC286, zpC302] zpC452 zpP0 1 zpA452 [(28, 2, 0, 3)] 3000 = true := by decide +kernel
theorem zpT453 : zcheck zpZ zpRS zpMT [zpC73, zpC74, zpC106, zpC313, zpC335, zpC339, zpC367] zpC453 zpP0 1 zpA453 [(28, 2, 0, 3)] 3000 = true := by decide +kernel
theorem zpT454 : zcheck zpZ zpRS zpMT [zpC73, zpC74, zpC106, zpC372, zpC379, zpC389, zpC408] zpC454 zpP0 1 zpA454 [(28, 2, 0, 3)] 3000 = true := by decide +kernel
theorem zpT455 : zcheck zpZ zpRS zpMT [zpC73, zpC74] zpC455 zpP0 1 zpA455 [(28, 2, 0, 3)] 3000 = true := by decide +kernel
theorem zpT456 : zcheck zpZ zpRS zpMT [zpC73, zpC74, zpC81, zpC88, zpC92, zpC105, zpC106] zpC456 zpP0 1 zpA456 [(28, 2, 0, 3)] 3000 = true := by decide +kernel
theorem zpT457 : zcheck zpZ zpRS zpMT [zpC73, zpC74, zpC106, zpC114, zpC124, zpC128, zpC144] zpC457 zpP0 1 zpA457 [(28, 2, 0, 3)] 3000 = true := by decide +kernel
theorem zpT458 : zcheck zpZ zpRS zpMT [zpC73, zpC74, zpC106, zpC149, zpC156, zpC163, zpC179] zpC458 zpP0 1 zpA458 [(28, 2, 0, 3)] 3000 = true := by decide +kernel
theorem zpT459 : zcheck zpZ zpRS zpMT [zpC73, zpC74, zpC106, zpC187, zpC200, zpC204, zpC223] zpC459 zpP0 1 zpA459 [(28, 2, 0, 3)] 3000 = true := by decide +kernel
theorem zpT460 : zcheck zpZ zpRS zpMT [zpC73, zpC74, zpC106, zpC234, zpC247, zpC251, zpC270] zpC460 zpP0 1 zpA460 [(28, 2, 0, 3)] 3000 = true := by decide +kernel
theorem zpT461 : zcheck zpZ zpRS zpMT [zpC73, zpC74, zpC106, zpC275, zpC282, zpC286, zpC302] zpC461 zpP0 1 zpA461 [(28, 2, 0, 3)] 3000 = true := by decide +kernel
theorem zpT462 : zcheck zpZ zpRS zpMT [zpC73, zpC74, zpC106, zpC313, zpC335, zpC339, zpC367] zpC462 zpP0 1 zpA462 [(28, 2, 0, 3)] 3000 = true := by decide +kernel
theorem zpT463 : zcheck zpZ zpRS zpMT [zpC73, zpC74, zpC106, zpC372, zpC379, zpC389, zpC408] zpC463 zpP0 1 zpA463 [(28, 2, 0, 3)] 3000 = true := by decide +kernel
theorem zpT464 : zcheck zpZ zpRS zpMT [zpC73, zpC74] zpC464 zpP0 1 zpA464 [(28, 2, 0, 3)] 3000 = true := by decide +kernel
theorem zpT465 : zcheck zpZ zpRS zpMT [zpC73, zpC74, zpC81, zpC88, zpC92, zpC105, zpC106] zpC465 zpP0 1 zpA465 [(28, 2, 0, 3)] 3000 = true := by decide +kernel
theorem zpT466 : zcheck zpZ zpRS zpMT [zpC73, zpC74, zpC106, zpC114, zpC124, zpC128, zpC144] zpC466 zpP0 1 zpA466 [(28, 2, 0, 3)] 3000 = true := by decide +kernel
theorem zpT467 : zcheck zpZ zpRS zpMT [zpC73, zpC74, zpC106, zpC149, zpC156, zpC163, zpC179] zpC467 zpP0 1 zpA467 [(28, 2, 0, 3)] 3000 = true := by decide +kernel
theorem zpT468 : zcheck zpZ zpRS zpMT [zpC73, zpC74, zpC106, zpC187, zpC200, zpC204, zpC223] zpC468 zpP0 1 zpA468 [(28, 2, 0, 3)] 3000 = true := by decide +kernel
theorem zpT469 : zcheck zpZ zpRS zpMT [zpC73, zpC74, zpC106, zpC234, zpC247, zpC251, zpC270] zpC469 zpP0 1 zpA469 [(28, 2, 0, 3)] 3000 = true := by decide +kernel
theorem zpT470 : zcheck zpZ zpRS zpMT [zpC73, zpC74, zpC106, zpC275, zpC282, zpC286, zpC302] zpC470 zpP0 1 zpA470 [(28, 2, 0, 3)] 3000 = true := by decide +kernel
theorem zpT471 : zcheck zpZ zpRS zpMT [zpC73, zpC74, zpC106, zpC313, zpC335, zpC339, zpC367] zpC471 zpP0 1 zpA471 [(28, 2, 0, 3)] 3000 = true := by decide +kernel
theorem zpT472 : zcheck zpZ zpRS zpMT [zpC73, zpC74, zpC106, zpC372, zpC379, zpC389, zpC408] zpC472 zpP0 1 zpA472 [(28, 2, 0, 3)] 3000 = true := by decide +kernel
theorem zpT473 : zcheck zpZ zpRS zpMT [zpC73, zpC74] zpC473 zpP0 1 zpA473 [(28, 2, 0, 3)] 3000 = true := by decide +kernel
theorem zpT474 : zcheck zpZ zpRS zpMT [zpC73, zpC74, zpC81, zpC88, zpC92, zpC105, zpC106] zpC474 zpP0 1 zpA474 [(28, 2, 0, 3)] 3000 = true := by decide +kernel
theorem zpT475 : zcheck zpZ zpRS zpMT [zpC73, zpC74, zpC106, zpC114, zpC124, zpC128, zpC144] zpC475 zpP0 1 zpA475 [(28, 2, 0, 3)] 3000 = true := by decide +kernel
theorem zpT476 : zcheck zpZ zpRS zpMT [zpC73, zpC74, zpC106, zpC149, zpC156, zpC163, zpC179] zpC476 zpP0 1 zpA476 [(28, 2, 0, 3)] 3000 = true := by decide +kernel
theorem zpT477 : zcheck zpZ zpRS zpMT [zpC73, zpC74, zpC106, zpC187, zpC200, zpC204, zpC223] zpC477 zpP0 1 zpA477 [(28, 2, 0, 3)] 3000 = true := by decide +kernel
theorem zpT478 : zcheck zpZ zpRS zpMT [zpC73, zpC74, zpC106, zpC234, zpC247, zpC251, zpC270] zpC478 zpP0 1 zpA478 [(28, 2, 0, 3)] 3000 = true := by decide +kernel
theorem zpT479 : zcheck zpZ zpRS zpMT [zpC73, zpC74, zpC106, zpC275, zpC282, zpC286, zpC302] zpC479 zpP0 1 zpA479 [(28, 2, 0, 3)] 3000 = true := by decide +kernel
theorem zpT480 : zcheck zpZ zpRS zpMT [zpC73, zpC74, zpC106, zpC313, zpC335, zpC339, zpC367] zpC480 zpP0 1 zpA480 [(28, 2, 0, 3)] 3000 = true := by decide +kernel
theorem zpT481 : zcheck zpZ zpRS zpMT [zpC73, zpC74, zpC106, zpC372, zpC379, zpC389, zpC408] zpC481 zpP0 1 zpA481 [(28, 2, 0, 3)] 3000 = true := by decide +kernel
theorem zpT482 : zcheck zpZ zpRS zpMT [zpC73, zpC74] zpC482 zpP0 1 zpA482 [(28, 2, 0, 3)] 3000 = true := by decide +kernel
theorem zpT483 : zcheck zpZ zpRS zpMT [zpC73, zpC74, zpC81, zpC88, zpC92, zpC105, zpC106] zpC483 zpP0 1 zpA483 [(28, 2, 0, 3)] 3000 = true := by decide +kernel
