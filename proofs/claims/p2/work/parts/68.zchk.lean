theorem zpT420 : zcheck zpZ zpRS zpMT [] zpC420 zpP11 1 zpA420 [] 3000 = true := by decide +kernel
theorem zpT421 : zcheck zpZ zpRS zpMT [zpC420] zpC421 zpP11 1 zpA421 [] 3000 = true := by decide +kernel
theorem zpT422 : zcheck zpZ zpRS zpMT [] zpC422 zpP11 1 zpA422 [] 3000 = true := by decide +kernel
theorem zpT423 : zcheck zpZ zpRS zpMT [] zpC423 zpP11 1 zpA423 [] 3000 = true := by decide +kernel
theorem zpT424 : zcheck zpZ zpRS zpMT [zpC404, zpC422, zpC423] zpC424 zpP11 1 zpA424 [] 3000 = true := by decide +kernel
theorem zpT425 : zcheck zpZ zpRS zpMT [] zpC425 zpP11 1 zpA425 [] 3000 = true := by decide +kernel
theorem zpT426 : zcheck zpZ zpRS zpMT [zpC425] zpC426 zpP11 1 zpA426 [] 3000 = true := by decide +kernel
theorem zpT427 : zcheck zpZ zpRS zpMT [zpC420] zpC427 zpP11 1 zpA427 [] 3000 = true := by decide +kernel
theorem zpT428 : zcheck zpZ zpRS zpMT [zpC411, zpC422, zpC423] zpC428 zpP11 1 zpA428 [] 3000 = true := by decide +kernel
theorem zpT429 : zcheck zpZ zpRS zpMT [zpC425] zpC429 zpP11 1 zpA429 [] 3000 = true := by decide +kernel
theorem zpT430 : zcheck zpZ zpRS zpMT [zpC420] zpC430 zpP11 1 zpA430 [] 3000 = true := by decide +kernel
theorem zpT431 : zcheck zpZ zpRS zpMT [] zpC431 zpP11 2 zpA431 [] 3000 = true := by decide +kernel
theorem zpT432 : zcheck zpZ zpRS zpMT [zpC422, zpC423, zpC431] zpC432 zpP11 1 zpA432 [] 3000 = true := by decide +kernel
theorem zpT433 : zcheck zpZ zpRS zpMT [zpC425] zpC433 zpP11 1 zpA433 [] 3000 = true := by decide +kernel
theorem zpT434 : zcheck zpZ zpRS zpMT [] zpC434 zpP11 2 zpA434 [] 3000 = true := by decide +kernel
theorem zpT435 : zcheck zpZ zpRS zpMT [zpC422, zpC423, zpC434] zpC435 zpP11 1 zpA435 [] 3000 = true := by decide +kernel
theorem zpT436 : zcheck zpZ zpRS zpMT [] zpC436 zpP11 2 zpA436 [] 3000 = true := by decide +kernel
theorem zpT437 : zcheck zpZ zpRS zpMT [zpC422, zpC423, zpC436] zpC437 zpP11 1 zpA437 [] 3000 = true := by decide +kernel
theorem zpT438 : zcheck zpZ zpRS zpMT [zpC425] zpC438 zpP11 1 zpA438 [] 3000 = true := by decide +kernel
theorem zpT439 : zcheck zpZ zpRS zpMT [zpC420] zpC439 zpP11 1 zpA439 [] 3000 = true := by decide +kernel
theorem zpT440 : zcheck zpZ zpRS zpMT [] zpC440 zpP11 2 zpA440 [] 3000 = true := by decide +kernel
theorem zpT441 : zcheck zpZ zpRS zpMT [zpC422, zpC423, zpC440] zpC441 zpP11 1 zpA441 [] 3000 = true := by decide +kernel
theorem zpT442 : zcheck zpZ zpRS zpMT [zpC422] zpC442 zpP11 2 zpA442 [] 3000 = true := by decide +kernel
theorem zpT443 : zcheck zpZ zpRS zpMT [] zpC443 zpP11 2 zpA443 [] 3000 = true := by decide +kernel
theorem zpT444 : zcheck zpZ zpRS zpMT [] zpC444 zpP11 2 zpA444 [] 3000 = true := by decide +kernel
theorem zpT445 : zcheck zpZ zpRS zpMT [zpC422] zpC445 zpP11 2 zpA445 [] 3000 = true := by decide +kernel
theorem zpT446 : zcheck zpZ zpRS zpMT [] zpC446 zpP11 2 zpA446 [] 3000 = true := by decide +kernel
theorem zpT447 : zcheck zpZ zpRS zpMT [] zpC447 zpP11 2 zpA447 [] 3000 = true := by decide +kernel
theorem zpT448 : zcheck zpZ zpRS zpMT [zpC422] zpC448 zpP11 2 zpA448 [] 3000 = true := by decide +kernel
theorem zpT449 : zcheck zpZ zpRS zpMT [zpC423, zpC448] zpC449 zpP11 0 zpA449 [] 3000 = true := by decide +kernel
theorem zpT450 : zcheck zpZ zpRS zpMT [] zpC450 zpP11 0 zpA450 [] 3000 = true := by decide +kernel
theorem zpT451 : zcheck zpZ zpRS zpMT [] zpC451 zpP11 0 zpA451 [] 3000 = true := by decide +kernel
theorem zpT452 : zcheck zpZ zpRS zpMT [zpC419, zpC421, zpC423, zpC424, zpC426, zpC427, zpC428, zpC429, zpC430, zpC432, zpC433, zpC435, zpC437, zpC438, zpC439, zpC441, zpC442, zpC443, zpC444, zpC445, zpC446, zpC447, zpC449, zpC450, zpC451] zpC452 zpP11 1 zpA452 [] 3000 = true := by decide +kernel
theorem zpT453 : zcheck zpZ zpRS zpMT [zpC411] zpC453 zpP11 2 zpA453 [] 3000 = true := by decide +kernel
theorem zpT454 : zcheck zpZ zpRS zpMT [] zpC454 zpP11 2 zpA454 [] 3000 = true := by decide +kernel
theorem zpT455 : zcheck zpZ zpRS zpMT [zpC405, zpC407, zpC411, zpC419, zpC431, zpC453, zpC454] zpC455 zpP11 1 zpA455 [(74, 4, 0, 12)] 3000 = true := by decide +kernel
theorem zpT456 : zcheck zpZ zpRS zpMT [] zpC456 zpP11 2 zpA456 [] 3000 = true := by decide +kernel
theorem zpT457 : zcheck zpZ zpRS zpMT [zpC456] zpC457 zpP11 1 zpA457 [] 3000 = true := by decide +kernel
theorem zpT458 : zcheck zpZ zpRS zpMT [] zpC458 zpP11 2 zpA458 [] 3000 = true := by decide +kernel
theorem zpT459 : zcheck zpZ zpRS zpMT [zpC458] zpC459 zpP11 2 zpA459 [] 3000 = true := by decide +kernel
theorem zpT460 : zcheck zpZ zpRS zpMT [] zpC460 zpP11 1 zpA460 [] 3000 = true := by decide +kernel
theorem zpT461 : zcheck zpZ zpRS zpMT [zpC457, zpC459, zpC460] zpC461 zpP11 1 zpA461 [] 3000 = true := by decide +kernel
theorem zpT462 : zcheck zpZ zpRS zpMT [] zpC462 zpP11 2 zpA462 [] 3000 = true := by decide +kernel
theorem zpT463 : zcheck zpZ zpRS zpMT [zpC462] zpC463 zpP11 2 zpA463 [] 3000 = true := by decide +kernel
theorem zpT464 : zcheck zpZ zpRS zpMT [zpC457, zpC460, zpC461, zpC463] zpC464 zpP11 1 zpA464 [] 3000 = true := by decide +kernel
theorem zpT465 : zcheck zpZ zpRS zpMT [zpC409, zpC463] zpC465 zpP11 1 zpA465 [] 3000 = true := by decide +kernel
theorem zpT466 : zcheck zpZ zpRS zpMT [zpC404] zpC466 zpP11 2 zpA466 [] 3000 = true := by decide +kernel
theorem zpT467 : zcheck zpZ zpRS zpMT [zpC461, zpC466] zpC467 zpP11 1 zpA467 [] 3000 = true := by decide +kernel
theorem zpT468 : zcheck zpZ zpRS zpMT [zpC461] zpC468 zpP11 0 zpA468 [] 3000 = true := by decide +kernel
theorem zpT469 : zcheck zpZ zpRS zpMT [] zpC469 zpP11 2 zpA469 [] 3000 = true := by decide +kernel
theorem zpT470 : zcheck zpZ zpRS zpMT [zpC460, zpC469] zpC470 zpP11 2 zpA470 [] 3000 = true := by decide +kernel
theorem zpT471 : zcheck zpZ zpRS zpMT [zpC410, zpC463, zpC468, zpC470] zpC471 zpP11 1 zpA471 [] 3000 = true := by decide +kernel
theorem zpT472 : zcheck zpZ zpRS zpMT [zpC410, zpC466, zpC468, zpC470] zpC472 zpP11 1 zpA472 [] 3000 = true := by decide +kernel
theorem zpT473 : zcheck zpZ zpRS zpMT [] zpC473 zpP11 2 zpA473 [] 3000 = true := by decide +kernel
theorem zpT474 : zcheck zpZ zpRS zpMT [zpC463, zpC473] zpC474 zpP11 1 zpA474 [] 3000 = true := by decide +kernel
theorem zpT475 : zcheck zpZ zpRS zpMT [zpC469] zpC475 zpP11 2 zpA475 [] 3000 = true := by decide +kernel
theorem zpT476 : zcheck zpZ zpRS zpMT [zpC410, zpC460, zpC466, zpC468, zpC475] zpC476 zpP11 1 zpA476 [] 3000 = true := by decide +kernel
theorem zpT477 : zcheck zpZ zpRS zpMT [zpC463, zpC468, zpC475] zpC477 zpP11 3 zpA477 [] 3000 = true := by decide +kernel
theorem zpT478 : zcheck zpZ zpRS zpMT [] zpC478 zpP11 0 zpA478 [] 3000 = true := by decide +kernel
theorem zpT479 : zcheck zpZ zpRS zpMT [zpC460, zpC469, zpC478] zpC479 zpP11 0 zpA479 [] 3000 = true := by decide +kernel
