theorem zpT330 : zcheck zpZ zpRS zpMT [zpC189] zpC330 zpP1 1 zpA330 [] 3000 = true := by decide +kernel
theorem zpT331 : zcheck zpZ zpRS zpMT [zpC55, zpC185] zpC331 zpP1 1 zpA331 [] 3000 = true := by decide +kernel
theorem zpT332 : zcheck zpZ zpRS zpMT [zpC197] zpC332 zpP1 1 zpA332 [] 3000 = true := by decide +kernel
theorem zpT333 : zcheck zpZ zpRS zpMT [zpC332] zpC333 zpP1 1 zpA333 [] 3000 = true := by decide +kernel
theorem zpT334 : zcheck zpZ zpRS zpMT [zpC55, zpC333] zpC334 zpP1 1 zpA334 [] 3000 = true := by decide +kernel
theorem zpT335 : zcheck zpZ zpRS zpMT [zpC55, zpC185] zpC335 zpP1 1 zpA335 [] 3000 = true := by decide +kernel
theorem zpT336 : zcheck zpZ zpRS zpMT [zpC199] zpC336 zpP1 1 zpA336 [] 3000 = true := by decide +kernel
theorem zpT337 : zcheck zpZ zpRS zpMT [zpC336] zpC337 zpP1 1 zpA337 [] 3000 = true := by decide +kernel
theorem zpT338 : zcheck zpZ zpRS zpMT [zpC55, zpC337] zpC338 zpP1 1 zpA338 [] 3000 = true := by decide +kernel
theorem zpT339 : zcheck zpZ zpRS zpMT [zpC55, zpC185] zpC339 zpP1 1 zpA339 [] 3000 = true := by decide +kernel
theorem zpT340 : zcheck zpZ zpRS zpMT [zpC186, zpC220, zpC324, zpC331, zpC334, zpC335, zpC338, zpC339] zpC340 zpP1 1 zpA340 [] 3000 = true := by decide +kernel
theorem zpT341 : zcheck zpZ zpRS zpMT [zpC55, zpC215] zpC341 zpP1 1 zpA341 [] 3000 = true := by decide +kernel
theorem zpT342 : zcheck zpZ zpRS zpMT [zpC55, zpC215] zpC342 zpP1 1 zpA342 [] 3000 = true := by decide +kernel
theorem zpT343 : zcheck zpZ zpRS zpMT [zpC55, zpC215] zpC343 zpP1 1 zpA343 [] 3000 = true := by decide +kernel
theorem zpT344 : zcheck zpZ zpRS zpMT [zpC55, zpC215] zpC344 zpP1 1 zpA344 [] 3000 = true := by decide +kernel
theorem zpT345 : zcheck zpZ zpRS zpMT [zpC262] zpC345 zpP1 1 zpA345 [] 3000 = true := by decide +kernel
theorem zpT346 : zcheck zpZ zpRS zpMT [zpC320, zpC345] zpC346 zpP1 1 zpA346 [] 3000 = true := by decide +kernel
theorem zpT347 : zcheck zpZ zpRS zpMT [zpC55, zpC346] zpC347 zpP1 1 zpA347 [] 3000 = true := by decide +kernel
theorem zpT348 : zcheck zpZ zpRS zpMT [zpC55, zpC215] zpC348 zpP1 1 zpA348 [] 3000 = true := by decide +kernel
theorem zpT349 : zcheck zpZ zpRS zpMT [zpC216, zpC328, zpC341, zpC342, zpC343, zpC344, zpC347, zpC348] zpC349 zpP1 1 zpA349 [] 3000 = true := by decide +kernel
theorem zpT350 : zcheck zpZ zpRS zpMT [zpC55, zpC188] zpC350 zpP1 1 zpA350 [] 3000 = true := by decide +kernel
theorem zpT351 : zcheck zpZ zpRS zpMT [zpC308] zpC351 zpP1 1 zpA351 [] 3000 = true := by decide +kernel
theorem zpT352 : zcheck zpZ zpRS zpMT [zpC351] zpC352 zpP1 1 zpA352 [] 3000 = true := by decide +kernel
theorem zpT353 : zcheck zpZ zpRS zpMT [zpC55, zpC352] zpC353 zpP1 1 zpA353 [] 3000 = true := by decide +kernel
theorem zpT354 : zcheck zpZ zpRS zpMT [zpC55, zpC188] zpC354 zpP1 1 zpA354 [] 3000 = true := by decide +kernel
theorem zpT355 : zcheck zpZ zpRS zpMT [zpC55, zpC188] zpC355 zpP1 1 zpA355 [] 3000 = true := by decide +kernel
theorem zpT356 : zcheck zpZ zpRS zpMT [zpC55, zpC188] zpC356 zpP1 1 zpA356 [] 3000 = true := by decide +kernel
theorem zpT357 : zcheck zpZ zpRS zpMT [zpC55, zpC188] zpC357 zpP1 1 zpA357 [] 3000 = true := by decide +kernel
theorem zpT358 : zcheck zpZ zpRS zpMT [zpC308] zpC358 zpP1 1 zpA358 [] 3000 = true := by decide +kernel
theorem zpT359 : zcheck zpZ zpRS zpMT [zpC214, zpC358] zpC359 zpP1 1 zpA359 [] 3000 = true := by decide +kernel
theorem zpT360 : zcheck zpZ zpRS zpMT [zpC55, zpC359] zpC360 zpP1 1 zpA360 [] 3000 = true := by decide +kernel
theorem zpT361 : zcheck zpZ zpRS zpMT [zpC189, zpC350, zpC353, zpC354, zpC355, zpC356, zpC357, zpC360] zpC361 zpP1 1 zpA361 [] 3000 = true := by decide +kernel
theorem zpT362 : zcheck zpZ zpRS zpMT [zpC187, zpC190, zpC217, zpC221, zpC323, zpC325, zpC329, zpC330, zpC340, zpC349, zpC361] zpC362 zpP1 1 zpA362 [] 3000 = true := by decide +kernel
theorem zpT363 : zcheck zpZ zpRS zpMT [zpC55, zpC362] zpC363 zpP1 1 zpA363 [] 3000 = true := by decide +kernel
theorem zpT364 : zcheck zpZ zpRS zpMT [zpC55, zpC362] zpC364 zpP1 1 zpA364 [] 3000 = true := by decide +kernel
theorem zpT365 : zcheck zpZ zpRS zpMT [zpC55, zpC362] zpC365 zpP1 1 zpA365 [] 3000 = true := by decide +kernel
theorem zpT366 : zcheck zpZ zpRS zpMT [zpC55, zpC362] zpC366 zpP1 1 zpA366 [] 3000 = true := by decide +kernel
theorem zpT367 : zcheck zpZ zpRS zpMT [zpC55, zpC362] zpC367 zpP1 1 zpA367 [] 3000 = true := by decide +kernel
theorem zpT368 : zcheck zpZ zpRS zpMT [zpC55, zpC362] zpC368 zpP1 1 zpA368 [] 3000 = true := by decide +kernel
theorem zpT369 : zcheck zpZ zpRS zpMT [zpC55, zpC362] zpC369 zpP1 1 zpA369 [] 3000 = true := by decide +kernel
theorem zpT370 : zcheck zpZ zpRS zpMT [zpC55, zpC362] zpC370 zpP1 1 zpA370 [] 3000 = true := by decide +kernel
theorem zpT371 : zcheck zpZ zpRS zpMT [zpC363, zpC364, zpC365, zpC366, zpC367, zpC368, zpC369, zpC370] zpC371 zpP1 1 zpA371 [] 3000 = true := by decide +kernel
theorem zpT372 : zcheck zpZ zpRS zpMT [zpC371] zpC372 zpP1 1 zpA372 [] 3000 = true := by decide +kernel
theorem zpT373 : zcheck zpZ zpRS zpMT [zpC6, zpC143, zpC184, zpC372] zpC373 zpP0 1 zpA373 [] 3000 = true := by decide +kernel
theorem zpT374 : zcheck zpZ zpRS zpMT [] zpC374 zpP0 2 zpA374 [] 3000 = true := by decide +kernel
theorem zpT375 : zcheck zpZ zpRS zpMT [zpC10, zpC80, zpC374] zpC375 zpP0 1 zpA375 [] 3000 = true := by decide +kernel
theorem zpT376 : zcheck zpZ zpRS zpMT [] zpC376 zpP6 0 zpA376 [] 3000 = true := by decide +kernel
theorem zpT377 : zcheck zpZ zpRS zpMT [] zpC377 zpP6 0 zpA377 [] 3000 = true := by decide +kernel
theorem zpT378 : zcheck zpZ zpRS zpMT [zpC12, zpC143, zpC376, zpC377] zpC378 zpP0 1 zpA378 [] 3000 = true := by decide +kernel
theorem zpT379 : zcheck zpZ zpRS zpMT [] zpC379 zpP6 0 zpA379 [] 3000 = true := by decide +kernel
theorem zpT380 : zcheck zpZ zpRS zpMT [] zpC380 zpP0 2 zpA380 [] 3000 = true := by decide +kernel
theorem zpT381 : zcheck zpZ zpRS zpMT [zpC12, zpC379, zpC380] zpC381 zpP0 1 zpA381 [] 3000 = true := by decide +kernel
theorem zpT382 : zcheck zpZ zpRS zpMT [] zpC382 zpP6 3 zpA382 [] 3000 = true := by decide +kernel
theorem zpT383 : zcheck zpZ zpRS zpMT [zpC12, zpC53] zpC383 zpP6 1 zpA383 [] 3000 = true := by decide +kernel
theorem zpT384 : zcheck zpZ zpRS zpMT [zpC10, zpC383] zpC384 zpP6 1 zpA384 [] 3000 = true := by decide +kernel
theorem zpT385 : zcheck zpZ zpRS zpMT [zpC382, zpC384] zpC385 zpP0 1 zpA385 [] 3000 = true := by decide +kernel
theorem zpT386 : zcheck zpZ zpRS zpMT [zpC384] zpC386 zpP0 3 zpA386 [] 3000 = true := by decide +kernel
theorem zpT387 : zcheck zpZ zpRS zpMT [] zpC387 zpP6 2 zpA387 [] 3000 = true := by decide +kernel
theorem zpT388 : zcheck zpZ zpRS zpMT [] zpC388 zpP6 2 zpA388 [] 3000 = true := by decide +kernel
theorem zpT389 : zcheck zpZ zpRS zpMT [] zpC389 zpP6 2 zpA389 [] 3000 = true := by decide +kernel
theorem zpT390 : zcheck zpZ zpRS zpMT [] zpC390 zpP6 2 zpA390 [] 3000 = true := by decide +kernel
theorem zpT391 : zcheck zpZ zpRS zpMT [] zpC391 zpP6 2 zpA391 [] 3000 = true := by decide +kernel
theorem zpT392 : zcheck zpZ zpRS zpMT [] zpC392 zpP6 2 zpA392 [] 3000 = true := by decide +kernel
theorem zpT393 : zcheck zpZ zpRS zpMT [] zpC393 zpP6 2 zpA393 [] 3000 = true := by decide +kernel
theorem zpT394 : zcheck zpZ zpRS zpMT [] zpC394 zpP6 2 zpA394 [] 3000 = true := by decide +kernel
theorem zpT395 : zcheck zpZ zpRS zpMT [] zpC395 zpP6 2 zpA395 [] 3000 = true := by decide +kernel
theorem zpT396 : zcheck zpZ zpRS zpMT [] zpC396 zpP6 2 zpA396 [] 3000 = true := by decide +kernel
theorem zpT397 : zcheck zpZ zpRS zpMT [] zpC397 zpP6 2 zpA397 [] 3000 = true := by decide +kernel
theorem zpT398 : zcheck zpZ zpRS zpMT [] zpC398 zpP6 2 zpA398 [] 3000 = true := by decide +kernel
theorem zpT399 : zcheck zpZ zpRS zpMT [] zpC399 zpP6 2 zpA399 [] 3000 = true := by decide +kernel
theorem zpT400 : zcheck zpZ zpRS zpMT [] zpC400 zpP6 2 zpA400 [] 3000 = true := by decide +kernel
theorem zpT401 : zcheck zpZ zpRS zpMT [] zpC401 zpP6 2 zpA401 [] 3000 = true := by decide +kernel
theorem zpT402 : zcheck zpZ zpRS zpMT [] zpC402 zpP6 2 zpA402 [] 3000 = true := by decide +kernel
theorem zpT403 : zcheck zpZ zpRS zpMT [] zpC403 zpP6 2 zpA403 [] 3000 = true := by decide +kernel
theorem zpT404 : zcheck zpZ zpRS zpMT [] zpC404 zpP6 2 zpA404 [] 3000 = true := by decide +kernel
theorem zpT405 : zcheck zpZ zpRS zpMT [] zpC405 zpP6 2 zpA405 [] 3000 = true := by decide +kernel
theorem zpT406 : zcheck zpZ zpRS zpMT [] zpC406 zpP6 2 zpA406 [] 3000 = true := by decide +kernel
theorem zpT407 : zcheck zpZ zpRS zpMT [] zpC407 zpP6 2 zpA407 [] 3000 = true := by decide +kernel
theorem zpT408 : zcheck zpZ zpRS zpMT [] zpC408 zpP6 2 zpA408 [] 3000 = true := by decide +kernel
theorem zpT409 : zcheck zpZ zpRS zpMT [] zpC409 zpP6 2 zpA409 [] 3000 = true := by decide +kernel
theorem zpT410 : zcheck zpZ zpRS zpMT [] zpC410 zpP6 2 zpA410 [] 3000 = true := by decide +kernel
theorem zpT411 : zcheck zpZ zpRS zpMT [] zpC411 zpP6 2 zpA411 [] 3000 = true := by decide +kernel
theorem zpT412 : zcheck zpZ zpRS zpMT [] zpC412 zpP6 2 zpA412 [] 3000 = true := by decide +kernel
