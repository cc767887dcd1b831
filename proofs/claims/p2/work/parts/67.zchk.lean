theorem zpT360 : zcheck zpZ zpRS zpMT [] zpC360 zpP5 2 zpA360 [] 3000 = true := by decide +kernel
theorem zpT361 : zcheck zpZ zpRS zpMT [] zpC361 zpP5 2 zpA361 [] 3000 = true := by decide +kernel
theorem zpT362 : zcheck zpZ zpRS zpMT [] zpC362 zpP5 2 zpA362 [] 3000 = true := by decide +kernel
theorem zpT363 : zcheck zpZ zpRS zpMT [] zpC363 zpP5 2 zpA363 [] 3000 = true := by decide +kernel
theorem zpT364 : zcheck zpZ zpRS zpMT [] zpC364 zpP5 2 zpA364 [] 3000 = true := by decide +kernel
theorem zpT365 : zcheck zpZ zpRS zpMT [] zpC365 zpP5 2 zpA365 [] 3000 = true := by decide +kernel
theorem zpT366 : zcheck zpZ zpRS zpMT [] zpC366 zpP5 2 zpA366 [] 3000 = true := by decide +kernel
theorem zpT367 : zcheck zpZ zpRS zpMT [] zpC367 zpP5 2 zpA367 [] 3000 = true := by decide +kernel
theorem zpT368 : zcheck zpZ zpRS zpMT [] zpC368 zpP5 2 zpA368 [] 3000 = true := by decide +kernel
theorem zpT369 : zcheck zpZ zpRS zpMT [] zpC369 zpP5 2 zpA369 [] 3000 = true := by decide +kernel
theorem zpT370 : zcheck zpZ zpRS zpMT [] zpC370 zpP5 2 zpA370 [] 3000 = true := by decide +kernel
theorem zpT371 : zcheck zpZ zpRS zpMT [] zpC371 zpP5 2 zpA371 [] 3000 = true := by decide +kernel
theorem zpT372 : zcheck zpZ zpRS zpMT [] zpC372 zpP5 2 zpA372 [] 3000 = true := by decide +kernel
theorem zpT373 : zcheck zpZ zpRS zpMT [] zpC373 zpP5 2 zpA373 [] 3000 = true := by decide +kernel
theorem zpT374 : zcheck zpZ zpRS zpMT [] zpC374 zpP5 2 zpA374 [] 3000 = true := by decide +kernel
theorem zpT375 : zcheck zpZ zpRS zpMT [] zpC375 zpP5 2 zpA375 [] 3000 = true := by decide +kernel
theorem zpT376 : zcheck zpZ zpRS zpMT [] zpC376 zpP5 2 zpA376 [] 3000 = true := by decide +kernel
theorem zpT377 : zcheck zpZ zpRS zpMT [] zpC377 zpP5 2 zpA377 [] 3000 = true := by decide +kernel
theorem zpT378 : zcheck zpZ zpRS zpMT [] zpC378 zpP5 2 zpA378 [] 3000 = true := by decide +kernel
theorem zpT379 : zcheck zpZ zpRS zpMT [] zpC379 zpP5 2 zpA379 [] 3000 = true := by decide +kernel
theorem zpT380 : zcheck zpZ zpRS zpMT [] zpC380 zpP5 2 zpA380 [] 3000 = true := by decide +kernel
theorem zpT381 : zcheck zpZ zpRS zpMT [] zpC381 zpP5 2 zpA381 [] 3000 = true := by decide +kernel
theorem zpT382 : zcheck zpZ zpRS zpMT [] zpC382 zpP5 2 zpA382 [] 3000 = true := by decide +kernel
theorem zpT383 : zcheck zpZ zpRS zpMT [] zpC383 zpP5 2 zpA383 [] 3000 = true := by decide +kernel
theorem zpT384 : zcheck zpZ zpRS zpMT [] zpC384 zpP5 2 zpA384 [] 3000 = true := by decide +kernel
theorem zpT385 : zcheck zpZ zpRS zpMT [] zpC385 zpP5 2 zpA385 [] 3000 = true := by decide +kernel
theorem zpT386 : zcheck zpZ zpRS zpMT [] zpC386 zpP5 2 zpA386 [] 3000 = true := by decide +kernel
theorem zpT387 : zcheck zpZ zpRS zpMT [] zpC387 zpP5 2 zpA387 [] 3000 = true := by decide +kernel
theorem zpT388 : zcheck zpZ zpRS zpMT [] zpC388 zpP5 2 zpA388 [] 3000 = true := by decide +kernel
theorem zpT389 : zcheck zpZ zpRS zpMT [] zpC389 zpP5 2 zpA389 [] 3000 = true := by decide +kernel
theorem zpT390 : zcheck zpZ zpRS zpMT [] zpC390 zpP5 2 zpA390 [] 3000 = true := by decide +kernel
theorem zpT391 : zcheck zpZ zpRS zpMT [] zpC391 zpP5 2 zpA391 [] 3000 = true := by decide +kernel
theorem zpT392 : zcheck zpZ zpRS zpMT [] zpC392 zpP5 2 zpA392 [] 3000 = true := by decide +kernel
theorem zpT393 : zcheck zpZ zpRS zpMT [] zpC393 zpP5 2 zpA393 [] 3000 = true := by decide +kernel
theorem zpT394 : zcheck zpZ zpRS zpMT [] zpC394 zpP5 2 zpA394 [] 3000 = true := by decide +kernel
theorem zpT395 : zcheck zpZ zpRS zpMT [] zpC395 zpP5 2 zpA395 [] 3000 = true := by decide +kernel
theorem zpT396 : zcheck zpZ zpRS zpMT [] zpC396 zpP5 2 zpA396 [] 3000 = true := by decide +kernel
theorem zpT397 : zcheck zpZ zpRS zpMT [] zpC397 zpP5 2 zpA397 [] 3000 = true := by decide +kernel
theorem zpT398 : zcheck zpZ zpRS zpMT [] zpC398 zpP5 2 zpA398 [] 3000 = true := by decide +kernel
theorem zpT399 : zcheck zpZ zpRS zpMT [zpC332, zpC336, zpC337, zpC338, zpC339, zpC340, zpC341, zpC342, zpC343, zpC344, zpC345, zpC346, zpC347, zpC348, zpC349, zpC350, zpC351, zpC352, zpC353, zpC354, zpC355, zpC356, zpC357, zpC358, zpC359, zpC360, zpC361, zpC362, zpC363, zpC364, zpC365, zpC366, zpC367, zpC368, zpC369, zpC370, zpC371, zpC372, zpC373, zpC374, zpC375, zpC376, zpC377, zpC378, zpC379, zpC380, zpC381, zpC382, zpC383, zpC384, zpC385, zpC386, zpC387, zpC388, zpC389, zpC390, zpC391, zpC392, zpC393, zpC394, zpC395, zpC396, zpC397, zpC398] zpC399 zpP0 1 zpA399 [(0, 5, 0, 60)] 3000 = true := by decide +kernel
theorem zpT400 : zcheck zpZ zpRS zpMT [] zpC400 zpP5 1 zpA400 [] 3000 = true := by decide +kernel
theorem zpT401 : zcheck zpZ zpRS zpMT [zpC50] zpC401 zpP0 2 zpA401 [] 3000 = true := by decide +kernel
theorem zpT402 : zcheck zpZ zpRS zpMT [zpC12, zpC50, zpC106, zpC331, zpC400, zpC401] zpC402 zpP0 1 zpA402 [] 3000 = true := by decide +kernel
theorem zpT403 : zcheck zpZ zpRS zpMT [] zpC403 zpP0 1 zpA403 [] 3000 = true := by decide +kernel
theorem zpT404 : zcheck zpZ zpRS zpMT [] zpC404 zpP11 2 zpA404 [] 3000 = true := by decide +kernel
theorem zpT405 : zcheck zpZ zpRS zpMT [zpC404] zpC405 zpP11 2 zpA405 [] 3000 = true := by decide +kernel
theorem zpT406 : zcheck zpZ zpRS zpMT [] zpC406 zpP11 2 zpA406 [] 3000 = true := by decide +kernel
theorem zpT407 : zcheck zpZ zpRS zpMT [zpC406] zpC407 zpP11 2 zpA407 [] 3000 = true := by decide +kernel
theorem zpT408 : zcheck zpZ zpRS zpMT [zpC405, zpC407] zpC408 zpP11 1 zpA408 [] 3000 = true := by decide +kernel
theorem zpT409 : zcheck zpZ zpRS zpMT [] zpC409 zpP11 1 zpA409 [] 3000 = true := by decide +kernel
theorem zpT410 : zcheck zpZ zpRS zpMT [] zpC410 zpP11 2 zpA410 [] 3000 = true := by decide +kernel
theorem zpT411 : zcheck zpZ zpRS zpMT [] zpC411 zpP11 2 zpA411 [] 3000 = true := by decide +kernel
theorem zpT412 : zcheck zpZ zpRS zpMT [] zpC412 zpP11 2 zpA412 [] 3000 = true := by decide +kernel
theorem zpT413 : zcheck zpZ zpRS zpMT [zpC409, zpC410, zpC411, zpC412] zpC413 zpP11 1 zpA413 [] 3000 = true := by decide +kernel
theorem zpT414 : zcheck zpZ zpRS zpMT [] zpC414 zpP11 2 zpA414 [] 3000 = true := by decide +kernel
theorem zpT415 : zcheck zpZ zpRS zpMT [] zpC415 zpP11 2 zpA415 [] 3000 = true := by decide +kernel
theorem zpT416 : zcheck zpZ zpRS zpMT [zpC404, zpC409, zpC410, zpC414, zpC415] zpC416 zpP11 1 zpA416 [] 3000 = true := by decide +kernel
theorem zpT417 : zcheck zpZ zpRS zpMT [] zpC417 zpP11 2 zpA417 [] 3000 = true := by decide +kernel
theorem zpT418 : zcheck zpZ zpRS zpMT [zpC417] zpC418 zpP11 1 zpA418 [(14, 1, (-9), 99)] 3000 = true := by decide +kernel
theorem zpT419 : zcheck zpZ zpRS zpMT [] zpC419 zpP11 0 zpA419 [] 3000 = true := by decide +kernel
