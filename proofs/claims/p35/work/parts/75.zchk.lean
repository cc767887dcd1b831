theorem zpT363 : zcheck zpZ zpRS zpMT [zpC121, zpC352] zpC363 zpP1 1 zpA363 [] 3000 = true := by decide +kernel
theorem zpT364 : zcheck zpZ zpRS zpMT [zpC356] zpC364 zpP1 1 zpA364 [] 3000 = true := by decide +kernel
theorem zpT365 : zcheck zpZ zpRS zpMT [zpC322, zpC364] zpC365 zpP1 1 zpA365 [] 3000 = true := by decide +kernel
theorem zpT366 : zcheck zpZ zpRS zpMT [zpC121, zpC365] zpC366 zpP1 1 zpA366 [] 3000 = true := by decide +kernel
theorem zpT367 : zcheck zpZ zpRS zpMT [zpC353, zpC354, zpC359, zpC360, zpC361, zpC362, zpC363, zpC366] zpC367 zpP1 1 zpA367 [] 3000 = true := by decide +kernel
theorem zpT368 : zcheck zpZ zpRS zpMT [zpC351, zpC367] zpC368 zpP1 1 zpA368 [] 3000 = true := by decide +kernel
theorem zpT369 : zcheck zpZ zpRS zpMT [zpC121, zpC368] zpC369 zpP1 1 zpA369 [] 3000 = true := by decide +kernel
theorem zpT370 : zcheck zpZ zpRS zpMT [zpC121, zpC303] zpC370 zpP1 1 zpA370 [] 3000 = true := by decide +kernel
theorem zpT371 : zcheck zpZ zpRS zpMT [zpC304, zpC305, zpC306, zpC327, zpC328, zpC329, zpC369, zpC370] zpC371 zpP1 1 zpA371 [] 3000 = true := by decide +kernel
theorem zpT372 : zcheck zpZ zpRS zpMT [] zpC372 zpP1 1 zpA372 [] 3000 = true := by decide +kernel
theorem zpT373 : zcheck zpZ zpRS zpMT [zpC121, zpC372] zpC373 zpP1 1 zpA373 [] 3000 = true := by decide +kernel
theorem zpT374 : zcheck zpZ zpRS zpMT [zpC121, zpC372] zpC374 zpP1 1 zpA374 [] 3000 = true := by decide +kernel
theorem zpT375 : zcheck zpZ zpRS zpMT [zpC353] zpC375 zpP1 1 zpA375 [] 3000 = true := by decide +kernel
theorem zpT376 : zcheck zpZ zpRS zpMT [zpC375] zpC376 zpP1 1 zpA376 [] 3000 = true := by decide +kernel
theorem zpT377 : zcheck zpZ zpRS zpMT [zpC121, zpC376] zpC377 zpP1 1 zpA377 [] 3000 = true := by decide +kernel
theorem zpT378 : zcheck zpZ zpRS zpMT [zpC121, zpC372] zpC378 zpP1 1 zpA378 [] 3000 = true := by decide +kernel
theorem zpT379 : zcheck zpZ zpRS zpMT [zpC121, zpC372] zpC379 zpP1 1 zpA379 [] 3000 = true := by decide +kernel
theorem zpT380 : zcheck zpZ zpRS zpMT [zpC121, zpC372] zpC380 zpP1 1 zpA380 [] 3000 = true := by decide +kernel
theorem zpT381 : zcheck zpZ zpRS zpMT [zpC121, zpC372] zpC381 zpP1 1 zpA381 [] 3000 = true := by decide +kernel
theorem zpT382 : zcheck zpZ zpRS zpMT [zpC353] zpC382 zpP1 1 zpA382 [] 3000 = true := by decide +kernel
theorem zpT383 : zcheck zpZ zpRS zpMT [zpC302, zpC382] zpC383 zpP1 1 zpA383 [] 3000 = true := by decide +kernel
theorem zpT384 : zcheck zpZ zpRS zpMT [zpC121, zpC383] zpC384 zpP1 1 zpA384 [] 3000 = true := by decide +kernel
theorem zpT385 : zcheck zpZ zpRS zpMT [zpC373, zpC374, zpC377, zpC378, zpC379, zpC380, zpC381, zpC384] zpC385 zpP1 1 zpA385 [] 3000 = true := by decide +kernel
theorem zpT386 : zcheck zpZ zpRS zpMT [zpC371, zpC385] zpC386 zpP1 1 zpA386 [] 3000 = true := by decide +kernel
theorem zpT387 : zcheck zpZ zpRS zpMT [zpC121, zpC386] zpC387 zpP1 1 zpA387 [] 3000 = true := by decide +kernel
theorem zpT388 : zcheck zpZ zpRS zpMT [zpC387] zpC388 zpP1 1 zpA388 [] 3000 = true := by decide +kernel
theorem zpT389 : zcheck zpZ zpRS zpMT [zpC121, zpC284] zpC389 zpP1 1 zpA389 [] 3000 = true := by decide +kernel
theorem zpT390 : zcheck zpZ zpRS zpMT [zpC389] zpC390 zpP1 1 zpA390 [] 3000 = true := by decide +kernel
theorem zpT391 : zcheck zpZ zpRS zpMT [zpC305] zpC391 zpP1 1 zpA391 [] 3000 = true := by decide +kernel
theorem zpT392 : zcheck zpZ zpRS zpMT [zpC391] zpC392 zpP1 1 zpA392 [] 3000 = true := by decide +kernel
theorem zpT393 : zcheck zpZ zpRS zpMT [zpC121, zpC392] zpC393 zpP1 1 zpA393 [] 3000 = true := by decide +kernel
theorem zpT394 : zcheck zpZ zpRS zpMT [zpC393] zpC394 zpP1 1 zpA394 [] 3000 = true := by decide +kernel
theorem zpT395 : zcheck zpZ zpRS zpMT [zpC254] zpC395 zpP1 1 zpA395 [] 3000 = true := by decide +kernel
theorem zpT396 : zcheck zpZ zpRS zpMT [zpC121, zpC250] zpC396 zpP1 1 zpA396 [] 3000 = true := by decide +kernel
theorem zpT397 : zcheck zpZ zpRS zpMT [zpC262] zpC397 zpP1 1 zpA397 [] 3000 = true := by decide +kernel
theorem zpT398 : zcheck zpZ zpRS zpMT [zpC397] zpC398 zpP1 1 zpA398 [] 3000 = true := by decide +kernel
theorem zpT399 : zcheck zpZ zpRS zpMT [zpC121, zpC398] zpC399 zpP1 1 zpA399 [] 3000 = true := by decide +kernel
theorem zpT400 : zcheck zpZ zpRS zpMT [zpC121, zpC250] zpC400 zpP1 1 zpA400 [] 3000 = true := by decide +kernel
theorem zpT401 : zcheck zpZ zpRS zpMT [zpC264] zpC401 zpP1 1 zpA401 [] 3000 = true := by decide +kernel
theorem zpT402 : zcheck zpZ zpRS zpMT [zpC401] zpC402 zpP1 1 zpA402 [] 3000 = true := by decide +kernel
theorem zpT403 : zcheck zpZ zpRS zpMT [zpC121, zpC402] zpC403 zpP1 1 zpA403 [] 3000 = true := by decide +kernel
theorem zpT404 : zcheck zpZ zpRS zpMT [zpC121, zpC250] zpC404 zpP1 1 zpA404 [] 3000 = true := by decide +kernel
theorem zpT405 : zcheck zpZ zpRS zpMT [zpC251, zpC285, zpC389, zpC396, zpC399, zpC400, zpC403, zpC404] zpC405 zpP1 1 zpA405 [] 3000 = true := by decide +kernel
theorem zpT406 : zcheck zpZ zpRS zpMT [zpC121, zpC280] zpC406 zpP1 1 zpA406 [] 3000 = true := by decide +kernel
theorem zpT407 : zcheck zpZ zpRS zpMT [zpC121, zpC280] zpC407 zpP1 1 zpA407 [] 3000 = true := by decide +kernel
theorem zpT408 : zcheck zpZ zpRS zpMT [zpC121, zpC280] zpC408 zpP1 1 zpA408 [] 3000 = true := by decide +kernel
theorem zpT409 : zcheck zpZ zpRS zpMT [zpC121, zpC280] zpC409 zpP1 1 zpA409 [] 3000 = true := by decide +kernel
theorem zpT410 : zcheck zpZ zpRS zpMT [zpC327] zpC410 zpP1 1 zpA410 [] 3000 = true := by decide +kernel
theorem zpT411 : zcheck zpZ zpRS zpMT [zpC385, zpC410] zpC411 zpP1 1 zpA411 [] 3000 = true := by decide +kernel
theorem zpT412 : zcheck zpZ zpRS zpMT [zpC121, zpC411] zpC412 zpP1 1 zpA412 [] 3000 = true := by decide +kernel
theorem zpT413 : zcheck zpZ zpRS zpMT [zpC121, zpC280] zpC413 zpP1 1 zpA413 [] 3000 = true := by decide +kernel
theorem zpT414 : zcheck zpZ zpRS zpMT [zpC281, zpC393, zpC406, zpC407, zpC408, zpC409, zpC412, zpC413] zpC414 zpP1 1 zpA414 [] 3000 = true := by decide +kernel
theorem zpT415 : zcheck zpZ zpRS zpMT [zpC121, zpC253] zpC415 zpP1 1 zpA415 [] 3000 = true := by decide +kernel
theorem zpT416 : zcheck zpZ zpRS zpMT [zpC373] zpC416 zpP1 1 zpA416 [] 3000 = true := by decide +kernel
theorem zpT417 : zcheck zpZ zpRS zpMT [zpC416] zpC417 zpP1 1 zpA417 [] 3000 = true := by decide +kernel
theorem zpT418 : zcheck zpZ zpRS zpMT [zpC121, zpC417] zpC418 zpP1 1 zpA418 [] 3000 = true := by decide +kernel
theorem zpT419 : zcheck zpZ zpRS zpMT [zpC121, zpC253] zpC419 zpP1 1 zpA419 [] 3000 = true := by decide +kernel
theorem zpT420 : zcheck zpZ zpRS zpMT [zpC121, zpC253] zpC420 zpP1 1 zpA420 [] 3000 = true := by decide +kernel
theorem zpT421 : zcheck zpZ zpRS zpMT [zpC121, zpC253] zpC421 zpP1 1 zpA421 [] 3000 = true := by decide +kernel
theorem zpT422 : zcheck zpZ zpRS zpMT [zpC121, zpC253] zpC422 zpP1 1 zpA422 [] 3000 = true := by decide +kernel
theorem zpT423 : zcheck zpZ zpRS zpMT [zpC373] zpC423 zpP1 1 zpA423 [] 3000 = true := by decide +kernel
theorem zpT424 : zcheck zpZ zpRS zpMT [zpC279, zpC423] zpC424 zpP1 1 zpA424 [] 3000 = true := by decide +kernel
theorem zpT425 : zcheck zpZ zpRS zpMT [zpC121, zpC424] zpC425 zpP1 1 zpA425 [] 3000 = true := by decide +kernel
theorem zpT426 : zcheck zpZ zpRS zpMT [zpC254, zpC415, zpC418, zpC419, zpC420, zpC421, zpC422, zpC425] zpC426 zpP1 1 zpA426 [] 3000 = true := by decide +kernel
theorem zpT427 : zcheck zpZ zpRS zpMT [zpC252, zpC255, zpC282, zpC286, zpC388, zpC390, zpC394, zpC395, zpC405, zpC414, zpC426] zpC427 zpP1 1 zpA427 [] 3000 = true := by decide +kernel
theorem zpT428 : zcheck zpZ zpRS zpMT [zpC121, zpC427] zpC428 zpP1 1 zpA428 [] 3000 = true := by decide +kernel
theorem zpT429 : zcheck zpZ zpRS zpMT [zpC121, zpC427] zpC429 zpP1 1 zpA429 [] 3000 = true := by decide +kernel
theorem zpT430 : zcheck zpZ zpRS zpMT [zpC121, zpC427] zpC430 zpP1 1 zpA430 [] 3000 = true := by decide +kernel
theorem zpT431 : zcheck zpZ zpRS zpMT [zpC121, zpC427] zpC431 zpP1 1 zpA431 [] 3000 = true := by decide +kernel
theorem zpT432 : zcheck zpZ zpRS zpMT [zpC121, zpC427] zpC432 zpP1 1 zpA432 [] 3000 = true := by decide +kernel
theorem zpT433 : zcheck zpZ zpRS zpMT [zpC121, zpC427] zpC433 zpP1 1 zpA433 [] 3000 = true := by decide +kernel
