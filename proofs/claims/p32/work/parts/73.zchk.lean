theorem zpT281 : zcheck zpZ zpRS zpMT [zpC280] zpC281 zpP1 1 zpA281 [] 3000 = true := by decide +kernel
theorem zpT282 : zcheck zpZ zpRS zpMT [zpC281] zpC282 zpP1 1 zpA282 [] 3000 = true := by decide +kernel
theorem zpT283 : zcheck zpZ zpRS zpMT [] zpC283 zpP1 1 zpA283 [] 3000 = true := by decide +kernel
theorem zpT284 : zcheck zpZ zpRS zpMT [zpC3, zpC283] zpC284 zpP1 1 zpA284 [] 3000 = true := by decide +kernel
theorem zpT285 : zcheck zpZ zpRS zpMT [zpC284] zpC285 zpP1 1 zpA285 [] 3000 = true := by decide +kernel
theorem zpT286 : zcheck zpZ zpRS zpMT [zpC285] zpC286 zpP1 1 zpA286 [] 3000 = true := by decide +kernel
theorem zpT287 : zcheck zpZ zpRS zpMT [] zpC287 zpP1 1 zpA287 [] 3000 = true := by decide +kernel
theorem zpT288 : zcheck zpZ zpRS zpMT [zpC3, zpC287] zpC288 zpP1 1 zpA288 [] 3000 = true := by decide +kernel
theorem zpT289 : zcheck zpZ zpRS zpMT [zpC288] zpC289 zpP1 1 zpA289 [] 3000 = true := by decide +kernel
theorem zpT290 : zcheck zpZ zpRS zpMT [zpC289] zpC290 zpP1 1 zpA290 [] 3000 = true := by decide +kernel
theorem zpT291 : zcheck zpZ zpRS zpMT [zpC3, zpC290] zpC291 zpP1 1 zpA291 [] 3000 = true := by decide +kernel
theorem zpT292 : zcheck zpZ zpRS zpMT [zpC291] zpC292 zpP1 1 zpA292 [] 3000 = true := by decide +kernel
theorem zpT293 : zcheck zpZ zpRS zpMT [] zpC293 zpP1 1 zpA293 [] 3000 = true := by decide +kernel
theorem zpT294 : zcheck zpZ zpRS zpMT [zpC3, zpC293] zpC294 zpP1 1 zpA294 [] 3000 = true := by decide +kernel
theorem zpT295 : zcheck zpZ zpRS zpMT [zpC294] zpC295 zpP1 1 zpA295 [] 3000 = true := by decide +kernel
theorem zpT296 : zcheck zpZ zpRS zpMT [zpC292, zpC295] zpC296 zpP1 1 zpA296 [] 3000 = true := by decide +kernel
theorem zpT297 : zcheck zpZ zpRS zpMT [zpC3, zpC296] zpC297 zpP1 1 zpA297 [] 3000 = true := by decide +kernel
theorem zpT298 : zcheck zpZ zpRS zpMT [zpC297] zpC298 zpP1 1 zpA298 [] 3000 = true := by decide +kernel
theorem zpT299 : zcheck zpZ zpRS zpMT [zpC298] zpC299 zpP1 1 zpA299 [] 3000 = true := by decide +kernel
theorem zpT300 : zcheck zpZ zpRS zpMT [zpC3, zpC299] zpC300 zpP1 1 zpA300 [] 3000 = true := by decide +kernel
theorem zpT301 : zcheck zpZ zpRS zpMT [zpC300] zpC301 zpP1 1 zpA301 [] 3000 = true := by decide +kernel
theorem zpT302 : zcheck zpZ zpRS zpMT [zpC301] zpC302 zpP1 1 zpA302 [] 3000 = true := by decide +kernel
theorem zpT303 : zcheck zpZ zpRS zpMT [zpC73, zpC74, zpC106, zpC275, zpC282, zpC286, zpC302] zpC303 zpP0 1 zpA303 [(28, 2, 0, 3)] 3000 = true := by decide +kernel
theorem zpT304 : zcheck zpZ zpRS zpMT [] zpC304 zpP1 1 zpA304 [] 3000 = true := by decide +kernel
theorem zpT305 : zcheck zpZ zpRS zpMT [zpC3, zpC304] zpC305 zpP1 1 zpA305 [] 3000 = true := by decide +kernel
theorem zpT306 : zcheck zpZ zpRS zpMT [zpC305] zpC306 zpP1 1 zpA306 [] 3000 = true := by decide +kernel
theorem zpT307 : zcheck zpZ zpRS zpMT [zpC306] zpC307 zpP1 1 zpA307 [] 3000 = true := by decide +kernel
theorem zpT308 : zcheck zpZ zpRS zpMT [zpC3, zpC307] zpC308 zpP1 1 zpA308 [] 3000 = true := by decide +kernel
theorem zpT309 : zcheck zpZ zpRS zpMT [zpC308] zpC309 zpP1 1 zpA309 [] 3000 = true := by decide +kernel
theorem zpT310 : zcheck zpZ zpRS zpMT [zpC309] zpC310 zpP1 1 zpA310 [] 3000 = true := by decide +kernel
theorem zpT311 : zcheck zpZ zpRS zpMT [zpC3, zpC310] zpC311 zpP1 1 zpA311 [] 3000 = true := by decide +kernel
theorem zpT312 : zcheck zpZ zpRS zpMT [zpC311] zpC312 zpP1 1 zpA312 [] 3000 = true := by decide +kernel
theorem zpT313 : zcheck zpZ zpRS zpMT [zpC312] zpC313 zpP1 1 zpA313 [] 3000 = true := by decide +kernel
theorem zpT314 : zcheck zpZ zpRS zpMT [] zpC314 zpP1 1 zpA314 [] 3000 = true := by decide +kernel
theorem zpT315 : zcheck zpZ zpRS zpMT [zpC3, zpC314] zpC315 zpP1 1 zpA315 [] 3000 = true := by decide +kernel
theorem zpT316 : zcheck zpZ zpRS zpMT [zpC315] zpC316 zpP1 1 zpA316 [] 3000 = true := by decide +kernel
theorem zpT317 : zcheck zpZ zpRS zpMT [zpC316] zpC317 zpP1 1 zpA317 [] 3000 = true := by decide +kernel
theorem zpT318 : zcheck zpZ zpRS zpMT [zpC3, zpC317] zpC318 zpP1 1 zpA318 [] 3000 = true := by decide +kernel
theorem zpT319 : zcheck zpZ zpRS zpMT [zpC318] zpC319 zpP1 1 zpA319 [] 3000 = true := by decide +kernel
theorem zpT320 : zcheck zpZ zpRS zpMT [zpC319] zpC320 zpP1 1 zpA320 [] 3000 = true := by decide +kernel
theorem zpT321 : zcheck zpZ zpRS zpMT [zpC3, zpC320] zpC321 zpP1 1 zpA321 [] 3000 = true := by decide +kernel
theorem zpT322 : zcheck zpZ zpRS zpMT [zpC321] zpC322 zpP1 1 zpA322 [] 3000 = true := by decide +kernel
theorem zpT323 : zcheck zpZ zpRS zpMT [zpC322] zpC323 zpP1 1 zpA323 [] 3000 = true := by decide +kernel
theorem zpT324 : zcheck zpZ zpRS zpMT [zpC3, zpC323] zpC324 zpP1 1 zpA324 [] 3000 = true := by decide +kernel
theorem zpT325 : zcheck zpZ zpRS zpMT [zpC324] zpC325 zpP1 1 zpA325 [] 3000 = true := by decide +kernel
theorem zpT326 : zcheck zpZ zpRS zpMT [zpC325] zpC326 zpP1 1 zpA326 [] 3000 = true := by decide +kernel
theorem zpT327 : zcheck zpZ zpRS zpMT [zpC3, zpC326] zpC327 zpP1 1 zpA327 [] 3000 = true := by decide +kernel
theorem zpT328 : zcheck zpZ zpRS zpMT [zpC327] zpC328 zpP1 1 zpA328 [] 3000 = true := by decide +kernel
theorem zpT329 : zcheck zpZ zpRS zpMT [] zpC329 zpP1 1 zpA329 [] 3000 = true := by decide +kernel
theorem zpT330 : zcheck zpZ zpRS zpMT [zpC3, zpC329] zpC330 zpP1 1 zpA330 [] 3000 = true := by decide +kernel
theorem zpT331 : zcheck zpZ zpRS zpMT [zpC330] zpC331 zpP1 1 zpA331 [] 3000 = true := by decide +kernel
theorem zpT332 : zcheck zpZ zpRS zpMT [zpC328, zpC331] zpC332 zpP1 1 zpA332 [] 3000 = true := by decide +kernel
theorem zpT333 : zcheck zpZ zpRS zpMT [zpC3, zpC332] zpC333 zpP1 1 zpA333 [] 3000 = true := by decide +kernel
theorem zpT334 : zcheck zpZ zpRS zpMT [zpC333] zpC334 zpP1 1 zpA334 [] 3000 = true := by decide +kernel
theorem zpT335 : zcheck zpZ zpRS zpMT [zpC334] zpC335 zpP1 1 zpA335 [] 3000 = true := by decide +kernel
theorem zpT336 : zcheck zpZ zpRS zpMT [] zpC336 zpP1 1 zpA336 [] 3000 = true := by decide +kernel
theorem zpT337 : zcheck zpZ zpRS zpMT [zpC3, zpC336] zpC337 zpP1 1 zpA337 [] 3000 = true := by decide +kernel
theorem zpT338 : zcheck zpZ zpRS zpMT [zpC337] zpC338 zpP1 1 zpA338 [] 3000 = true := by decide +kernel
theorem zpT339 : zcheck zpZ zpRS zpMT [zpC338] zpC339 zpP1 1 zpA339 [] 3000 = true := by decide +kernel
theorem zpT340 : zcheck zpZ zpRS zpMT [] zpC340 zpP1 1 zpA340 [] 3000 = true := by decide +kernel
theorem zpT341 : zcheck zpZ zpRS zpMT [zpC3, zpC340] zpC341 zpP1 1 zpA341 [] 3000 = true := by decide +kernel
theorem zpT342 : zcheck zpZ zpRS zpMT [zpC341] zpC342 zpP1 1 zpA342 [] 3000 = true := by decide +kernel
theorem zpT343 : zcheck zpZ zpRS zpMT [zpC342] zpC343 zpP1 1 zpA343 [] 3000 = true := by decide +kernel
theorem zpT344 : zcheck zpZ zpRS zpMT [zpC3, zpC343] zpC344 zpP1 1 zpA344 [] 3000 = true := by decide +kernel
theorem zpT345 : zcheck zpZ zpRS zpMT [zpC344] zpC345 zpP1 1 zpA345 [] 3000 = true := by decide +kernel
theorem zpT346 : zcheck zpZ zpRS zpMT [zpC345] zpC346 zpP1 1 zpA346 [] 3000 = true := by decide +kernel
theorem zpT347 : zcheck zpZ zpRS zpMT [zpC3, zpC346] zpC347 zpP1 1 zpA347 [] 3000 = true := by decide +kernel
theorem zpT348 : zcheck zpZ zpRS zpMT [zpC347] zpC348 zpP1 1 zpA348 [] 3000 = true := by decide +kernel
theorem zpT349 : zcheck zpZ zpRS zpMT [zpC348] zpC349 zpP1 1 zpA349 [] 3000 = true := by decide +kernel
theorem zpT350 : zcheck zpZ zpRS zpMT [zpC3, zpC349] zpC350 zpP1 1 zpA350 [] 3000 = true := by decide +kernel
theorem zpT351 : zcheck zpZ zpRS zpMT [zpC350] zpC351 zpP1 1 zpA351 [] 3000 = true := by decide +kernel
theorem zpT352 : zcheck zpZ zpRS zpMT [zpC351] zpC352 zpP1 1 zpA352 [] 3000 = true := by decide +kernel
theorem zpT353 : zcheck zpZ zpRS zpMT [zpC3, zpC352] zpC353 zpP1 1 zpA353 [] 3000 = true := by decide +kernel
theorem zpT354 : zcheck zpZ zpRS zpMT [zpC353] zpC354 zpP1 1 zpA354 [] 3000 = true := by decide +kernel
theorem zpT355 : zcheck zpZ zpRS zpMT [] zpC355 zpP1 1 zpA355 [] 3000 = true := by decide +kernel
theorem zpT356 : zcheck zpZ zpRS zpMT [zpC3, zpC355] zpC356 zpP1 1 zpA356 [] 3000 = true := by decide +kernel
theorem zpT357 : zcheck zpZ zpRS zpMT [zpC356] zpC357 zpP1 1 zpA357 [] 3000 = true := by decide +kernel
theorem zpT358 : zcheck zpZ zpRS zpMT [zpC354, zpC357] zpC358 zpP1 1 zpA358 [] 3000 = true := by decide +kernel
theorem zpT359 : zcheck zpZ zpRS zpMT [zpC3, zpC358] zpC359 zpP1 1 zpA359 [] 3000 = true := by decide +kernel
theorem zpT360 : zcheck zpZ zpRS zpMT [zpC359] zpC360 zpP1 1 zpA360 [] 3000 = true := by decide +kernel
theorem zpT361 : zcheck zpZ zpRS zpMT [] zpC361 zpP1 1 zpA361 [] 3000 = true := by decide +kernel
theorem zpT362 : zcheck zpZ zpRS zpMT [zpC3, zpC361] zpC362 zpP1 1 zpA362 [] 3000 = true := by decide +kernel
theorem zpT363 : zcheck zpZ zpRS zpMT [zpC362] zpC363 zpP1 1 zpA363 [] 3000 = true := by decide +kernel
theorem zpT364 : zcheck zpZ zpRS zpMT [zpC360, zpC363] zpC364 zpP1 1 zpA364 [] 3000 = true := by decide +kernel
theorem zpT365 : zcheck zpZ zpRS zpMT [zpC3, zpC364] zpC365 zpP1 1 zpA365 [] 3000 = true := by decide +kernel
theorem zpT366 : zcheck zpZ zpRS zpMT [zpC365] zpC366 zpP1 1 zpA366 [] 3000 = true := by decide +kernel
theorem zpT367 : zcheck zpZ zpRS zpMT [zpC366] zpC367 zpP1 1 zpA367 [] 3000 = true := by decide +kernel
theorem zpT368 : zcheck zpZ zpRS zpMT [zpC73, zpC74, zpC106, zpC313, zpC335, zpC339, zpC367] zpC368 zpP0 1 zpA368 [(28, 2, 0, 3)] 3000 = true := by decide +kernel
theorem zpT369 : zcheck zpZ zpRS zpMT [] zpC369 zpP1 1 zpA369 [] 3000 = true := by decide +kernel
theorem zpT370 : zcheck zpZ zpRS zpMT [zpC3, zpC369] zpC370 zpP1 1 zpA370 [] 3000 = true := by decide +kernel
theorem zpT371 : zcheck zpZ zpRS zpMT [zpC370] zpC371 zpP1 1 zpA371 [] 3000 = true := by decide +kernel
theorem zpT372 : zcheck zpZ zpRS zpMT [zpC371] zpC372 zpP1 1 zpA372 [] 3000 = true := by decide +kernel
theorem zpT373 : zcheck zpZ zpRS zpMT [] zpC373 zpP1 1 zpA373 [] 3000 = true := by decide +kernel
theorem zpT374 : zcheck zpZ zpRS zpMT [zpC3, zpC373] zpC374 zpP1 1 zpA374 [] 3000 = true := by decide +kernel
theorem zpT375 : zcheck zpZ zpRS zpMT [zpC374] zpC375 zpP1 1 zpA375 [] 3000 = true := by decide +kernel
theorem zpT376 : zcheck zpZ zpRS zpMT [zpC375] zpC376 zpP1 1 zpA376 [] 3000 = true := by decide +kernel
theorem zpT377 : zcheck zpZ zpRS zpMT [zpC3, zpC376] zpC377 zpP1 1 zpA377 [] 3000 = true := by decide +kernel
theorem zpT378 : zcheck zpZ zpRS zpMT [zpC377] zpC378 zpP1 1 zpA378 [] 3000 = true := by decide +kernel
theorem zpT379 : zcheck zpZ zpRS zpMT [zpC378] zpC379 zpP1 1 zpA379 [] 3000 = true := by decide +kernel
theorem zpT380 : zcheck zpZ zpRS zpMT [] zpC380 zpP1 1 zpA380 [] 3000 = true := by decide +kernel
theorem zpT381 : zcheck zpZ zpRS zpMT [zpC3, zpC380] zpC381 zpP1 1 zpA381 [] 3000 = true := by decide +kernel
theorem zpT382 : zcheck zpZ zpRS zpMT [zpC381] zpC382 zpP1 1 zpA382 [] 3000 = true := by decide +kernel
theorem zpT383 : zcheck zpZ zpRS zpMT [] zpC383 zpP1 1 zpA383 [] 3000 = true := by decide +kernel
theorem zpT384 : zcheck zpZ zpRS zpMT [zpC3, zpC383] zpC384 zpP1 1 zpA384 [] 3000 = true := by decide +kernel
theorem zpT385 : zcheck zpZ zpRS zpMT [zpC384] zpC385 zpP1 1 zpA385 [] 3000 = true := by decide +kernel
theorem zpT386 : zcheck zpZ zpRS zpMT [zpC382, zpC385] zpC386 zpP1 1 zpA386 [] 3000 = true := by decide +kernel
theorem zpT387 : zcheck zpZ zpRS zpMT [zpC3, zpC386] zpC387 zpP1 1 zpA387 [] 3000 = true := by decide +kernel
theorem zpT388 : zcheck zpZ zpRS zpMT [zpC387] zpC388 zpP1 1 zpA388 [] 3000 = true := by decide +kernel
theorem zpT389 : zcheck zpZ zpRS zpMT [zpC388] zpC389 zpP1 1 zpA389 [] 3000 = true := by decide +kernel
theorem zpT390 : zcheck zpZ zpRS zpMT [] zpC390 zpP1 1 zpA390 [] 3000 = true := by decide +kernel
theorem zpT391 : zcheck zpZ zpRS zpMT [zpC3, zpC390] zpC391 zpP1 1 zpA391 [] 3000 = true := by decide +kernel
theorem zpT392 : zcheck zpZ zpRS zpMT [zpC391] zpC392 zpP1 1 zpA392 [] 3000 = true := by decide +kernel
theorem zpT393 : zcheck zpZ zpRS zpMT [zpC392] zpC393 zpP1 1 zpA393 [] 3000 = true := by decide +kernel
theorem zpT394 : zcheck zpZ zpRS zpMT [zpC3, zpC393] zpC394 zpP1 1 zpA394 [] 3000 = true := by decide +kernel
theorem zpT395 : zcheck zpZ zpRS zpMT [zpC394] zpC395 zpP1 1 zpA395 [] 3000 = true := by decide +kernel
theorem zpT396 : zcheck zpZ zpRS zpMT [] zpC396 zpP1 1 zpA396 [] 3000 = true := by decide +kernel
theorem zpT397 : zcheck zpZ zpRS zpMT [zpC3, zpC396] zpC397 zpP1 1 zpA397 [] 3000 = true := by decide +kernel
theorem zpT398 : zcheck zpZ zpRS zpMT [zpC397] zpC398 zpP1 1 zpA398 [] 3000 = true := by decide +kernel
theorem zpT399 : zcheck zpZ zpRS zpMT [] zpC399 zpP1 1 zpA399 [] 3000 = true := by decide +kernel
theorem zpT400 : zcheck zpZ zpRS zpMT [zpC3, zpC399] zpC400 zpP1 1 zpA400 [] 3000 = true := by decide +kernel
theorem zpT401 : zcheck zpZ zpRS zpMT [zpC400] zpC401 zpP1 1 zpA401 [] 3000 = true := by decide +kernel
theorem zpT402 : zcheck zpZ zpRS zpMT [zpC398, zpC401] zpC402 zpP1 1 zpA402 [] 3000 = true := by decide +kernel
theorem zpT403 : zcheck zpZ zpRS zpMT [zpC3, zpC402] zpC403 zpP1 1 zpA403 [] 3000 = true := by decide +kernel
theorem zpT404 : zcheck zpZ zpRS zpMT [zpC403] zpC404 zpP1 1 zpA404 [] 3000 = true := by decide +kernel
theorem zpT405 : zcheck zpZ zpRS zpMT [zpC395, zpC404] zpC405 zpP1 1 zpA405 [] 3000 = true := by decide +kernel
theorem zpT406 : zcheck zpZ zpRS zpMT [zpC3, zpC405] zpC406 zpP1 1 zpA406 [] 3000 = true := by decide +kernel
theorem zpT407 : zcheck zpZ zpRS zpMT [zpC406] zpC407 zpP1 1 zpA407 [] 3000 = true := by decide +kernel
theorem zpT408 : zcheck zpZ zpRS zpMT [zpC407] zpC408 zpP1 1 zpA408 [] 3000 = true := by decide +kernel
theorem zpT409 : zcheck zpZ zpRS zpMT [zpC73, zpC74, zpC106, zpC372, zpC379, zpC389, zpC408] zpC409 zpP0 1 zpA409 [(28, 2, 0, 3)] 3000 = true := by decide +kernel
theorem zpT410 : zcheck zpZ zpRS zpMT [zpC73, zpC74] zpC410 zpP0 1 zpA410 [(28, 2, 0, 3)] 3000 = true := by decide +kernel
theorem zpT411 : zcheck zpZ zpRS zpMT [zpC73, zpC74, zpC81, zpC88, zpC92, zpC105, zpC106] zpC411 zpP0 1 zpA411 [(28, 2, 0, 3)] 3000 = true := by decide +kernel
theorem zpT412 : zcheck zpZ zpRS zpMT [zpC73, zpC74, zpC106, zpC114, zpC124, zpC128, zpC144] zpC412 zpP0 1 zpA412 [(28, 2, 0, 3)] 3000 = true := by decide +kernel
