theorem zpT300 : zcheck zpZ zpRS zpMT [zpC299] zpC300 zpP1 1 zpA300 [] 3000 = true := by decide +kernel
theorem zpT301 : zcheck zpZ zpRS zpMT [zpC50, zpC300] zpC301 zpP1 1 zpA301 [] 3000 = true := by decide +kernel
theorem zpT302 : zcheck zpZ zpRS zpMT [zpC50, zpC136] zpC302 zpP1 1 zpA302 [] 3000 = true := by decide +kernel
theorem zpT303 : zcheck zpZ zpRS zpMT [zpC50, zpC136] zpC303 zpP1 1 zpA303 [] 3000 = true := by decide +kernel
theorem zpT304 : zcheck zpZ zpRS zpMT [zpC50, zpC136] zpC304 zpP1 1 zpA304 [] 3000 = true := by decide +kernel
theorem zpT305 : zcheck zpZ zpRS zpMT [zpC50, zpC136] zpC305 zpP1 1 zpA305 [] 3000 = true := by decide +kernel
theorem zpT306 : zcheck zpZ zpRS zpMT [zpC256] zpC306 zpP1 1 zpA306 [] 3000 = true := by decide +kernel
theorem zpT307 : zcheck zpZ zpRS zpMT [zpC162, zpC306] zpC307 zpP1 1 zpA307 [] 3000 = true := by decide +kernel
theorem zpT308 : zcheck zpZ zpRS zpMT [zpC50, zpC307] zpC308 zpP1 1 zpA308 [] 3000 = true := by decide +kernel
theorem zpT309 : zcheck zpZ zpRS zpMT [zpC137, zpC298, zpC301, zpC302, zpC303, zpC304, zpC305, zpC308] zpC309 zpP1 1 zpA309 [] 3000 = true := by decide +kernel
theorem zpT310 : zcheck zpZ zpRS zpMT [zpC135, zpC138, zpC165, zpC169, zpC271, zpC273, zpC277, zpC278, zpC288, zpC297, zpC309] zpC310 zpP1 1 zpA310 [] 3000 = true := by decide +kernel
theorem zpT311 : zcheck zpZ zpRS zpMT [zpC50, zpC310] zpC311 zpP1 1 zpA311 [] 3000 = true := by decide +kernel
theorem zpT312 : zcheck zpZ zpRS zpMT [zpC50, zpC310] zpC312 zpP1 1 zpA312 [] 3000 = true := by decide +kernel
theorem zpT313 : zcheck zpZ zpRS zpMT [zpC50, zpC310] zpC313 zpP1 1 zpA313 [] 3000 = true := by decide +kernel
theorem zpT314 : zcheck zpZ zpRS zpMT [zpC50, zpC310] zpC314 zpP1 1 zpA314 [] 3000 = true := by decide +kernel
theorem zpT315 : zcheck zpZ zpRS zpMT [zpC50, zpC310] zpC315 zpP1 1 zpA315 [] 3000 = true := by decide +kernel
theorem zpT316 : zcheck zpZ zpRS zpMT [zpC50, zpC310] zpC316 zpP1 1 zpA316 [] 3000 = true := by decide +kernel
theorem zpT317 : zcheck zpZ zpRS zpMT [zpC50, zpC310] zpC317 zpP1 1 zpA317 [] 3000 = true := by decide +kernel
theorem zpT318 : zcheck zpZ zpRS zpMT [zpC50, zpC310] zpC318 zpP1 1 zpA318 [] 3000 = true := by decide +kernel
theorem zpT319 : zcheck zpZ zpRS zpMT [zpC311, zpC312, zpC313, zpC314, zpC315, zpC316, zpC317, zpC318] zpC319 zpP1 1 zpA319 [] 3000 = true := by decide +kernel
theorem zpT320 : zcheck zpZ zpRS zpMT [zpC319] zpC320 zpP1 1 zpA320 [] 3000 = true := by decide +kernel
theorem zpT321 : zcheck zpZ zpRS zpMT [zpC6, zpC106, zpC132, zpC320] zpC321 zpP0 1 zpA321 [] 3000 = true := by decide +kernel
theorem zpT322 : zcheck zpZ zpRS zpMT [] zpC322 zpP0 2 zpA322 [] 3000 = true := by decide +kernel
theorem zpT323 : zcheck zpZ zpRS zpMT [zpC10, zpC44, zpC322] zpC323 zpP0 1 zpA323 [] 3000 = true := by decide +kernel
theorem zpT324 : zcheck zpZ zpRS zpMT [] zpC324 zpP5 0 zpA324 [] 3000 = true := by decide +kernel
theorem zpT325 : zcheck zpZ zpRS zpMT [] zpC325 zpP5 0 zpA325 [] 3000 = true := by decide +kernel
theorem zpT326 : zcheck zpZ zpRS zpMT [zpC12, zpC106, zpC324, zpC325] zpC326 zpP0 1 zpA326 [] 3000 = true := by decide +kernel
theorem zpT327 : zcheck zpZ zpRS zpMT [] zpC327 zpP5 0 zpA327 [] 3000 = true := by decide +kernel
theorem zpT328 : zcheck zpZ zpRS zpMT [] zpC328 zpP0 2 zpA328 [] 3000 = true := by decide +kernel
theorem zpT329 : zcheck zpZ zpRS zpMT [zpC12, zpC327, zpC328] zpC329 zpP0 1 zpA329 [] 3000 = true := by decide +kernel
theorem zpT330 : zcheck zpZ zpRS zpMT [] zpC330 zpP5 3 zpA330 [] 3000 = true := by decide +kernel
theorem zpT331 : zcheck zpZ zpRS zpMT [] zpC331 zpP5 2 zpA331 [] 3000 = true := by decide +kernel
theorem zpT332 : zcheck zpZ zpRS zpMT [zpC12, zpC331] zpC332 zpP5 1 zpA332 [] 3000 = true := by decide +kernel
theorem zpT333 : zcheck zpZ zpRS zpMT [zpC10, zpC332] zpC333 zpP5 1 zpA333 [] 3000 = true := by decide +kernel
theorem zpT334 : zcheck zpZ zpRS zpMT [zpC330, zpC333] zpC334 zpP0 1 zpA334 [] 3000 = true := by decide +kernel
theorem zpT335 : zcheck zpZ zpRS zpMT [zpC333] zpC335 zpP0 3 zpA335 [] 3000 = true := by decide +kernel
theorem zpT336 : zcheck zpZ zpRS zpMT [] zpC336 zpP5 2 zpA336 [] 3000 = true := by decide +kernel
theorem zpT337 : zcheck zpZ zpRS zpMT [] zpC337 zpP5 2 zpA337 [] 3000 = true := by decide +kernel
theorem zpT338 : zcheck zpZ zpRS zpMT [] zpC338 zpP5 2 zpA338 [] 3000 = true := by decide +kernel
theorem zpT339 : zcheck zpZ zpRS zpMT [] zpC339 zpP5 2 zpA339 [] 3000 = true := by decide +kernel
theorem zpT340 : zcheck zpZ zpRS zpMT [] zpC340 zpP5 2 zpA340 [] 3000 = true := by decide +kernel
theorem zpT341 : zcheck zpZ zpRS zpMT [] zpC341 zpP5 2 zpA341 [] 3000 = true := by decide +kernel
theorem zpT342 : zcheck zpZ zpRS zpMT [] zpC342 zpP5 2 zpA342 [] 3000 = true := by decide +kernel
theorem zpT343 : zcheck zpZ zpRS zpMT [] zpC343 zpP5 2 zpA343 [] 3000 = true := by decide +kernel
theorem zpT344 : zcheck zpZ zpRS zpMT [] zpC344 zpP5 2 zpA344 [] 3000 = true := by decide +kernel
theorem zpT345 : zcheck zpZ zpRS zpMT [] zpC345 zpP5 2 zpA345 [] 3000 = true := by decide +kernel
theorem zpT346 : zcheck zpZ zpRS zpMT [] zpC346 zpP5 2 zpA346 [] 3000 = true := by decide +kernel
theorem zpT347 : zcheck zpZ zpRS zpMT [] zpC347 zpP5 2 zpA347 [] 3000 = true := by decide +kernel
theorem zpT348 : zcheck zpZ zpRS zpMT [] zpC348 zpP5 2 zpA348 [] 3000 = true := by decide +kernel
theorem zpT349 : zcheck zpZ zpRS zpMT [] zpC349 zpP5 2 zpA349 [] 3000 = true := by decide +kernel
theorem zpT350 : zcheck zpZ zpRS zpMT [] zpC350 zpP5 2 zpA350 [] 3000 = true := by decide +kernel
theorem zpT351 : zcheck zpZ zpRS zpMT [] zpC351 zpP5 2 zpA351 [] 3000 = true := by decide +kernel
theorem zpT352 : zcheck zpZ zpRS zpMT [] zpC352 zpP5 2 zpA352 [] 3000 = true := by decide +kernel
theorem zpT353 : zcheck zpZ zpRS zpMT [] zpC353 zpP5 2 zpA353 [] 3000 = true := by decide +kernel
theorem zpT354 : zcheck zpZ zpRS zpMT [] zpC354 zpP5 2 zpA354 [] 3000 = true := by decide +kernel
theorem zpT355 : zcheck zpZ zpRS zpMT [] zpC355 zpP5 2 zpA355 [] 3000 = true := by decide +kernel
theorem zpT356 : zcheck zpZ zpRS zpMT [] zpC356 zpP5 2 zpA356 [] 3000 = true := by decide +kernel
theorem zpT357 : zcheck zpZ zpRS zpMT [] zpC357 zpP5 2 zpA357 [] 3000 = true := by decide +kernel
theorem zpT358 : zcheck zpZ zpRS zpMT [] zpC358 zpP5 2 zpA358 [] 3000 = true := by decide +kernel
theorem zpT359 : zcheck zpZ zpRS zpMT [] zpC359 zpP5 2 zpA359 [] 3000 = true := by decide +kernel
