theorem zpT265 : zcheck zpZ zpRS zpMT [] zpC265 zpP1 1 zpA265 [] 3000 = true := by decide +kernel
theorem zpT266 : zcheck zpZ zpRS zpMT [zpC121, zpC265] zpC266 zpP1 1 zpA266 [] 3000 = true := by decide +kernel
theorem zpT267 : zcheck zpZ zpRS zpMT [zpC266] zpC267 zpP1 1 zpA267 [] 3000 = true := by decide +kernel
theorem zpT268 : zcheck zpZ zpRS zpMT [zpC267] zpC268 zpP1 1 zpA268 [] 3000 = true := by decide +kernel
theorem zpT269 : zcheck zpZ zpRS zpMT [zpC121, zpC268] zpC269 zpP1 1 zpA269 [] 3000 = true := by decide +kernel
theorem zpT270 : zcheck zpZ zpRS zpMT [zpC269] zpC270 zpP1 1 zpA270 [] 3000 = true := by decide +kernel
theorem zpT271 : zcheck zpZ zpRS zpMT [zpC270] zpC271 zpP1 1 zpA271 [] 3000 = true := by decide +kernel
theorem zpT272 : zcheck zpZ zpRS zpMT [zpC121, zpC271] zpC272 zpP1 1 zpA272 [] 3000 = true := by decide +kernel
theorem zpT273 : zcheck zpZ zpRS zpMT [zpC121, zpC256] zpC273 zpP1 1 zpA273 [] 3000 = true := by decide +kernel
theorem zpT274 : zcheck zpZ zpRS zpMT [zpC121, zpC268] zpC274 zpP1 1 zpA274 [] 3000 = true := by decide +kernel
theorem zpT275 : zcheck zpZ zpRS zpMT [zpC274] zpC275 zpP1 1 zpA275 [] 3000 = true := by decide +kernel
theorem zpT276 : zcheck zpZ zpRS zpMT [zpC275] zpC276 zpP1 1 zpA276 [] 3000 = true := by decide +kernel
theorem zpT277 : zcheck zpZ zpRS zpMT [zpC121, zpC276] zpC277 zpP1 1 zpA277 [] 3000 = true := by decide +kernel
theorem zpT278 : zcheck zpZ zpRS zpMT [zpC121, zpC256] zpC278 zpP1 1 zpA278 [] 3000 = true := by decide +kernel
theorem zpT279 : zcheck zpZ zpRS zpMT [zpC257, zpC262, zpC263, zpC264, zpC272, zpC273, zpC277, zpC278] zpC279 zpP1 1 zpA279 [] 3000 = true := by decide +kernel
theorem zpT280 : zcheck zpZ zpRS zpMT [zpC279] zpC280 zpP1 1 zpA280 [] 3000 = true := by decide +kernel
theorem zpT281 : zcheck zpZ zpRS zpMT [zpC121, zpC280] zpC281 zpP1 1 zpA281 [] 3000 = true := by decide +kernel
theorem zpT282 : zcheck zpZ zpRS zpMT [zpC281] zpC282 zpP1 1 zpA282 [] 3000 = true := by decide +kernel
theorem zpT283 : zcheck zpZ zpRS zpMT [zpC257] zpC283 zpP1 1 zpA283 [] 3000 = true := by decide +kernel
theorem zpT284 : zcheck zpZ zpRS zpMT [zpC283] zpC284 zpP1 1 zpA284 [] 3000 = true := by decide +kernel
theorem zpT285 : zcheck zpZ zpRS zpMT [zpC121, zpC284] zpC285 zpP1 1 zpA285 [] 3000 = true := by decide +kernel
theorem zpT286 : zcheck zpZ zpRS zpMT [zpC285] zpC286 zpP1 1 zpA286 [] 3000 = true := by decide +kernel
theorem zpT287 : zcheck zpZ zpRS zpMT [zpC121, zpC258] zpC287 zpP1 1 zpA287 [] 3000 = true := by decide +kernel
theorem zpT288 : zcheck zpZ zpRS zpMT [] zpC288 zpP1 1 zpA288 [] 3000 = true := by decide +kernel
theorem zpT289 : zcheck zpZ zpRS zpMT [zpC121, zpC288] zpC289 zpP1 1 zpA289 [] 3000 = true := by decide +kernel
theorem zpT290 : zcheck zpZ zpRS zpMT [zpC289] zpC290 zpP1 1 zpA290 [] 3000 = true := by decide +kernel
theorem zpT291 : zcheck zpZ zpRS zpMT [zpC290] zpC291 zpP1 1 zpA291 [] 3000 = true := by decide +kernel
theorem zpT292 : zcheck zpZ zpRS zpMT [zpC121, zpC291] zpC292 zpP1 1 zpA292 [] 3000 = true := by decide +kernel
theorem zpT293 : zcheck zpZ zpRS zpMT [zpC292] zpC293 zpP1 1 zpA293 [] 3000 = true := by decide +kernel
theorem zpT294 : zcheck zpZ zpRS zpMT [zpC293] zpC294 zpP1 1 zpA294 [] 3000 = true := by decide +kernel
theorem zpT295 : zcheck zpZ zpRS zpMT [zpC121, zpC294] zpC295 zpP1 1 zpA295 [] 3000 = true := by decide +kernel
theorem zpT296 : zcheck zpZ zpRS zpMT [zpC121, zpC258] zpC296 zpP1 1 zpA296 [] 3000 = true := by decide +kernel
theorem zpT297 : zcheck zpZ zpRS zpMT [zpC121, zpC291] zpC297 zpP1 1 zpA297 [] 3000 = true := by decide +kernel
theorem zpT298 : zcheck zpZ zpRS zpMT [zpC297] zpC298 zpP1 1 zpA298 [] 3000 = true := by decide +kernel
theorem zpT299 : zcheck zpZ zpRS zpMT [zpC298] zpC299 zpP1 1 zpA299 [] 3000 = true := by decide +kernel
theorem zpT300 : zcheck zpZ zpRS zpMT [zpC121, zpC299] zpC300 zpP1 1 zpA300 [] 3000 = true := by decide +kernel
theorem zpT301 : zcheck zpZ zpRS zpMT [zpC121, zpC258] zpC301 zpP1 1 zpA301 [] 3000 = true := by decide +kernel
theorem zpT302 : zcheck zpZ zpRS zpMT [zpC259, zpC269, zpC274, zpC287, zpC295, zpC296, zpC300, zpC301] zpC302 zpP1 1 zpA302 [] 3000 = true := by decide +kernel
theorem zpT303 : zcheck zpZ zpRS zpMT [zpC302] zpC303 zpP1 1 zpA303 [] 3000 = true := by decide +kernel
theorem zpT304 : zcheck zpZ zpRS zpMT [zpC121, zpC303] zpC304 zpP1 1 zpA304 [] 3000 = true := by decide +kernel
theorem zpT305 : zcheck zpZ zpRS zpMT [zpC121, zpC303] zpC305 zpP1 1 zpA305 [] 3000 = true := by decide +kernel
theorem zpT306 : zcheck zpZ zpRS zpMT [zpC121, zpC303] zpC306 zpP1 1 zpA306 [] 3000 = true := by decide +kernel
theorem zpT307 : zcheck zpZ zpRS zpMT [zpC121, zpC265] zpC307 zpP1 1 zpA307 [] 3000 = true := by decide +kernel
theorem zpT308 : zcheck zpZ zpRS zpMT [] zpC308 zpP1 1 zpA308 [] 3000 = true := by decide +kernel
theorem zpT309 : zcheck zpZ zpRS zpMT [zpC121, zpC308] zpC309 zpP1 1 zpA309 [] 3000 = true := by decide +kernel
theorem zpT310 : zcheck zpZ zpRS zpMT [zpC309] zpC310 zpP1 1 zpA310 [] 3000 = true := by decide +kernel
theorem zpT311 : zcheck zpZ zpRS zpMT [zpC310] zpC311 zpP1 1 zpA311 [] 3000 = true := by decide +kernel
theorem zpT312 : zcheck zpZ zpRS zpMT [zpC121, zpC311] zpC312 zpP1 1 zpA312 [] 3000 = true := by decide +kernel
theorem zpT313 : zcheck zpZ zpRS zpMT [zpC312] zpC313 zpP1 1 zpA313 [] 3000 = true := by decide +kernel
theorem zpT314 : zcheck zpZ zpRS zpMT [zpC313] zpC314 zpP1 1 zpA314 [] 3000 = true := by decide +kernel
theorem zpT315 : zcheck zpZ zpRS zpMT [zpC121, zpC314] zpC315 zpP1 1 zpA315 [] 3000 = true := by decide +kernel
theorem zpT316 : zcheck zpZ zpRS zpMT [zpC121, zpC265] zpC316 zpP1 1 zpA316 [] 3000 = true := by decide +kernel
theorem zpT317 : zcheck zpZ zpRS zpMT [zpC121, zpC311] zpC317 zpP1 1 zpA317 [] 3000 = true := by decide +kernel
theorem zpT318 : zcheck zpZ zpRS zpMT [zpC317] zpC318 zpP1 1 zpA318 [] 3000 = true := by decide +kernel
theorem zpT319 : zcheck zpZ zpRS zpMT [zpC318] zpC319 zpP1 1 zpA319 [] 3000 = true := by decide +kernel
theorem zpT320 : zcheck zpZ zpRS zpMT [zpC121, zpC319] zpC320 zpP1 1 zpA320 [] 3000 = true := by decide +kernel
theorem zpT321 : zcheck zpZ zpRS zpMT [zpC121, zpC265] zpC321 zpP1 1 zpA321 [] 3000 = true := by decide +kernel
theorem zpT322 : zcheck zpZ zpRS zpMT [zpC266, zpC292, zpC297, zpC307, zpC315, zpC316, zpC320, zpC321] zpC322 zpP1 1 zpA322 [] 3000 = true := by decide +kernel
theorem zpT323 : zcheck zpZ zpRS zpMT [zpC322] zpC323 zpP1 1 zpA323 [] 3000 = true := by decide +kernel
theorem zpT324 : zcheck zpZ zpRS zpMT [zpC121, zpC323] zpC324 zpP1 1 zpA324 [] 3000 = true := by decide +kernel
theorem zpT325 : zcheck zpZ zpRS zpMT [zpC324] zpC325 zpP1 1 zpA325 [] 3000 = true := by decide +kernel
theorem zpT326 : zcheck zpZ zpRS zpMT [zpC325] zpC326 zpP1 1 zpA326 [] 3000 = true := by decide +kernel
theorem zpT327 : zcheck zpZ zpRS zpMT [zpC121, zpC326] zpC327 zpP1 1 zpA327 [] 3000 = true := by decide +kernel
theorem zpT328 : zcheck zpZ zpRS zpMT [zpC121, zpC303] zpC328 zpP1 1 zpA328 [] 3000 = true := by decide +kernel
theorem zpT329 : zcheck zpZ zpRS zpMT [zpC121, zpC303] zpC329 zpP1 1 zpA329 [] 3000 = true := by decide +kernel
theorem zpT330 : zcheck zpZ zpRS zpMT [zpC121, zpC288] zpC330 zpP1 1 zpA330 [] 3000 = true := by decide +kernel
theorem zpT331 : zcheck zpZ zpRS zpMT [] zpC331 zpP1 1 zpA331 [] 3000 = true := by decide +kernel
theorem zpT332 : zcheck zpZ zpRS zpMT [zpC121, zpC331] zpC332 zpP1 1 zpA332 [] 3000 = true := by decide +kernel
theorem zpT333 : zcheck zpZ zpRS zpMT [zpC332] zpC333 zpP1 1 zpA333 [] 3000 = true := by decide +kernel
theorem zpT334 : zcheck zpZ zpRS zpMT [zpC333] zpC334 zpP1 1 zpA334 [] 3000 = true := by decide +kernel
theorem zpT335 : zcheck zpZ zpRS zpMT [zpC121, zpC334] zpC335 zpP1 1 zpA335 [] 3000 = true := by decide +kernel
theorem zpT336 : zcheck zpZ zpRS zpMT [zpC335] zpC336 zpP1 1 zpA336 [] 3000 = true := by decide +kernel
theorem zpT337 : zcheck zpZ zpRS zpMT [zpC336] zpC337 zpP1 1 zpA337 [] 3000 = true := by decide +kernel
theorem zpT338 : zcheck zpZ zpRS zpMT [zpC121, zpC337] zpC338 zpP1 1 zpA338 [] 3000 = true := by decide +kernel
theorem zpT339 : zcheck zpZ zpRS zpMT [zpC121, zpC288] zpC339 zpP1 1 zpA339 [] 3000 = true := by decide +kernel
theorem zpT340 : zcheck zpZ zpRS zpMT [zpC121, zpC334] zpC340 zpP1 1 zpA340 [] 3000 = true := by decide +kernel
theorem zpT341 : zcheck zpZ zpRS zpMT [zpC340] zpC341 zpP1 1 zpA341 [] 3000 = true := by decide +kernel
theorem zpT342 : zcheck zpZ zpRS zpMT [zpC341] zpC342 zpP1 1 zpA342 [] 3000 = true := by decide +kernel
theorem zpT343 : zcheck zpZ zpRS zpMT [zpC121, zpC342] zpC343 zpP1 1 zpA343 [] 3000 = true := by decide +kernel
theorem zpT344 : zcheck zpZ zpRS zpMT [zpC121, zpC288] zpC344 zpP1 1 zpA344 [] 3000 = true := by decide +kernel
theorem zpT345 : zcheck zpZ zpRS zpMT [zpC289, zpC312, zpC317, zpC330, zpC338, zpC339, zpC343, zpC344] zpC345 zpP1 1 zpA345 [] 3000 = true := by decide +kernel
theorem zpT346 : zcheck zpZ zpRS zpMT [zpC345] zpC346 zpP1 1 zpA346 [] 3000 = true := by decide +kernel
theorem zpT347 : zcheck zpZ zpRS zpMT [zpC121, zpC346] zpC347 zpP1 1 zpA347 [] 3000 = true := by decide +kernel
theorem zpT348 : zcheck zpZ zpRS zpMT [zpC347] zpC348 zpP1 1 zpA348 [] 3000 = true := by decide +kernel
theorem zpT349 : zcheck zpZ zpRS zpMT [zpC348] zpC349 zpP1 1 zpA349 [] 3000 = true := by decide +kernel
theorem zpT350 : zcheck zpZ zpRS zpMT [zpC121, zpC349] zpC350 zpP1 1 zpA350 [] 3000 = true := by decide +kernel
theorem zpT351 : zcheck zpZ zpRS zpMT [zpC350] zpC351 zpP1 1 zpA351 [] 3000 = true := by decide +kernel
theorem zpT352 : zcheck zpZ zpRS zpMT [] zpC352 zpP1 1 zpA352 [] 3000 = true := by decide +kernel
theorem zpT353 : zcheck zpZ zpRS zpMT [zpC121, zpC352] zpC353 zpP1 1 zpA353 [] 3000 = true := by decide +kernel
theorem zpT354 : zcheck zpZ zpRS zpMT [zpC121, zpC352] zpC354 zpP1 1 zpA354 [] 3000 = true := by decide +kernel
theorem zpT355 : zcheck zpZ zpRS zpMT [] zpC355 zpP1 1 zpA355 [] 3000 = true := by decide +kernel
theorem zpT356 : zcheck zpZ zpRS zpMT [zpC121, zpC355] zpC356 zpP1 1 zpA356 [] 3000 = true := by decide +kernel
theorem zpT357 : zcheck zpZ zpRS zpMT [zpC356] zpC357 zpP1 1 zpA357 [] 3000 = true := by decide +kernel
theorem zpT358 : zcheck zpZ zpRS zpMT [zpC357] zpC358 zpP1 1 zpA358 [] 3000 = true := by decide +kernel
theorem zpT359 : zcheck zpZ zpRS zpMT [zpC121, zpC358] zpC359 zpP1 1 zpA359 [] 3000 = true := by decide +kernel
theorem zpT360 : zcheck zpZ zpRS zpMT [zpC121, zpC352] zpC360 zpP1 1 zpA360 [] 3000 = true := by decide +kernel
theorem zpT361 : zcheck zpZ zpRS zpMT [zpC121, zpC352] zpC361 zpP1 1 zpA361 [] 3000 = true := by decide +kernel
theorem zpT362 : zcheck zpZ zpRS zpMT [zpC121, zpC352] zpC362 zpP1 1 zpA362 [] 3000 = true := by decide +kernel
