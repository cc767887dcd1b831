theorem zpT240 : zcheck zpZ zpRS zpMT [zpC55, zpC238] zpC240 zpP1 1 zpA240 [] 3000 = true := by decide +kernel
theorem zpT241 : zcheck zpZ zpRS zpMT [zpC55, zpC238] zpC241 zpP1 1 zpA241 [] 3000 = true := by decide +kernel
theorem zpT242 : zcheck zpZ zpRS zpMT [zpC55, zpC200] zpC242 zpP1 1 zpA242 [] 3000 = true := by decide +kernel
theorem zpT243 : zcheck zpZ zpRS zpMT [] zpC243 zpP1 1 zpA243 [] 3000 = true := by decide +kernel
theorem zpT244 : zcheck zpZ zpRS zpMT [zpC55, zpC243] zpC244 zpP1 1 zpA244 [] 3000 = true := by decide +kernel
theorem zpT245 : zcheck zpZ zpRS zpMT [zpC244] zpC245 zpP1 1 zpA245 [] 3000 = true := by decide +kernel
theorem zpT246 : zcheck zpZ zpRS zpMT [zpC245] zpC246 zpP1 1 zpA246 [] 3000 = true := by decide +kernel
theorem zpT247 : zcheck zpZ zpRS zpMT [zpC55, zpC246] zpC247 zpP1 1 zpA247 [] 3000 = true := by decide +kernel
theorem zpT248 : zcheck zpZ zpRS zpMT [zpC247] zpC248 zpP1 1 zpA248 [] 3000 = true := by decide +kernel
theorem zpT249 : zcheck zpZ zpRS zpMT [zpC248] zpC249 zpP1 1 zpA249 [] 3000 = true := by decide +kernel
theorem zpT250 : zcheck zpZ zpRS zpMT [zpC55, zpC249] zpC250 zpP1 1 zpA250 [] 3000 = true := by decide +kernel
theorem zpT251 : zcheck zpZ zpRS zpMT [zpC55, zpC200] zpC251 zpP1 1 zpA251 [] 3000 = true := by decide +kernel
theorem zpT252 : zcheck zpZ zpRS zpMT [zpC55, zpC246] zpC252 zpP1 1 zpA252 [] 3000 = true := by decide +kernel
theorem zpT253 : zcheck zpZ zpRS zpMT [zpC252] zpC253 zpP1 1 zpA253 [] 3000 = true := by decide +kernel
theorem zpT254 : zcheck zpZ zpRS zpMT [zpC253] zpC254 zpP1 1 zpA254 [] 3000 = true := by decide +kernel
theorem zpT255 : zcheck zpZ zpRS zpMT [zpC55, zpC254] zpC255 zpP1 1 zpA255 [] 3000 = true := by decide +kernel
theorem zpT256 : zcheck zpZ zpRS zpMT [zpC55, zpC200] zpC256 zpP1 1 zpA256 [] 3000 = true := by decide +kernel
theorem zpT257 : zcheck zpZ zpRS zpMT [zpC201, zpC227, zpC232, zpC242, zpC250, zpC251, zpC255, zpC256] zpC257 zpP1 1 zpA257 [] 3000 = true := by decide +kernel
theorem zpT258 : zcheck zpZ zpRS zpMT [zpC257] zpC258 zpP1 1 zpA258 [] 3000 = true := by decide +kernel
theorem zpT259 : zcheck zpZ zpRS zpMT [zpC55, zpC258] zpC259 zpP1 1 zpA259 [] 3000 = true := by decide +kernel
theorem zpT260 : zcheck zpZ zpRS zpMT [zpC259] zpC260 zpP1 1 zpA260 [] 3000 = true := by decide +kernel
theorem zpT261 : zcheck zpZ zpRS zpMT [zpC260] zpC261 zpP1 1 zpA261 [] 3000 = true := by decide +kernel
theorem zpT262 : zcheck zpZ zpRS zpMT [zpC55, zpC261] zpC262 zpP1 1 zpA262 [] 3000 = true := by decide +kernel
theorem zpT263 : zcheck zpZ zpRS zpMT [zpC55, zpC238] zpC263 zpP1 1 zpA263 [] 3000 = true := by decide +kernel
theorem zpT264 : zcheck zpZ zpRS zpMT [zpC55, zpC238] zpC264 zpP1 1 zpA264 [] 3000 = true := by decide +kernel
theorem zpT265 : zcheck zpZ zpRS zpMT [zpC55, zpC223] zpC265 zpP1 1 zpA265 [] 3000 = true := by decide +kernel
theorem zpT266 : zcheck zpZ zpRS zpMT [] zpC266 zpP1 1 zpA266 [] 3000 = true := by decide +kernel
theorem zpT267 : zcheck zpZ zpRS zpMT [zpC55, zpC266] zpC267 zpP1 1 zpA267 [] 3000 = true := by decide +kernel
theorem zpT268 : zcheck zpZ zpRS zpMT [zpC267] zpC268 zpP1 1 zpA268 [] 3000 = true := by decide +kernel
theorem zpT269 : zcheck zpZ zpRS zpMT [zpC268] zpC269 zpP1 1 zpA269 [] 3000 = true := by decide +kernel
theorem zpT270 : zcheck zpZ zpRS zpMT [zpC55, zpC269] zpC270 zpP1 1 zpA270 [] 3000 = true := by decide +kernel
theorem zpT271 : zcheck zpZ zpRS zpMT [zpC270] zpC271 zpP1 1 zpA271 [] 3000 = true := by decide +kernel
theorem zpT272 : zcheck zpZ zpRS zpMT [zpC271] zpC272 zpP1 1 zpA272 [] 3000 = true := by decide +kernel
theorem zpT273 : zcheck zpZ zpRS zpMT [zpC55, zpC272] zpC273 zpP1 1 zpA273 [] 3000 = true := by decide +kernel
theorem zpT274 : zcheck zpZ zpRS zpMT [zpC55, zpC223] zpC274 zpP1 1 zpA274 [] 3000 = true := by decide +kernel
theorem zpT275 : zcheck zpZ zpRS zpMT [zpC55, zpC269] zpC275 zpP1 1 zpA275 [] 3000 = true := by decide +kernel
theorem zpT276 : zcheck zpZ zpRS zpMT [zpC275] zpC276 zpP1 1 zpA276 [] 3000 = true := by decide +kernel
theorem zpT277 : zcheck zpZ zpRS zpMT [zpC276] zpC277 zpP1 1 zpA277 [] 3000 = true := by decide +kernel
theorem zpT278 : zcheck zpZ zpRS zpMT [zpC55, zpC277] zpC278 zpP1 1 zpA278 [] 3000 = true := by decide +kernel
theorem zpT279 : zcheck zpZ zpRS zpMT [zpC55, zpC223] zpC279 zpP1 1 zpA279 [] 3000 = true := by decide +kernel
theorem zpT280 : zcheck zpZ zpRS zpMT [zpC224, zpC247, zpC252, zpC265, zpC273, zpC274, zpC278, zpC279] zpC280 zpP1 1 zpA280 [] 3000 = true := by decide +kernel
theorem zpT281 : zcheck zpZ zpRS zpMT [zpC280] zpC281 zpP1 1 zpA281 [] 3000 = true := by decide +kernel
theorem zpT282 : zcheck zpZ zpRS zpMT [zpC55, zpC281] zpC282 zpP1 1 zpA282 [] 3000 = true := by decide +kernel
theorem zpT283 : zcheck zpZ zpRS zpMT [zpC282] zpC283 zpP1 1 zpA283 [] 3000 = true := by decide +kernel
theorem zpT284 : zcheck zpZ zpRS zpMT [zpC283] zpC284 zpP1 1 zpA284 [] 3000 = true := by decide +kernel
theorem zpT285 : zcheck zpZ zpRS zpMT [zpC55, zpC284] zpC285 zpP1 1 zpA285 [] 3000 = true := by decide +kernel
theorem zpT286 : zcheck zpZ zpRS zpMT [zpC285] zpC286 zpP1 1 zpA286 [] 3000 = true := by decide +kernel
theorem zpT287 : zcheck zpZ zpRS zpMT [] zpC287 zpP1 1 zpA287 [] 3000 = true := by decide +kernel
theorem zpT288 : zcheck zpZ zpRS zpMT [zpC55, zpC287] zpC288 zpP1 1 zpA288 [] 3000 = true := by decide +kernel
theorem zpT289 : zcheck zpZ zpRS zpMT [zpC55, zpC287] zpC289 zpP1 1 zpA289 [] 3000 = true := by decide +kernel
theorem zpT290 : zcheck zpZ zpRS zpMT [] zpC290 zpP1 1 zpA290 [] 3000 = true := by decide +kernel
theorem zpT291 : zcheck zpZ zpRS zpMT [zpC55, zpC290] zpC291 zpP1 1 zpA291 [] 3000 = true := by decide +kernel
theorem zpT292 : zcheck zpZ zpRS zpMT [zpC291] zpC292 zpP1 1 zpA292 [] 3000 = true := by decide +kernel
theorem zpT293 : zcheck zpZ zpRS zpMT [zpC292] zpC293 zpP1 1 zpA293 [] 3000 = true := by decide +kernel
theorem zpT294 : zcheck zpZ zpRS zpMT [zpC55, zpC293] zpC294 zpP1 1 zpA294 [] 3000 = true := by decide +kernel
theorem zpT295 : zcheck zpZ zpRS zpMT [zpC55, zpC287] zpC295 zpP1 1 zpA295 [] 3000 = true := by decide +kernel
theorem zpT296 : zcheck zpZ zpRS zpMT [zpC55, zpC287] zpC296 zpP1 1 zpA296 [] 3000 = true := by decide +kernel
theorem zpT297 : zcheck zpZ zpRS zpMT [zpC55, zpC287] zpC297 zpP1 1 zpA297 [] 3000 = true := by decide +kernel
theorem zpT298 : zcheck zpZ zpRS zpMT [zpC55, zpC287] zpC298 zpP1 1 zpA298 [] 3000 = true := by decide +kernel
theorem zpT299 : zcheck zpZ zpRS zpMT [zpC291] zpC299 zpP1 1 zpA299 [] 3000 = true := by decide +kernel
theorem zpT300 : zcheck zpZ zpRS zpMT [zpC257, zpC299] zpC300 zpP1 1 zpA300 [] 3000 = true := by decide +kernel
theorem zpT301 : zcheck zpZ zpRS zpMT [zpC55, zpC300] zpC301 zpP1 1 zpA301 [] 3000 = true := by decide +kernel
theorem zpT302 : zcheck zpZ zpRS zpMT [zpC288, zpC289, zpC294, zpC295, zpC296, zpC297, zpC298, zpC301] zpC302 zpP1 1 zpA302 [] 3000 = true := by decide +kernel
theorem zpT303 : zcheck zpZ zpRS zpMT [zpC286, zpC302] zpC303 zpP1 1 zpA303 [] 3000 = true := by decide +kernel
theorem zpT304 : zcheck zpZ zpRS zpMT [zpC55, zpC303] zpC304 zpP1 1 zpA304 [] 3000 = true := by decide +kernel
theorem zpT305 : zcheck zpZ zpRS zpMT [zpC55, zpC238] zpC305 zpP1 1 zpA305 [] 3000 = true := by decide +kernel
theorem zpT306 : zcheck zpZ zpRS zpMT [zpC239, zpC240, zpC241, zpC262, zpC263, zpC264, zpC304, zpC305] zpC306 zpP1 1 zpA306 [] 3000 = true := by decide +kernel
theorem zpT307 : zcheck zpZ zpRS zpMT [] zpC307 zpP1 1 zpA307 [] 3000 = true := by decide +kernel
theorem zpT308 : zcheck zpZ zpRS zpMT [zpC55, zpC307] zpC308 zpP1 1 zpA308 [] 3000 = true := by decide +kernel
theorem zpT309 : zcheck zpZ zpRS zpMT [zpC55, zpC307] zpC309 zpP1 1 zpA309 [] 3000 = true := by decide +kernel
theorem zpT310 : zcheck zpZ zpRS zpMT [zpC288] zpC310 zpP1 1 zpA310 [] 3000 = true := by decide +kernel
theorem zpT311 : zcheck zpZ zpRS zpMT [zpC310] zpC311 zpP1 1 zpA311 [] 3000 = true := by decide +kernel
theorem zpT312 : zcheck zpZ zpRS zpMT [zpC55, zpC311] zpC312 zpP1 1 zpA312 [] 3000 = true := by decide +kernel
theorem zpT313 : zcheck zpZ zpRS zpMT [zpC55, zpC307] zpC313 zpP1 1 zpA313 [] 3000 = true := by decide +kernel
theorem zpT314 : zcheck zpZ zpRS zpMT [zpC55, zpC307] zpC314 zpP1 1 zpA314 [] 3000 = true := by decide +kernel
theorem zpT315 : zcheck zpZ zpRS zpMT [zpC55, zpC307] zpC315 zpP1 1 zpA315 [] 3000 = true := by decide +kernel
theorem zpT316 : zcheck zpZ zpRS zpMT [zpC55, zpC307] zpC316 zpP1 1 zpA316 [] 3000 = true := by decide +kernel
theorem zpT317 : zcheck zpZ zpRS zpMT [zpC288] zpC317 zpP1 1 zpA317 [] 3000 = true := by decide +kernel
theorem zpT318 : zcheck zpZ zpRS zpMT [zpC237, zpC317] zpC318 zpP1 1 zpA318 [] 3000 = true := by decide +kernel
theorem zpT319 : zcheck zpZ zpRS zpMT [zpC55, zpC318] zpC319 zpP1 1 zpA319 [] 3000 = true := by decide +kernel
theorem zpT320 : zcheck zpZ zpRS zpMT [zpC308, zpC309, zpC312, zpC313, zpC314, zpC315, zpC316, zpC319] zpC320 zpP1 1 zpA320 [] 3000 = true := by decide +kernel
theorem zpT321 : zcheck zpZ zpRS zpMT [zpC306, zpC320] zpC321 zpP1 1 zpA321 [] 3000 = true := by decide +kernel
theorem zpT322 : zcheck zpZ zpRS zpMT [zpC55, zpC321] zpC322 zpP1 1 zpA322 [] 3000 = true := by decide +kernel
theorem zpT323 : zcheck zpZ zpRS zpMT [zpC322] zpC323 zpP1 1 zpA323 [] 3000 = true := by decide +kernel
theorem zpT324 : zcheck zpZ zpRS zpMT [zpC55, zpC219] zpC324 zpP1 1 zpA324 [] 3000 = true := by decide +kernel
theorem zpT325 : zcheck zpZ zpRS zpMT [zpC324] zpC325 zpP1 1 zpA325 [] 3000 = true := by decide +kernel
theorem zpT326 : zcheck zpZ zpRS zpMT [zpC240] zpC326 zpP1 1 zpA326 [] 3000 = true := by decide +kernel
theorem zpT327 : zcheck zpZ zpRS zpMT [zpC326] zpC327 zpP1 1 zpA327 [] 3000 = true := by decide +kernel
theorem zpT328 : zcheck zpZ zpRS zpMT [zpC55, zpC327] zpC328 zpP1 1 zpA328 [] 3000 = true := by decide +kernel
theorem zpT329 : zcheck zpZ zpRS zpMT [zpC328] zpC329 zpP1 1 zpA329 [] 3000 = true := by decide +kernel
