theorem zpT240 : zcheck zpZ zpRS zpMT [zpC239] zpC240 zpP1 1 zpA240 [] 3000 = true := by decide +kernel
theorem zpT241 : zcheck zpZ zpRS zpMT [zpC240] zpC241 zpP1 1 zpA241 [] 3000 = true := by decide +kernel
theorem zpT242 : zcheck zpZ zpRS zpMT [zpC50, zpC241] zpC242 zpP1 1 zpA242 [] 3000 = true := by decide +kernel
theorem zpT243 : zcheck zpZ zpRS zpMT [zpC50, zpC235] zpC243 zpP1 1 zpA243 [] 3000 = true := by decide +kernel
theorem zpT244 : zcheck zpZ zpRS zpMT [zpC50, zpC235] zpC244 zpP1 1 zpA244 [] 3000 = true := by decide +kernel
theorem zpT245 : zcheck zpZ zpRS zpMT [zpC50, zpC235] zpC245 zpP1 1 zpA245 [] 3000 = true := by decide +kernel
theorem zpT246 : zcheck zpZ zpRS zpMT [zpC50, zpC235] zpC246 zpP1 1 zpA246 [] 3000 = true := by decide +kernel
theorem zpT247 : zcheck zpZ zpRS zpMT [zpC239] zpC247 zpP1 1 zpA247 [] 3000 = true := by decide +kernel
theorem zpT248 : zcheck zpZ zpRS zpMT [zpC205, zpC247] zpC248 zpP1 1 zpA248 [] 3000 = true := by decide +kernel
theorem zpT249 : zcheck zpZ zpRS zpMT [zpC50, zpC248] zpC249 zpP1 1 zpA249 [] 3000 = true := by decide +kernel
theorem zpT250 : zcheck zpZ zpRS zpMT [zpC236, zpC237, zpC242, zpC243, zpC244, zpC245, zpC246, zpC249] zpC250 zpP1 1 zpA250 [] 3000 = true := by decide +kernel
theorem zpT251 : zcheck zpZ zpRS zpMT [zpC234, zpC250] zpC251 zpP1 1 zpA251 [] 3000 = true := by decide +kernel
theorem zpT252 : zcheck zpZ zpRS zpMT [zpC50, zpC251] zpC252 zpP1 1 zpA252 [] 3000 = true := by decide +kernel
theorem zpT253 : zcheck zpZ zpRS zpMT [zpC50, zpC186] zpC253 zpP1 1 zpA253 [] 3000 = true := by decide +kernel
theorem zpT254 : zcheck zpZ zpRS zpMT [zpC187, zpC188, zpC189, zpC210, zpC211, zpC212, zpC252, zpC253] zpC254 zpP1 1 zpA254 [] 3000 = true := by decide +kernel
theorem zpT255 : zcheck zpZ zpRS zpMT [] zpC255 zpP1 1 zpA255 [] 3000 = true := by decide +kernel
theorem zpT256 : zcheck zpZ zpRS zpMT [zpC50, zpC255] zpC256 zpP1 1 zpA256 [] 3000 = true := by decide +kernel
theorem zpT257 : zcheck zpZ zpRS zpMT [zpC50, zpC255] zpC257 zpP1 1 zpA257 [] 3000 = true := by decide +kernel
theorem zpT258 : zcheck zpZ zpRS zpMT [zpC236] zpC258 zpP1 1 zpA258 [] 3000 = true := by decide +kernel
theorem zpT259 : zcheck zpZ zpRS zpMT [zpC258] zpC259 zpP1 1 zpA259 [] 3000 = true := by decide +kernel
theorem zpT260 : zcheck zpZ zpRS zpMT [zpC50, zpC259] zpC260 zpP1 1 zpA260 [] 3000 = true := by decide +kernel
theorem zpT261 : zcheck zpZ zpRS zpMT [zpC50, zpC255] zpC261 zpP1 1 zpA261 [] 3000 = true := by decide +kernel
theorem zpT262 : zcheck zpZ zpRS zpMT [zpC50, zpC255] zpC262 zpP1 1 zpA262 [] 3000 = true := by decide +kernel
theorem zpT263 : zcheck zpZ zpRS zpMT [zpC50, zpC255] zpC263 zpP1 1 zpA263 [] 3000 = true := by decide +kernel
theorem zpT264 : zcheck zpZ zpRS zpMT [zpC50, zpC255] zpC264 zpP1 1 zpA264 [] 3000 = true := by decide +kernel
theorem zpT265 : zcheck zpZ zpRS zpMT [zpC236] zpC265 zpP1 1 zpA265 [] 3000 = true := by decide +kernel
theorem zpT266 : zcheck zpZ zpRS zpMT [zpC185, zpC265] zpC266 zpP1 1 zpA266 [] 3000 = true := by decide +kernel
theorem zpT267 : zcheck zpZ zpRS zpMT [zpC50, zpC266] zpC267 zpP1 1 zpA267 [] 3000 = true := by decide +kernel
theorem zpT268 : zcheck zpZ zpRS zpMT [zpC256, zpC257, zpC260, zpC261, zpC262, zpC263, zpC264, zpC267] zpC268 zpP1 1 zpA268 [] 3000 = true := by decide +kernel
theorem zpT269 : zcheck zpZ zpRS zpMT [zpC254, zpC268] zpC269 zpP1 1 zpA269 [] 3000 = true := by decide +kernel
theorem zpT270 : zcheck zpZ zpRS zpMT [zpC50, zpC269] zpC270 zpP1 1 zpA270 [] 3000 = true := by decide +kernel
theorem zpT271 : zcheck zpZ zpRS zpMT [zpC270] zpC271 zpP1 1 zpA271 [] 3000 = true := by decide +kernel
theorem zpT272 : zcheck zpZ zpRS zpMT [zpC50, zpC167] zpC272 zpP1 1 zpA272 [] 3000 = true := by decide +kernel
theorem zpT273 : zcheck zpZ zpRS zpMT [zpC272] zpC273 zpP1 1 zpA273 [] 3000 = true := by decide +kernel
theorem zpT274 : zcheck zpZ zpRS zpMT [zpC188] zpC274 zpP1 1 zpA274 [] 3000 = true := by decide +kernel
theorem zpT275 : zcheck zpZ zpRS zpMT [zpC274] zpC275 zpP1 1 zpA275 [] 3000 = true := by decide +kernel
theorem zpT276 : zcheck zpZ zpRS zpMT [zpC50, zpC275] zpC276 zpP1 1 zpA276 [] 3000 = true := by decide +kernel
theorem zpT277 : zcheck zpZ zpRS zpMT [zpC276] zpC277 zpP1 1 zpA277 [] 3000 = true := by decide +kernel
theorem zpT278 : zcheck zpZ zpRS zpMT [zpC137] zpC278 zpP1 1 zpA278 [] 3000 = true := by decide +kernel
theorem zpT279 : zcheck zpZ zpRS zpMT [zpC50, zpC133] zpC279 zpP1 1 zpA279 [] 3000 = true := by decide +kernel
theorem zpT280 : zcheck zpZ zpRS zpMT [zpC145] zpC280 zpP1 1 zpA280 [] 3000 = true := by decide +kernel
theorem zpT281 : zcheck zpZ zpRS zpMT [zpC280] zpC281 zpP1 1 zpA281 [] 3000 = true := by decide +kernel
theorem zpT282 : zcheck zpZ zpRS zpMT [zpC50, zpC281] zpC282 zpP1 1 zpA282 [] 3000 = true := by decide +kernel
theorem zpT283 : zcheck zpZ zpRS zpMT [zpC50, zpC133] zpC283 zpP1 1 zpA283 [] 3000 = true := by decide +kernel
theorem zpT284 : zcheck zpZ zpRS zpMT [zpC147] zpC284 zpP1 1 zpA284 [] 3000 = true := by decide +kernel
theorem zpT285 : zcheck zpZ zpRS zpMT [zpC284] zpC285 zpP1 1 zpA285 [] 3000 = true := by decide +kernel
theorem zpT286 : zcheck zpZ zpRS zpMT [zpC50, zpC285] zpC286 zpP1 1 zpA286 [] 3000 = true := by decide +kernel
theorem zpT287 : zcheck zpZ zpRS zpMT [zpC50, zpC133] zpC287 zpP1 1 zpA287 [] 3000 = true := by decide +kernel
theorem zpT288 : zcheck zpZ zpRS zpMT [zpC134, zpC168, zpC272, zpC279, zpC282, zpC283, zpC286, zpC287] zpC288 zpP1 1 zpA288 [] 3000 = true := by decide +kernel
theorem zpT289 : zcheck zpZ zpRS zpMT [zpC50, zpC163] zpC289 zpP1 1 zpA289 [] 3000 = true := by decide +kernel
theorem zpT290 : zcheck zpZ zpRS zpMT [zpC50, zpC163] zpC290 zpP1 1 zpA290 [] 3000 = true := by decide +kernel
theorem zpT291 : zcheck zpZ zpRS zpMT [zpC50, zpC163] zpC291 zpP1 1 zpA291 [] 3000 = true := by decide +kernel
theorem zpT292 : zcheck zpZ zpRS zpMT [zpC50, zpC163] zpC292 zpP1 1 zpA292 [] 3000 = true := by decide +kernel
theorem zpT293 : zcheck zpZ zpRS zpMT [zpC210] zpC293 zpP1 1 zpA293 [] 3000 = true := by decide +kernel
theorem zpT294 : zcheck zpZ zpRS zpMT [zpC268, zpC293] zpC294 zpP1 1 zpA294 [] 3000 = true := by decide +kernel
theorem zpT295 : zcheck zpZ zpRS zpMT [zpC50, zpC294] zpC295 zpP1 1 zpA295 [] 3000 = true := by decide +kernel
theorem zpT296 : zcheck zpZ zpRS zpMT [zpC50, zpC163] zpC296 zpP1 1 zpA296 [] 3000 = true := by decide +kernel
theorem zpT297 : zcheck zpZ zpRS zpMT [zpC164, zpC276, zpC289, zpC290, zpC291, zpC292, zpC295, zpC296] zpC297 zpP1 1 zpA297 [] 3000 = true := by decide +kernel
theorem zpT298 : zcheck zpZ zpRS zpMT [zpC50, zpC136] zpC298 zpP1 1 zpA298 [] 3000 = true := by decide +kernel
theorem zpT299 : zcheck zpZ zpRS zpMT [zpC256] zpC299 zpP1 1 zpA299 [] 3000 = true := by decide +kernel
