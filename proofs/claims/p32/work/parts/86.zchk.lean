theorem zpT1326 : zcheck zpZ zpRS zpMT [zpC1237, zpC1325] zpC1326 zpP12 1 zpA1326 [] 3000 = true := by decide +kernel
theorem zpT1327 : zcheck zpZ zpRS zpMT [zpC1237, zpC1326] zpC1327 zpP12 1 zpA1327 [] 3000 = true := by decide +kernel
theorem zpT1328 : zcheck zpZ zpRS zpMT [zpC1304, zpC1305, zpC1327] zpC1328 zpP12 1 zpA1328 [] 3000 = true := by decide +kernel
theorem zpT1329 : zcheck zpZ zpRS zpMT [zpC1307, zpC1308, zpC1328] zpC1329 zpP12 1 zpA1329 [] 3000 = true := by decide +kernel
theorem zpT1330e : zrun zpZ zpRS zpP12 zpMT [zpC1235, zpC1237, zpC1238, zpC1299, zpC1310, zpC1311, zpC1324, zpC1329] (zpC1330.2.2.1.2.1.length, zpC1330.2.2.2.1, zpC1330.2.2.2.2, zpC1330.2.1, 1) (zpMT zpC1330.1).2.1 zpA1330 [] none 3000 0 zpC1330.2.2.1.2 = true := by decide +kernel
theorem zpT1330h0 : zhead zpZ zpRS zpMT [zpC1235, zpC1237, zpC1238, zpC1299, zpC1310, zpC1311, zpC1324, zpC1329] zpC1330 zpP12 1 zpA1330 [] 3000 zpA1330h0 = true := by decide +kernel
theorem zpT1330 : zcheck zpZ zpRS zpMT [zpC1235, zpC1237, zpC1238, zpC1299, zpC1310, zpC1311, zpC1324, zpC1329] zpC1330 zpP12 1 zpA1330 [] 3000 = true := zcheck_of zpT1330e (zall_cons zpT1330h0 (zall_nil)) (by decide +kernel)
theorem zpT1331 : zcheck zpZ zpRS zpMT [zpC1237, zpC1330] zpC1331 zpP12 1 zpA1331 [] 3000 = true := by decide +kernel
theorem zpT1332 : zcheck zpZ zpRS zpMT [zpC1237, zpC1331] zpC1332 zpP12 1 zpA1332 [] 3000 = true := by decide +kernel
theorem zpT1333 : zcheck zpZ zpRS zpMT [zpC1237, zpC1332] zpC1333 zpP12 1 zpA1333 [] 3000 = true := by decide +kernel
theorem zpT1334 : zcheck zpZ zpRS zpMT [zpC1304, zpC1305, zpC1333] zpC1334 zpP12 1 zpA1334 [] 3000 = true := by decide +kernel
theorem zpT1335 : zcheck zpZ zpRS zpMT [zpC1307, zpC1308, zpC1334] zpC1335 zpP12 1 zpA1335 [] 3000 = true := by decide +kernel
theorem zpT1336e : zrun zpZ zpRS zpP12 zpMT [zpC1235, zpC1237, zpC1238, zpC1299, zpC1310, zpC1311, zpC1330, zpC1335] (zpC1336.2.2.1.2.1.length, zpC1336.2.2.2.1, zpC1336.2.2.2.2, zpC1336.2.1, 1) (zpMT zpC1336.1).2.1 zpA1336 [] none 3000 0 zpC1336.2.2.1.2 = true := by decide +kernel
theorem zpT1336h0 : zhead zpZ zpRS zpMT [zpC1235, zpC1237, zpC1238, zpC1299, zpC1310, zpC1311, zpC1330, zpC1335] zpC1336 zpP12 1 zpA1336 [] 3000 zpA1336h0 = true := by decide +kernel
theorem zpT1336 : zcheck zpZ zpRS zpMT [zpC1235, zpC1237, zpC1238, zpC1299, zpC1310, zpC1311, zpC1330, zpC1335] zpC1336 zpP12 1 zpA1336 [] 3000 = true := zcheck_of zpT1336e (zall_cons zpT1336h0 (zall_nil)) (by decide +kernel)
theorem zpT1337 : zcheck zpZ zpRS zpMT [zpC1237, zpC1336] zpC1337 zpP12 1 zpA1337 [] 3000 = true := by decide +kernel
theorem zpT1338 : zcheck zpZ zpRS zpMT [zpC1237, zpC1337] zpC1338 zpP12 1 zpA1338 [] 3000 = true := by decide +kernel
theorem zpT1339 : zcheck zpZ zpRS zpMT [zpC1237, zpC1338] zpC1339 zpP12 1 zpA1339 [] 3000 = true := by decide +kernel
theorem zpT1340 : zcheck zpZ zpRS zpMT [zpC1304, zpC1305, zpC1339] zpC1340 zpP12 1 zpA1340 [] 3000 = true := by decide +kernel
theorem zpT1341 : zcheck zpZ zpRS zpMT [zpC1307, zpC1308, zpC1340] zpC1341 zpP12 1 zpA1341 [] 3000 = true := by decide +kernel
theorem zpT1342e : zrun zpZ zpRS zpP12 zpMT [zpC1235, zpC1237, zpC1238, zpC1299, zpC1310, zpC1311, zpC1336, zpC1341] (zpC1342.2.2.1.2.1.length, zpC1342.2.2.2.1, zpC1342.2.2.2.2, zpC1342.2.1, 1) (zpMT zpC1342.1).2.1 zpA1342 [] none 3000 0 zpC1342.2.2.1.2 = true := by decide +kernel
theorem zpT1342h0 : zhead zpZ zpRS zpMT [zpC1235, zpC1237, zpC1238, zpC1299, zpC1310, zpC1311, zpC1336, zpC1341] zpC1342 zpP12 1 zpA1342 [] 3000 zpA1342h0 = true := by decide +kernel
theorem zpT1342 : zcheck zpZ zpRS zpMT [zpC1235, zpC1237, zpC1238, zpC1299, zpC1310, zpC1311, zpC1336, zpC1341] zpC1342 zpP12 1 zpA1342 [] 3000 = true := zcheck_of zpT1342e (zall_cons zpT1342h0 (zall_nil)) (by decide +kernel)
theorem zpT1343 : zcheck zpZ zpRS zpMT [zpC1237, zpC1342] zpC1343 zpP12 1 zpA1343 [] 3000 = true := by decide +kernel
theorem zpT1344 : zcheck zpZ zpRS zpMT [zpC1237, zpC1343] zpC1344 zpP12 1 zpA1344 [] 3000 = true := by decide +kernel
