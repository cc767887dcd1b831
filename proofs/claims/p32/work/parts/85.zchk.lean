theorem zpT1301 : zcheck zpZ zpRS zpMT [zpC1237, zpC1300] zpC1301 zpP12 1 zpA1301 [] 3000 = true := by decide +kernel
theorem zpT1302 : zcheck zpZ zpRS zpMT [zpC1237, zpC1301] zpC1302 zpP12 1 zpA1302 [] 3000 = true := by decide +kernel
theorem zpT1303 : zcheck zpZ zpRS zpMT [zpC1237, zpC1302] zpC1303 zpP12 1 zpA1303 [] 3000 = true := by decide +kernel
theorem zpT1304 : zcheck zpZ zpRS zpMT [zpC1237] zpC1304 zpP12 2 zpA1304 [] 3000 = true := by decide +kernel
theorem zpT1305 : zcheck zpZ zpRS zpMT [] zpC1305 zpP12 2 zpA1305 [] 3000 = true := by decide +kernel
theorem zpT1306 : zcheck zpZ zpRS zpMT [zpC1303, zpC1304, zpC1305] zpC1306 zpP12 1 zpA1306 [] 3000 = true := by decide +kernel
theorem zpT1307 : zcheck zpZ zpRS zpMT [zpC1237] zpC1307 zpP12 2 zpA1307 [] 3000 = true := by decide +kernel
theorem zpT1308 : zcheck zpZ zpRS zpMT [] zpC1308 zpP12 2 zpA1308 [] 3000 = true := by decide +kernel
theorem zpT1309 : zcheck zpZ zpRS zpMT [zpC1306, zpC1307, zpC1308] zpC1309 zpP12 1 zpA1309 [] 3000 = true := by decide +kernel
theorem zpT1310 : zcheck zpZ zpRS zpMT [zpC1237] zpC1310 zpP12 2 zpA1310 [] 3000 = true := by decide +kernel
theorem zpT1311 : zcheck zpZ zpRS zpMT [] zpC1311 zpP12 2 zpA1311 [] 3000 = true := by decide +kernel
theorem zpT1312e : zrun zpZ zpRS zpP12 zpMT [zpC1235, zpC1237, zpC1238, zpC1299, zpC1300, zpC1309, zpC1310, zpC1311] (zpC1312.2.2.1.2.1.length, zpC1312.2.2.2.1, zpC1312.2.2.2.2, zpC1312.2.1, 1) (zpMT zpC1312.1).2.1 zpA1312 [] none 3000 0 zpC1312.2.2.1.2 = true := by decide +kernel
theorem zpT1312h0 : zhead zpZ zpRS zpMT [zpC1235, zpC1237, zpC1238, zpC1299, zpC1300, zpC1309, zpC1310, zpC1311] zpC1312 zpP12 1 zpA1312 [] 3000 zpA1312h0 = true := by decide +kernel
theorem zpT1312 : zcheck zpZ zpRS zpMT [zpC1235, zpC1237, zpC1238, zpC1299, zpC1300, zpC1309, zpC1310, zpC1311] zpC1312 zpP12 1 zpA1312 [] 3000 = true := zcheck_of zpT1312e (zall_cons zpT1312h0 (zall_nil)) (by decide +kernel)
theorem zpT1313 : zcheck zpZ zpRS zpMT [zpC1237, zpC1312] zpC1313 zpP12 1 zpA1313 [] 3000 = true := by decide +kernel
theorem zpT1314 : zcheck zpZ zpRS zpMT [zpC1237, zpC1313] zpC1314 zpP12 1 zpA1314 [] 3000 = true := by decide +kernel
theorem zpT1315 : zcheck zpZ zpRS zpMT [zpC1237, zpC1314] zpC1315 zpP12 1 zpA1315 [] 3000 = true := by decide +kernel
theorem zpT1316 : zcheck zpZ zpRS zpMT [zpC1304, zpC1305, zpC1315] zpC1316 zpP12 1 zpA1316 [] 3000 = true := by decide +kernel
theorem zpT1317 : zcheck zpZ zpRS zpMT [zpC1307, zpC1308, zpC1316] zpC1317 zpP12 1 zpA1317 [] 3000 = true := by decide +kernel
theorem zpT1318e : zrun zpZ zpRS zpP12 zpMT [zpC1235, zpC1237, zpC1238, zpC1299, zpC1310, zpC1311, zpC1312, zpC1317] (zpC1318.2.2.1.2.1.length, zpC1318.2.2.2.1, zpC1318.2.2.2.2, zpC1318.2.1, 1) (zpMT zpC1318.1).2.1 zpA1318 [] none 3000 0 zpC1318.2.2.1.2 = true := by decide +kernel
theorem zpT1318h0 : zhead zpZ zpRS zpMT [zpC1235, zpC1237, zpC1238, zpC1299, zpC1310, zpC1311, zpC1312, zpC1317] zpC1318 zpP12 1 zpA1318 [] 3000 zpA1318h0 = true := by decide +kernel
theorem zpT1318 : zcheck zpZ zpRS zpMT [zpC1235, zpC1237, zpC1238, zpC1299, zpC1310, zpC1311, zpC1312, zpC1317] zpC1318 zpP12 1 zpA1318 [] 3000 = true := zcheck_of zpT1318e (zall_cons zpT1318h0 (zall_nil)) (by decide +kernel)
theorem zpT1319 : zcheck zpZ zpRS zpMT [zpC1237, zpC1318] zpC1319 zpP12 1 zpA1319 [] 3000 = true := by decide +kernel
theorem zpT1320 : zcheck zpZ zpRS zpMT [zpC1237, zpC1319] zpC1320 zpP12 1 zpA1320 [] 3000 = true := by decide +kernel
theorem zpT1321 : zcheck zpZ zpRS zpMT [zpC1237, zpC1320] zpC1321 zpP12 1 zpA1321 [] 3000 = true := by decide +kernel
theorem zpT1322 : zcheck zpZ zpRS zpMT [zpC1304, zpC1305, zpC1321] zpC1322 zpP12 1 zpA1322 [] 3000 = true := by decide +kernel
theorem zpT1323 : zcheck zpZ zpRS zpMT [zpC1307, zpC1308, zpC1322] zpC1323 zpP12 1 zpA1323 [] 3000 = true := by decide +kernel
theorem zpT1324e : zrun zpZ zpRS zpP12 zpMT [zpC1235, zpC1237, zpC1238, zpC1299, zpC1310, zpC1311, zpC1318, zpC1323] (zpC1324.2.2.1.2.1.length, zpC1324.2.2.2.1, zpC1324.2.2.2.2, zpC1324.2.1, 1) (zpMT zpC1324.1).2.1 zpA1324 [] none 3000 0 zpC1324.2.2.1.2 = true := by decide +kernel
theorem zpT1324h0 : zhead zpZ zpRS zpMT [zpC1235, zpC1237, zpC1238, zpC1299, zpC1310, zpC1311, zpC1318, zpC1323] zpC1324 zpP12 1 zpA1324 [] 3000 zpA1324h0 = true := by decide +kernel
theorem zpT1324 : zcheck zpZ zpRS zpMT [zpC1235, zpC1237, zpC1238, zpC1299, zpC1310, zpC1311, zpC1318, zpC1323] zpC1324 zpP12 1 zpA1324 [] 3000 = true := zcheck_of zpT1324e (zall_cons zpT1324h0 (zall_nil)) (by decide +kernel)
theorem zpT1325 : zcheck zpZ zpRS zpMT [zpC1237, zpC1324] zpC1325 zpP12 1 zpA1325 [] 3000 = true := by decide +kernel
