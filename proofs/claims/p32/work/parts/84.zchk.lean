theorem zpT1268h11 : zhead zpZ zpRS zpMT [zpC846, zpC1220, zpC1222, zpC1226, zpC1234, zpC1266, zpC1267] zpC1268 zpP12 1 zpA1268 [(74, 4, 0, 12)] 3000 zpA1268h11 = true := by decide +kernel
theorem zpT1268h12 : zhead zpZ zpRS zpMT [zpC846, zpC1220, zpC1222, zpC1226, zpC1234, zpC1266, zpC1267] zpC1268 zpP12 1 zpA1268 [(74, 4, 0, 12)] 3000 zpA1268h12 = true := by decide +kernel
theorem zpT1268h13 : zhead zpZ zpRS zpMT [zpC846, zpC1220, zpC1222, zpC1226, zpC1234, zpC1266, zpC1267] zpC1268 zpP12 1 zpA1268 [(74, 4, 0, 12)] 3000 zpA1268h13 = true := by decide +kernel
theorem zpT1268h14 : zhead zpZ zpRS zpMT [zpC846, zpC1220, zpC1222, zpC1226, zpC1234, zpC1266, zpC1267] zpC1268 zpP12 1 zpA1268 [(74, 4, 0, 12)] 3000 zpA1268h14 = true := by decide +kernel
theorem zpT1268h15 : zhead zpZ zpRS zpMT [zpC846, zpC1220, zpC1222, zpC1226, zpC1234, zpC1266, zpC1267] zpC1268 zpP12 1 zpA1268 [(74, 4, 0, 12)] 3000 zpA1268h15 = true := by decide +kernel
theorem zpT1268h16 : zhead zpZ zpRS zpMT [zpC846, zpC1220, zpC1222, zpC1226, zpC1234, zpC1266, zpC1267] zpC1268 zpP12 1 zpA1268 [(74, 4, 0, 12)] 3000 zpA1268h16 = true := by decide +kernel
theorem zpT1268h17 : zhead zpZ zpRS zpMT [zpC846, zpC1220, zpC1222, zpC1226, zpC1234, zpC1266, zpC1267] zpC1268 zpP12 1 zpA1268 [(74, 4, 0, 12)] 3000 zpA1268h17 = true := by decide +kernel
theorem zpT1268h18 : zhead zpZ zpRS zpMT [zpC846, zpC1220, zpC1222, zpC1226, zpC1234, zpC1266, zpC1267] zpC1268 zpP12 1 zpA1268 [(74, 4, 0, 12)] 3000 zpA1268h18 = true := by decide +kernel
theorem zpT1268h19 : zhead zpZ zpRS zpMT [zpC846, zpC1220, zpC1222, zpC1226, zpC1234, zpC1266, zpC1267] zpC1268 zpP12 1 zpA1268 [(74, 4, 0, 12)] 3000 zpA1268h19 = true := by decide +kernel
theorem zpT1268h20 : zhead zpZ zpRS zpMT [zpC846, zpC1220, zpC1222, zpC1226, zpC1234, zpC1266, zpC1267] zpC1268 zpP12 1 zpA1268 [(74, 4, 0, 12)] 3000 zpA1268h20 = true := by decide +kernel
theorem zpT1268h21 : zhead zpZ zpRS zpMT [zpC846, zpC1220, zpC1222, zpC1226, zpC1234, zpC1266, zpC1267] zpC1268 zpP12 1 zpA1268 [(74, 4, 0, 12)] 3000 zpA1268h21 = true := by decide +kernel
theorem zpT1268h22 : zhead zpZ zpRS zpMT [zpC846, zpC1220, zpC1222, zpC1226, zpC1234, zpC1266, zpC1267] zpC1268 zpP12 1 zpA1268 [(74, 4, 0, 12)] 3000 zpA1268h22 = true := by decide +kernel
theorem zpT1268h23 : zhead zpZ zpRS zpMT [zpC846, zpC1220, zpC1222, zpC1226, zpC1234, zpC1266, zpC1267] zpC1268 zpP12 1 zpA1268 [(74, 4, 0, 12)] 3000 zpA1268h23 = true := by decide +kernel
theorem zpT1268h24 : zhead zpZ zpRS zpMT [zpC846, zpC1220, zpC1222, zpC1226, zpC1234, zpC1266, zpC1267] zpC1268 zpP12 1 zpA1268 [(74, 4, 0, 12)] 3000 zpA1268h24 = true := by decide +kernel
theorem zpT1268h25 : zhead zpZ zpRS zpMT [zpC846, zpC1220, zpC1222, zpC1226, zpC1234, zpC1266, zpC1267] zpC1268 zpP12 1 zpA1268 [(74, 4, 0, 12)] 3000 zpA1268h25 = true := by decide +kernel
theorem zpT1268h26 : zhead zpZ zpRS zpMT [zpC846, zpC1220, zpC1222, zpC1226, zpC1234, zpC1266, zpC1267] zpC1268 zpP12 1 zpA1268 [(74, 4, 0, 12)] 3000 zpA1268h26 = true := by decide +kernel
theorem zpT1268h27 : zhead zpZ zpRS zpMT [zpC846, zpC1220, zpC1222, zpC1226, zpC1234, zpC1266, zpC1267] zpC1268 zpP12 1 zpA1268 [(74, 4, 0, 12)] 3000 zpA1268h27 = true := by decide +kernel
theorem zpT1268h28 : zhead zpZ zpRS zpMT [zpC846, zpC1220, zpC1222, zpC1226, zpC1234, zpC1266, zpC1267] zpC1268 zpP12 1 zpA1268 [(74, 4, 0, 12)] 3000 zpA1268h28 = true := by decide +kernel
theorem zpT1268h29 : zhead zpZ zpRS zpMT [zpC846, zpC1220, zpC1222, zpC1226, zpC1234, zpC1266, zpC1267] zpC1268 zpP12 1 zpA1268 [(74, 4, 0, 12)] 3000 zpA1268h29 = true := by decide +kernel
theorem zpT1268h30 : zhead zpZ zpRS zpMT [zpC846, zpC1220, zpC1222, zpC1226, zpC1234, zpC1266, zpC1267] zpC1268 zpP12 1 zpA1268 [(74, 4, 0, 12)] 3000 zpA1268h30 = true := by decide +kernel
theorem zpT1268h31 : zhead zpZ zpRS zpMT [zpC846, zpC1220, zpC1222, zpC1226, zpC1234, zpC1266, zpC1267] zpC1268 zpP12 1 zpA1268 [(74, 4, 0, 12)] 3000 zpA1268h31 = true := by decide +kernel
theorem zpT1268h32 : zhead zpZ zpRS zpMT [zpC846, zpC1220, zpC1222, zpC1226, zpC1234, zpC1266, zpC1267] zpC1268 zpP12 1 zpA1268 [(74, 4, 0, 12)] 3000 zpA1268h32 = true := by decide +kernel
theorem zpT1268h33 : zhead zpZ zpRS zpMT [zpC846, zpC1220, zpC1222, zpC1226, zpC1234, zpC1266, zpC1267] zpC1268 zpP12 1 zpA1268 [(74, 4, 0, 12)] 3000 zpA1268h33 = true := by decide +kernel
theorem zpT1268h34 : zhead zpZ zpRS zpMT [zpC846, zpC1220, zpC1222, zpC1226, zpC1234, zpC1266, zpC1267] zpC1268 zpP12 1 zpA1268 [(74, 4, 0, 12)] 3000 zpA1268h34 = true := by decide +kernel
theorem zpT1268h35 : zhead zpZ zpRS zpMT [zpC846, zpC1220, zpC1222, zpC1226, zpC1234, zpC1266, zpC1267] zpC1268 zpP12 1 zpA1268 [(74, 4, 0, 12)] 3000 zpA1268h35 = true := by decide +kernel
theorem zpT1268h36 : zhead zpZ zpRS zpMT [zpC846, zpC1220, zpC1222, zpC1226, zpC1234, zpC1266, zpC1267] zpC1268 zpP12 1 zpA1268 [(74, 4, 0, 12)] 3000 zpA1268h36 = true := by decide +kernel
theorem zpT1268h37 : zhead zpZ zpRS zpMT [zpC846, zpC1220, zpC1222, zpC1226, zpC1234, zpC1266, zpC1267] zpC1268 zpP12 1 zpA1268 [(74, 4, 0, 12)] 3000 zpA1268h37 = true := by decide +kernel
theorem zpT1268h38 : zhead zpZ zpRS zpMT [zpC846, zpC1220, zpC1222, zpC1226, zpC1234, zpC1266, zpC1267] zpC1268 zpP12 1 zpA1268 [(74, 4, 0, 12)] 3000 zpA1268h38 = true := by decide +kernel
theorem zpT1268h39 : zhead zpZ zpRS zpMT [zpC846, zpC1220, zpC1222, zpC1226, zpC1234, zpC1266, zpC1267] zpC1268 zpP12 1 zpA1268 [(74, 4, 0, 12)] 3000 zpA1268h39 = true := by decide +kernel
theorem zpT1268h40 : zhead zpZ zpRS zpMT [zpC846, zpC1220, zpC1222, zpC1226, zpC1234, zpC1266, zpC1267] zpC1268 zpP12 1 zpA1268 [(74, 4, 0, 12)] 3000 zpA1268h40 = true := by decide +kernel
theorem zpT1268h41 : zhead zpZ zpRS zpMT [zpC846, zpC1220, zpC1222, zpC1226, zpC1234, zpC1266, zpC1267] zpC1268 zpP12 1 zpA1268 [(74, 4, 0, 12)] 3000 zpA1268h41 = true := by decide +kernel
theorem zpT1268h42 : zhead zpZ zpRS zpMT [zpC846, zpC1220, zpC1222, zpC1226, zpC1234, zpC1266, zpC1267] zpC1268 zpP12 1 zpA1268 [(74, 4, 0, 12)] 3000 zpA1268h42 = true := by decide +kernel
theorem zpT1268h43 : zhead zpZ zpRS zpMT [zpC846, zpC1220, zpC1222, zpC1226, zpC1234, zpC1266, zpC1267] zpC1268 zpP12 1 zpA1268 [(74, 4, 0, 12)] 3000 zpA1268h43 = true := by decide +kernel
theorem zpT1268h44 : zhead zpZ zpRS zpMT [zpC846, zpC1220, zpC1222, zpC1226, zpC1234, zpC1266, zpC1267] zpC1268 zpP12 1 zpA1268 [(74, 4, 0, 12)] 3000 zpA1268h44 = true := by decide +kernel
theorem zpT1268h45 : zhead zpZ zpRS zpMT [zpC846, zpC1220, zpC1222, zpC1226, zpC1234, zpC1266, zpC1267] zpC1268 zpP12 1 zpA1268 [(74, 4, 0, 12)] 3000 zpA1268h45 = true := by decide +kernel
theorem zpT1268h46 : zhead zpZ zpRS zpMT [zpC846, zpC1220, zpC1222, zpC1226, zpC1234, zpC1266, zpC1267] zpC1268 zpP12 1 zpA1268 [(74, 4, 0, 12)] 3000 zpA1268h46 = true := by decide +kernel
theorem zpT1268h47 : zhead zpZ zpRS zpMT [zpC846, zpC1220, zpC1222, zpC1226, zpC1234, zpC1266, zpC1267] zpC1268 zpP12 1 zpA1268 [(74, 4, 0, 12)] 3000 zpA1268h47 = true := by decide +kernel
theorem zpT1268h48 : zhead zpZ zpRS zpMT [zpC846, zpC1220, zpC1222, zpC1226, zpC1234, zpC1266, zpC1267] zpC1268 zpP12 1 zpA1268 [(74, 4, 0, 12)] 3000 zpA1268h48 = true := by decide +kernel
theorem zpT1268 : zcheck zpZ zpRS zpMT [zpC846, zpC1220, zpC1222, zpC1226, zpC1234, zpC1266, zpC1267] zpC1268 zpP12 1 zpA1268 [(74, 4, 0, 12)] 3000 = true := zcheck_of zpT1268e (zall_cons zpT1268h0 (zall_cons zpT1268h1 (zall_cons zpT1268h2 (zall_cons zpT1268h3 (zall_cons zpT1268h4 (zall_cons zpT1268h5 (zall_cons zpT1268h6 (zall_cons zpT1268h7 (zall_cons zpT1268h8 (zall_cons zpT1268h9 (zall_cons zpT1268h10 (zall_cons zpT1268h11 (zall_cons zpT1268h12 (zall_cons zpT1268h13 (zall_cons zpT1268h14 (zall_cons zpT1268h15 (zall_cons zpT1268h16 (zall_cons zpT1268h17 (zall_cons zpT1268h18 (zall_cons zpT1268h19 (zall_cons zpT1268h20 (zall_cons zpT1268h21 (zall_cons zpT1268h22 (zall_cons zpT1268h23 (zall_cons zpT1268h24 (zall_cons zpT1268h25 (zall_cons zpT1268h26 (zall_cons zpT1268h27 (zall_cons zpT1268h28 (zall_cons zpT1268h29 (zall_cons zpT1268h30 (zall_cons zpT1268h31 (zall_cons zpT1268h32 (zall_cons zpT1268h33 (zall_cons zpT1268h34 (zall_cons zpT1268h35 (zall_cons zpT1268h36 (zall_cons zpT1268h37 (zall_cons zpT1268h38 (zall_cons zpT1268h39 (zall_cons zpT1268h40 (zall_cons zpT1268h41 (zall_cons zpT1268h42 (zall_cons zpT1268h43 (zall_cons zpT1268h44 (zall_cons zpT1268h45 (zall_cons zpT1268h46 (zall_cons zpT1268h47 (zall_cons zpT1268h48 (zall_nil)))))))))))))))))))))))))))))))))))))))))))))))))) (by decide +kernel)
theorem zpT1269 : zcheck zpZ zpRS zpMT [] zpC1269 zpP12 2 zpA1269 [] 3000 = true := by decide +kernel
theorem zpT1270 : zcheck zpZ zpRS zpMT [zpC1269] zpC1270 zpP12 1 zpA1270 [] 3000 = true := by decide +kernel
theorem zpT1271 : zcheck zpZ zpRS zpMT [] zpC1271 zpP12 2 zpA1271 [] 3000 = true := by decide +kernel
theorem zpT1272 : zcheck zpZ zpRS zpMT [zpC1271] zpC1272 zpP12 2 zpA1272 [] 3000 = true := by decide +kernel
theorem zpT1273 : zcheck zpZ zpRS zpMT [] zpC1273 zpP12 1 zpA1273 [] 3000 = true := by decide +kernel
theorem zpT1274 : zcheck zpZ zpRS zpMT [zpC1270, zpC1272, zpC1273] zpC1274 zpP12 1 zpA1274 [] 3000 = true := by decide +kernel
theorem zpT1275 : zcheck zpZ zpRS zpMT [zpC896] zpC1275 zpP12 2 zpA1275 [] 3000 = true := by decide +kernel
theorem zpT1276 : zcheck zpZ zpRS zpMT [zpC1270, zpC1273, zpC1274, zpC1275] zpC1276 zpP12 1 zpA1276 [] 3000 = true := by decide +kernel
theorem zpT1277 : zcheck zpZ zpRS zpMT [zpC1224, zpC1275] zpC1277 zpP12 1 zpA1277 [] 3000 = true := by decide +kernel
theorem zpT1278 : zcheck zpZ zpRS zpMT [zpC1219] zpC1278 zpP12 2 zpA1278 [] 3000 = true := by decide +kernel
theorem zpT1279 : zcheck zpZ zpRS zpMT [zpC1274, zpC1278] zpC1279 zpP12 1 zpA1279 [] 3000 = true := by decide +kernel
theorem zpT1280 : zcheck zpZ zpRS zpMT [zpC1274] zpC1280 zpP12 0 zpA1280 [] 3000 = true := by decide +kernel
theorem zpT1281 : zcheck zpZ zpRS zpMT [] zpC1281 zpP12 2 zpA1281 [] 3000 = true := by decide +kernel
theorem zpT1282 : zcheck zpZ zpRS zpMT [zpC1273, zpC1281] zpC1282 zpP12 2 zpA1282 [] 3000 = true := by decide +kernel
theorem zpT1283 : zcheck zpZ zpRS zpMT [zpC1225, zpC1275, zpC1280, zpC1282] zpC1283 zpP12 1 zpA1283 [] 3000 = true := by decide +kernel
theorem zpT1284 : zcheck zpZ zpRS zpMT [zpC1225, zpC1278, zpC1280, zpC1282] zpC1284 zpP12 1 zpA1284 [] 3000 = true := by decide +kernel
theorem zpT1285 : zcheck zpZ zpRS zpMT [] zpC1285 zpP12 2 zpA1285 [] 3000 = true := by decide +kernel
theorem zpT1286 : zcheck zpZ zpRS zpMT [zpC1275, zpC1285] zpC1286 zpP12 1 zpA1286 [] 3000 = true := by decide +kernel
theorem zpT1287 : zcheck zpZ zpRS zpMT [zpC1281] zpC1287 zpP12 2 zpA1287 [] 3000 = true := by decide +kernel
theorem zpT1288 : zcheck zpZ zpRS zpMT [zpC1225, zpC1273, zpC1278, zpC1280, zpC1287] zpC1288 zpP12 1 zpA1288 [] 3000 = true := by decide +kernel
theorem zpT1289 : zcheck zpZ zpRS zpMT [zpC1275, zpC1280, zpC1287] zpC1289 zpP12 3 zpA1289 [] 3000 = true := by decide +kernel
theorem zpT1290 : zcheck zpZ zpRS zpMT [] zpC1290 zpP12 0 zpA1290 [] 3000 = true := by decide +kernel
theorem zpT1291 : zcheck zpZ zpRS zpMT [zpC1273, zpC1281, zpC1290] zpC1291 zpP12 0 zpA1291 [] 3000 = true := by decide +kernel
theorem zpT1292 : zcheck zpZ zpRS zpMT [zpC1273, zpC1281, zpC1291] zpC1292 zpP12 0 zpA1292 [] 3000 = true := by decide +kernel
theorem zpT1293 : zcheck zpZ zpRS zpMT [zpC1273, zpC1281, zpC1292] zpC1293 zpP12 0 zpA1293 [] 3000 = true := by decide +kernel
theorem zpT1294 : zcheck zpZ zpRS zpMT [zpC1273, zpC1281, zpC1293] zpC1294 zpP12 0 zpA1294 [] 3000 = true := by decide +kernel
theorem zpT1295 : zcheck zpZ zpRS zpMT [zpC1273, zpC1281, zpC1294] zpC1295 zpP12 0 zpA1295 [] 3000 = true := by decide +kernel
theorem zpT1296 : zcheck zpZ zpRS zpMT [zpC1273, zpC1295] zpC1296 zpP12 0 zpA1296 [] 3000 = true := by decide +kernel
theorem zpT1297 : zcheck zpZ zpRS zpMT [zpC1280, zpC1296] zpC1297 zpP12 1 zpA1297 [] 3000 = true := by decide +kernel
theorem zpT1298 : zcheck zpZ zpRS zpMT [zpC846, zpC847, zpC848] zpC1298 zpP12 1 zpA1298 [] 3000 = true := by decide +kernel
theorem zpT1299 : zcheck zpZ zpRS zpMT [] zpC1299 zpP12 1 zpA1299 [] 3000 = true := by decide +kernel
theorem zpT1300 : zcheck zpZ zpRS zpMT [zpC1237, zpC1238, zpC1299] zpC1300 zpP12 1 zpA1300 [] 3000 = true := by decide +kernel
