theorem zpT1345 : zcheck zpZ zpRS zpMT [zpC1237, zpC1344] zpC1345 zpP12 1 zpA1345 [] 3000 = true := by decide +kernel
theorem zpT1346 : zcheck zpZ zpRS zpMT [zpC1304, zpC1305, zpC1345] zpC1346 zpP12 1 zpA1346 [] 3000 = true := by decide +kernel
theorem zpT1347 : zcheck zpZ zpRS zpMT [zpC1307, zpC1308, zpC1346] zpC1347 zpP12 1 zpA1347 [] 3000 = true := by decide +kernel
theorem zpT1348 : zcheck zpZ zpRS zpMT [zpC1237] zpC1348 zpP12 2 zpA1348 [] 3000 = true := by decide +kernel
theorem zpT1349 : zcheck zpZ zpRS zpMT [] zpC1349 zpP12 2 zpA1349 [] 3000 = true := by decide +kernel
theorem zpT1350 : zcheck zpZ zpRS zpMT [zpC1237] zpC1350 zpP12 2 zpA1350 [] 3000 = true := by decide +kernel
theorem zpT1351 : zcheck zpZ zpRS zpMT [] zpC1351 zpP12 2 zpA1351 [] 3000 = true := by decide +kernel
theorem zpT1352 : zcheck zpZ zpRS zpMT [zpC1238, zpC1347, zpC1348, zpC1349, zpC1350, zpC1351] zpC1352 zpP12 1 zpA1352 [] 3000 = true := by decide +kernel
theorem zpT1353 : zcheck zpZ zpRS zpMT [zpC1352] zpC1353 zpP12 1 zpA1353 [] 3000 = true := by decide +kernel
theorem zpT1354 : zcheck zpZ zpRS zpMT [zpC1352] zpC1354 zpP12 1 zpA1354 [] 3000 = true := by decide +kernel
theorem zpT1355 : zcheck zpZ zpRS zpMT [zpC1354] zpC1355 zpP12 1 zpA1355 [] 3000 = true := by decide +kernel
theorem zpT1356e : zrun zpZ zpRS zpP12 zpMT [zpC1355] (zpC1356.2.2.1.2.1.length, zpC1356.2.2.2.1, zpC1356.2.2.2.2, zpC1356.2.1, 1) (zpMT zpC1356.1).2.1 zpA1356 [] none 3000 0 zpC1356.2.2.1.2 = true := by decide +kernel
theorem zpT1356h0 : zhead zpZ zpRS zpMT [zpC1355] zpC1356 zpP12 1 zpA1356 [] 3000 zpA1356h0 = true := by decide +kernel
theorem zpT1356 : zcheck zpZ zpRS zpMT [zpC1355] zpC1356 zpP12 1 zpA1356 [] 3000 = true := zcheck_of zpT1356e (zall_cons zpT1356h0 (zall_nil)) (by decide +kernel)
theorem zpT1357 : zcheck zpZ zpRS zpMT [zpC897, zpC1220, zpC1222, zpC1278, zpC1280, zpC1356] zpC1357 zpP12 1 zpA1357 [] 3000 = true := by decide +kernel
theorem zpT1358 : zcheck zpZ zpRS zpMT [zpC1356] zpC1358 zpP12 2 zpA1358 [] 3000 = true := by decide +kernel
theorem zpT1359 : zcheck zpZ zpRS zpMT [zpC897, zpC1278, zpC1280, zpC1358] zpC1359 zpP12 1 zpA1359 [] 3000 = true := by decide +kernel
theorem zpT1360 : zcheck zpZ zpRS zpMT [zpC897, zpC1280, zpC1358] zpC1360 zpP12 1 zpA1360 [] 3000 = true := by decide +kernel
theorem zpT1361 : zcheck zpZ zpRS zpMT [zpC1225, zpC1280, zpC1358] zpC1361 zpP12 1 zpA1361 [] 3000 = true := by decide +kernel
theorem zpT1362 : zcheck zpZ zpRS zpMT [zpC1275, zpC1280, zpC1358] zpC1362 zpP12 1 zpA1362 [] 3000 = true := by decide +kernel
theorem zpT1363 : zcheck zpZ zpRS zpMT [zpC1278] zpC1363 zpP12 1 zpA1363 [] 3000 = true := by decide +kernel
theorem zpT1364 : zcheck zpZ zpRS zpMT [] zpC1364 zpP12 2 zpA1364 [] 3000 = true := by decide +kernel
theorem zpT1365 : zcheck zpZ zpRS zpMT [zpC1220, zpC1225, zpC1270, zpC1272, zpC1273, zpC1278, zpC1280, zpC1364] zpC1365 zpP12 1 zpA1365 [] 3000 = true := by decide +kernel
theorem zpT1366 : zcheck zpZ zpRS zpMT [] zpC1366 zpP12 1 zpA1366 [] 3000 = true := by decide +kernel
theorem zpT1367 : zcheck zpZ zpRS zpMT [] zpC1367 zpP12 2 zpA1367 [] 3000 = true := by decide +kernel
theorem zpT1368 : zcheck zpZ zpRS zpMT [zpC1278, zpC1280, zpC1366, zpC1367] zpC1368 zpP12 1 zpA1368 [] 3000 = true := by decide +kernel
theorem zpT1369e : zrun zpZ zpRS zpP12 zpMT [zpC847, zpC1271, zpC1278] (zpC1369.2.2.1.2.1.length, zpC1369.2.2.2.1, zpC1369.2.2.2.2, zpC1369.2.1, 1) (zpMT zpC1369.1).2.1 zpA1369 [] none 3000 0 zpC1369.2.2.1.2 = true := by decide +kernel
theorem zpT1369h0 : zhead zpZ zpRS zpMT [zpC847, zpC1271, zpC1278] zpC1369 zpP12 1 zpA1369 [] 3000 zpA1369h0 = true := by decide +kernel
theorem zpT1369h1 : zhead zpZ zpRS zpMT [zpC847, zpC1271, zpC1278] zpC1369 zpP12 1 zpA1369 [] 3000 zpA1369h1 = true := by decide +kernel
theorem zpT1369 : zcheck zpZ zpRS zpMT [zpC847, zpC1271, zpC1278] zpC1369 zpP12 1 zpA1369 [] 3000 = true := zcheck_of zpT1369e (zall_cons zpT1369h0 (zall_cons zpT1369h1 (zall_nil))) (by decide +kernel)
theorem zpT1370 : zcheck zpZ zpRS zpMT [zpC1225, zpC1273, zpC1274, zpC1278] zpC1370 zpP12 1 zpA1370 [] 3000 = true := by decide +kernel
theorem zpT1371 : zcheck zpZ zpRS zpMT [] zpC1371 zpP12 1 zpA1371 [] 3000 = true := by decide +kernel
theorem zpT1372 : zcheck zpZ zpRS zpMT [] zpC1372 zpP12 1 zpA1372 [] 3000 = true := by decide +kernel
theorem zpT1373 : zcheck zpZ zpRS zpMT [] zpC1373 zpP12 0 zpA1373 [] 3000 = true := by decide +kernel
theorem zpT1374 : zcheck zpZ zpRS zpMT [] zpC1374 zpP12 0 zpA1374 [] 3000 = true := by decide +kernel
theorem zpT1375 : zcheck zpZ zpRS zpMT [] zpC1375 zpP12 0 zpA1375 [] 3000 = true := by decide +kernel
theorem zpT1376 : zcheck zpZ zpRS zpMT [zpC1373] zpC1376 zpP12 1 zpA1376 [] 3000 = true := by decide +kernel
theorem zpT1377 : zcheck zpZ zpRS zpMT [] zpC1377 zpP12 0 zpA1377 [] 3000 = true := by decide +kernel
theorem zpT1378 : zcheck zpZ zpRS zpMT [] zpC1378 zpP12 0 zpA1378 [] 3000 = true := by decide +kernel
theorem zpT1379 : zcheck zpZ zpRS zpMT [] zpC1379 zpP12 0 zpA1379 [] 3000 = true := by decide +kernel
theorem zpT1380 : zcheck zpZ zpRS zpMT [] zpC1380 zpP12 0 zpA1380 [] 3000 = true := by decide +kernel
theorem zpT1381 : zcheck zpZ zpRS zpMT [zpC1377] zpC1381 zpP12 1 zpA1381 [] 3000 = true := by decide +kernel
theorem zpT1382 : zcheck zpZ zpRS zpMT [zpC1378, zpC1381] zpC1382 zpP12 1 zpA1382 [] 3000 = true := by decide +kernel
theorem zpT1383 : zcheck zpZ zpRS zpMT [zpC1378, zpC1381] zpC1383 zpP12 1 zpA1383 [] 3000 = true := by decide +kernel
theorem zpT1384 : zcheck zpZ zpRS zpMT [zpC1377, zpC1378, zpC1379, zpC1380, zpC1381, zpC1382, zpC1383] zpC1384 zpP12 1 zpA1384 [] 3000 = true := by decide +kernel
theorem zpT1385 : zcheck zpZ zpRS zpMT [zpC1373, zpC1374, zpC1375, zpC1376, zpC1384] zpC1385 zpP12 1 zpA1385 [] 3000 = true := by decide +kernel
theorem zpT1386 : zcheck zpZ zpRS zpMT [] zpC1386 zpP12 0 zpA1386 [] 3000 = true := by decide +kernel
theorem zpT1387 : zcheck zpZ zpRS zpMT [] zpC1387 zpP12 0 zpA1387 [] 3000 = true := by decide +kernel
theorem zpT1388 : zcheck zpZ zpRS zpMT [] zpC1388 zpP12 0 zpA1388 [] 3000 = true := by decide +kernel
theorem zpT1389 : zcheck zpZ zpRS zpMT [zpC1384, zpC1386] zpC1389 zpP12 1 zpA1389 [] 3000 = true := by decide +kernel
theorem zpT1390 : zcheck zpZ zpRS zpMT [zpC1387, zpC1389] zpC1390 zpP12 1 zpA1390 [] 3000 = true := by decide +kernel
theorem zpT1391 : zcheck zpZ zpRS zpMT [zpC1384, zpC1385, zpC1386, zpC1387, zpC1388, zpC1389, zpC1390] zpC1391 zpP12 1 zpA1391 [] 3000 = true := by decide +kernel
theorem zpT1392 : zcheck zpZ zpRS zpMT [zpC992, zpC1385, zpC1391] zpC1392 zpP12 1 zpA1392 [] 3000 = true := by decide +kernel
theorem zpT1393 : zcheck zpZ zpRS zpMT [zpC909, zpC991, zpC1385, zpC1391, zpC1392] zpC1393 zpP12 1 zpA1393 [] 3000 = true := by decide +kernel
theorem zpT1394 : zcheck zpZ zpRS zpMT [zpC897, zpC1384, zpC1385, zpC1391, zpC1393] zpC1394 zpP12 1 zpA1394 [] 3000 = true := by decide +kernel
theorem zpT1395 : zcheck zpZ zpRS zpMT [] zpC1395 zpP12 1 zpA1395 [] 3000 = true := by decide +kernel
theorem zpT1396 : zcheck zpZ zpRS zpMT [zpC897, zpC1266] zpC1396 zpP12 1 zpA1396 [] 3000 = true := by decide +kernel
theorem zpT1397 : zcheck zpZ zpRS zpMT [] zpC1397 zpP12 2 zpA1397 [] 3000 = true := by decide +kernel
theorem zpT1398 : zcheck zpZ zpRS zpMT [zpC1266, zpC1397] zpC1398 zpP12 1 zpA1398 [] 3000 = true := by decide +kernel
theorem zpT1399 : zcheck zpZ zpRS zpMT [] zpC1399 zpP12 3 zpA1399 [] 3000 = true := by decide +kernel
theorem zpT1400 : zcheck zpZ zpRS zpMT [zpC1266] zpC1400 zpP12 1 zpA1400 [] 3000 = true := by decide +kernel
theorem zpT1401 : zcheck zpZ zpRS zpMT [zpC1399, zpC1400] zpC1401 zpP12 1 zpA1401 [] 3000 = true := by decide +kernel
theorem zpT1402 : zcheck zpZ zpRS zpMT [zpC1400] zpC1402 zpP12 3 zpA1402 [] 3000 = true := by decide +kernel
theorem zpT1403e : zrun zpZ zpRS zpP12 zpMT [zpC1266] (zpC1403.2.2.1.2.1.length, zpC1403.2.2.2.1, zpC1403.2.2.2.2, zpC1403.2.1, 1) (zpMT zpC1403.1).2.1 zpA1403 [(66, 5, 0, 60)] none 3000 0 zpC1403.2.2.1.2 = true := by decide +kernel
theorem zpT1403h0 : zhead zpZ zpRS zpMT [zpC1266] zpC1403 zpP12 1 zpA1403 [(66, 5, 0, 60)] 3000 zpA1403h0 = true := by decide +kernel
theorem zpT1403h1 : zhead zpZ zpRS zpMT [zpC1266] zpC1403 zpP12 1 zpA1403 [(66, 5, 0, 60)] 3000 zpA1403h1 = true := by decide +kernel
theorem zpT1403h2 : zhead zpZ zpRS zpMT [zpC1266] zpC1403 zpP12 1 zpA1403 [(66, 5, 0, 60)] 3000 zpA1403h2 = true := by decide +kernel
theorem zpT1403h3 : zhead zpZ zpRS zpMT [zpC1266] zpC1403 zpP12 1 zpA1403 [(66, 5, 0, 60)] 3000 zpA1403h3 = true := by decide +kernel
theorem zpT1403h4 : zhead zpZ zpRS zpMT [zpC1266] zpC1403 zpP12 1 zpA1403 [(66, 5, 0, 60)] 3000 zpA1403h4 = true := by decide +kernel
theorem zpT1403h5 : zhead zpZ zpRS zpMT [zpC1266] zpC1403 zpP12 1 zpA1403 [(66, 5, 0, 60)] 3000 zpA1403h5 = true := by decide +kernel
theorem zpT1403h6 : zhead zpZ zpRS zpMT [zpC1266] zpC1403 zpP12 1 zpA1403 [(66, 5, 0, 60)] 3000 zpA1403h6 = true := by decide +kernel
theorem zpT1403h7 : zhead zpZ zpRS zpMT [zpC1266] zpC1403 zpP12 1 zpA1403 [(66, 5, 0, 60)] 3000 zpA1403h7 = true := by decide +kernel
theorem zpT1403h8 : zhead zpZ zpRS zpMT [zpC1266] zpC1403 zpP12 1 zpA1403 [(66, 5, 0, 60)] 3000 zpA1403h8 = true := by decide +kernel
theorem zpT1403h9 : zhead zpZ zpRS zpMT [zpC1266] zpC1403 zpP12 1 zpA1403 [(66, 5, 0, 60)] 3000 zpA1403h9 = true := by decide +kernel
theorem zpT1403h10 : zhead zpZ zpRS zpMT [zpC1266] zpC1403 zpP12 1 zpA1403 [(66, 5, 0, 60)] 3000 zpA1403h10 = true := by decide +kernel
theorem zpT1403h11 : zhead zpZ zpRS zpMT [zpC1266] zpC1403 zpP12 1 zpA1403 [(66, 5, 0, 60)] 3000 zpA1403h11 = true := by decide +kernel
theorem zpT1403h12 : zhead zpZ zpRS zpMT [zpC1266] zpC1403 zpP12 1 zpA1403 [(66, 5, 0, 60)] 3000 zpA1403h12 = true := by decide +kernel
theorem zpT1403h13 : zhead zpZ zpRS zpMT [zpC1266] zpC1403 zpP12 1 zpA1403 [(66, 5, 0, 60)] 3000 zpA1403h13 = true := by decide +kernel
theorem zpT1403h14 : zhead zpZ zpRS zpMT [zpC1266] zpC1403 zpP12 1 zpA1403 [(66, 5, 0, 60)] 3000 zpA1403h14 = true := by decide +kernel
