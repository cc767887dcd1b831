theorem zpT1216 : zcheck zpZ zpRS zpMT [zpC897, zpC987, zpC989, zpC990, zpC997] zpC1216 zpP12 1 zpA1216 [] 3000 = true := by decide +kernel
theorem zpT1217 : zcheck zpZ zpRS zpMT [zpC897, zpC999, zpC1011, zpC1015, zpC1032] zpC1217 zpP12 1 zpA1217 [] 3000 = true := by decide +kernel
theorem zpT1218 : zcheck zpZ zpRS zpMT [zpC897, zpC1037, zpC1039, zpC1040, zpC1046] zpC1218 zpP12 1 zpA1218 [] 3000 = true := by decide +kernel
theorem zpT1219 : zcheck zpZ zpRS zpMT [] zpC1219 zpP12 2 zpA1219 [] 3000 = true := by decide +kernel
theorem zpT1220 : zcheck zpZ zpRS zpMT [zpC1219] zpC1220 zpP12 2 zpA1220 [] 3000 = true := by decide +kernel
theorem zpT1221 : zcheck zpZ zpRS zpMT [] zpC1221 zpP12 2 zpA1221 [] 3000 = true := by decide +kernel
theorem zpT1222 : zcheck zpZ zpRS zpMT [zpC1221] zpC1222 zpP12 2 zpA1222 [] 3000 = true := by decide +kernel
theorem zpT1223 : zcheck zpZ zpRS zpMT [zpC1220, zpC1222] zpC1223 zpP12 1 zpA1223 [] 3000 = true := by decide +kernel
theorem zpT1224 : zcheck zpZ zpRS zpMT [] zpC1224 zpP12 1 zpA1224 [] 3000 = true := by decide +kernel
theorem zpT1225 : zcheck zpZ zpRS zpMT [] zpC1225 zpP12 2 zpA1225 [] 3000 = true := by decide +kernel
theorem zpT1226 : zcheck zpZ zpRS zpMT [] zpC1226 zpP12 2 zpA1226 [] 3000 = true := by decide +kernel
theorem zpT1227 : zcheck zpZ zpRS zpMT [] zpC1227 zpP12 2 zpA1227 [] 3000 = true := by decide +kernel
theorem zpT1228 : zcheck zpZ zpRS zpMT [zpC1224, zpC1225, zpC1226, zpC1227] zpC1228 zpP12 1 zpA1228 [] 3000 = true := by decide +kernel
theorem zpT1229 : zcheck zpZ zpRS zpMT [] zpC1229 zpP12 2 zpA1229 [] 3000 = true := by decide +kernel
theorem zpT1230 : zcheck zpZ zpRS zpMT [] zpC1230 zpP12 2 zpA1230 [] 3000 = true := by decide +kernel
theorem zpT1231 : zcheck zpZ zpRS zpMT [zpC1219, zpC1224, zpC1225, zpC1229, zpC1230] zpC1231 zpP12 1 zpA1231 [] 3000 = true := by decide +kernel
theorem zpT1232 : zcheck zpZ zpRS zpMT [] zpC1232 zpP12 2 zpA1232 [] 3000 = true := by decide +kernel
theorem zpT1233 : zcheck zpZ zpRS zpMT [zpC1232] zpC1233 zpP12 1 zpA1233 [(14, 1, (-9), 99)] 3000 = true := by decide +kernel
theorem zpT1234 : zcheck zpZ zpRS zpMT [] zpC1234 zpP12 0 zpA1234 [] 3000 = true := by decide +kernel
theorem zpT1235 : zcheck zpZ zpRS zpMT [] zpC1235 zpP12 1 zpA1235 [] 3000 = true := by decide +kernel
theorem zpT1236 : zcheck zpZ zpRS zpMT [zpC1235] zpC1236 zpP12 1 zpA1236 [] 3000 = true := by decide +kernel
theorem zpT1237 : zcheck zpZ zpRS zpMT [] zpC1237 zpP12 1 zpA1237 [] 3000 = true := by decide +kernel
theorem zpT1238 : zcheck zpZ zpRS zpMT [] zpC1238 zpP12 1 zpA1238 [] 3000 = true := by decide +kernel
theorem zpT1239 : zcheck zpZ zpRS zpMT [zpC1219, zpC1237, zpC1238] zpC1239 zpP12 1 zpA1239 [] 3000 = true := by decide +kernel
theorem zpT1240 : zcheck zpZ zpRS zpMT [] zpC1240 zpP12 1 zpA1240 [] 3000 = true := by decide +kernel
theorem zpT1241 : zcheck zpZ zpRS zpMT [zpC1240] zpC1241 zpP12 1 zpA1241 [] 3000 = true := by decide +kernel
theorem zpT1242 : zcheck zpZ zpRS zpMT [zpC1235] zpC1242 zpP12 1 zpA1242 [] 3000 = true := by decide +kernel
theorem zpT1243 : zcheck zpZ zpRS zpMT [zpC1226, zpC1237, zpC1238] zpC1243 zpP12 1 zpA1243 [] 3000 = true := by decide +kernel
theorem zpT1244 : zcheck zpZ zpRS zpMT [zpC1240] zpC1244 zpP12 1 zpA1244 [] 3000 = true := by decide +kernel
theorem zpT1245 : zcheck zpZ zpRS zpMT [zpC1235] zpC1245 zpP12 1 zpA1245 [] 3000 = true := by decide +kernel
theorem zpT1246 : zcheck zpZ zpRS zpMT [zpC846, zpC1237, zpC1238] zpC1246 zpP12 1 zpA1246 [] 3000 = true := by decide +kernel
theorem zpT1247 : zcheck zpZ zpRS zpMT [zpC1240] zpC1247 zpP12 1 zpA1247 [] 3000 = true := by decide +kernel
theorem zpT1248 : zcheck zpZ zpRS zpMT [zpC847, zpC1237, zpC1238] zpC1248 zpP12 1 zpA1248 [] 3000 = true := by decide +kernel
theorem zpT1249 : zcheck zpZ zpRS zpMT [] zpC1249 zpP12 2 zpA1249 [] 3000 = true := by decide +kernel
theorem zpT1250 : zcheck zpZ zpRS zpMT [zpC1237, zpC1238, zpC1249] zpC1250 zpP12 1 zpA1250 [] 3000 = true := by decide +kernel
theorem zpT1251 : zcheck zpZ zpRS zpMT [zpC1240] zpC1251 zpP12 1 zpA1251 [] 3000 = true := by decide +kernel
theorem zpT1252 : zcheck zpZ zpRS zpMT [zpC1235] zpC1252 zpP12 1 zpA1252 [] 3000 = true := by decide +kernel
theorem zpT1253 : zcheck zpZ zpRS zpMT [] zpC1253 zpP12 2 zpA1253 [] 3000 = true := by decide +kernel
theorem zpT1254 : zcheck zpZ zpRS zpMT [zpC1237, zpC1238, zpC1253] zpC1254 zpP12 1 zpA1254 [] 3000 = true := by decide +kernel
theorem zpT1255 : zcheck zpZ zpRS zpMT [zpC1237] zpC1255 zpP12 2 zpA1255 [] 3000 = true := by decide +kernel
theorem zpT1256 : zcheck zpZ zpRS zpMT [] zpC1256 zpP12 2 zpA1256 [] 3000 = true := by decide +kernel
theorem zpT1257 : zcheck zpZ zpRS zpMT [] zpC1257 zpP12 2 zpA1257 [] 3000 = true := by decide +kernel
theorem zpT1258 : zcheck zpZ zpRS zpMT [zpC1237] zpC1258 zpP12 2 zpA1258 [] 3000 = true := by decide +kernel
theorem zpT1259 : zcheck zpZ zpRS zpMT [] zpC1259 zpP12 2 zpA1259 [] 3000 = true := by decide +kernel
theorem zpT1260 : zcheck zpZ zpRS zpMT [] zpC1260 zpP12 2 zpA1260 [] 3000 = true := by decide +kernel
theorem zpT1261 : zcheck zpZ zpRS zpMT [zpC1237] zpC1261 zpP12 2 zpA1261 [] 3000 = true := by decide +kernel
theorem zpT1262 : zcheck zpZ zpRS zpMT [zpC1238, zpC1261] zpC1262 zpP12 0 zpA1262 [] 3000 = true := by decide +kernel
theorem zpT1263 : zcheck zpZ zpRS zpMT [] zpC1263 zpP12 0 zpA1263 [] 3000 = true := by decide +kernel
theorem zpT1264 : zcheck zpZ zpRS zpMT [] zpC1264 zpP12 0 zpA1264 [] 3000 = true := by decide +kernel
theorem zpT1265e : zrun zpZ zpRS zpP12 zpMT [zpC1234, zpC1236, zpC1238, zpC1239, zpC1241, zpC1242, zpC1243, zpC1244, zpC1245, zpC1246, zpC1247, zpC1248, zpC1250, zpC1251, zpC1252, zpC1254, zpC1255, zpC1256, zpC1257, zpC1258, zpC1259, zpC1260, zpC1262, zpC1263, zpC1264] (zpC1265.2.2.1.2.1.length, zpC1265.2.2.2.1, zpC1265.2.2.2.2, zpC1265.2.1, 1) (zpMT zpC1265.1).2.1 zpA1265 [] none 3000 0 zpC1265.2.2.1.2 = true := by decide +kernel
theorem zpT1265h0 : zhead zpZ zpRS zpMT [zpC1234, zpC1236, zpC1238, zpC1239, zpC1241, zpC1242, zpC1243, zpC1244, zpC1245, zpC1246, zpC1247, zpC1248, zpC1250, zpC1251, zpC1252, zpC1254, zpC1255, zpC1256, zpC1257, zpC1258, zpC1259, zpC1260, zpC1262, zpC1263, zpC1264] zpC1265 zpP12 1 zpA1265 [] 3000 zpA1265h0 = true := by decide +kernel
theorem zpT1265h1 : zhead zpZ zpRS zpMT [zpC1234, zpC1236, zpC1238, zpC1239, zpC1241, zpC1242, zpC1243, zpC1244, zpC1245, zpC1246, zpC1247, zpC1248, zpC1250, zpC1251, zpC1252, zpC1254, zpC1255, zpC1256, zpC1257, zpC1258, zpC1259, zpC1260, zpC1262, zpC1263, zpC1264] zpC1265 zpP12 1 zpA1265 [] 3000 zpA1265h1 = true := by decide +kernel
theorem zpT1265h2 : zhead zpZ zpRS zpMT [zpC1234, zpC1236, zpC1238, zpC1239, zpC1241, zpC1242, zpC1243, zpC1244, zpC1245, zpC1246, zpC1247, zpC1248, zpC1250, zpC1251, zpC1252, zpC1254, zpC1255, zpC1256, zpC1257, zpC1258, zpC1259, zpC1260, zpC1262, zpC1263, zpC1264] zpC1265 zpP12 1 zpA1265 [] 3000 zpA1265h2 = true := by decide +kernel
theorem zpT1265 : zcheck zpZ zpRS zpMT [zpC1234, zpC1236, zpC1238, zpC1239, zpC1241, zpC1242, zpC1243, zpC1244, zpC1245, zpC1246, zpC1247, zpC1248, zpC1250, zpC1251, zpC1252, zpC1254, zpC1255, zpC1256, zpC1257, zpC1258, zpC1259, zpC1260, zpC1262, zpC1263, zpC1264] zpC1265 zpP12 1 zpA1265 [] 3000 = true := zcheck_of zpT1265e (zall_cons zpT1265h0 (zall_cons zpT1265h1 (zall_cons zpT1265h2 (zall_nil)))) (by decide +kernel)
theorem zpT1266 : zcheck zpZ zpRS zpMT [zpC1226] zpC1266 zpP12 2 zpA1266 [] 3000 = true := by decide +kernel
theorem zpT1267 : zcheck zpZ zpRS zpMT [] zpC1267 zpP12 2 zpA1267 [] 3000 = true := by decide +kernel
theorem zpT1268e : zrun zpZ zpRS zpP12 zpMT [zpC846, zpC1220, zpC1222, zpC1226, zpC1234, zpC1266, zpC1267] (zpC1268.2.2.1.2.1.length, zpC1268.2.2.2.1, zpC1268.2.2.2.2, zpC1268.2.1, 1) (zpMT zpC1268.1).2.1 zpA1268 [(74, 4, 0, 12)] none 3000 0 zpC1268.2.2.1.2 = true := by decide +kernel
theorem zpT1268h0 : zhead zpZ zpRS zpMT [zpC846, zpC1220, zpC1222, zpC1226, zpC1234, zpC1266, zpC1267] zpC1268 zpP12 1 zpA1268 [(74, 4, 0, 12)] 3000 zpA1268h0 = true := by decide +kernel
theorem zpT1268h1 : zhead zpZ zpRS zpMT [zpC846, zpC1220, zpC1222, zpC1226, zpC1234, zpC1266, zpC1267] zpC1268 zpP12 1 zpA1268 [(74, 4, 0, 12)] 3000 zpA1268h1 = true := by decide +kernel
theorem zpT1268h2 : zhead zpZ zpRS zpMT [zpC846, zpC1220, zpC1222, zpC1226, zpC1234, zpC1266, zpC1267] zpC1268 zpP12 1 zpA1268 [(74, 4, 0, 12)] 3000 zpA1268h2 = true := by decide +kernel
theorem zpT1268h3 : zhead zpZ zpRS zpMT [zpC846, zpC1220, zpC1222, zpC1226, zpC1234, zpC1266, zpC1267] zpC1268 zpP12 1 zpA1268 [(74, 4, 0, 12)] 3000 zpA1268h3 = true := by decide +kernel
theorem zpT1268h4 : zhead zpZ zpRS zpMT [zpC846, zpC1220, zpC1222, zpC1226, zpC1234, zpC1266, zpC1267] zpC1268 zpP12 1 zpA1268 [(74, 4, 0, 12)] 3000 zpA1268h4 = true := by decide +kernel
theorem zpT1268h5 : zhead zpZ zpRS zpMT [zpC846, zpC1220, zpC1222, zpC1226, zpC1234, zpC1266, zpC1267] zpC1268 zpP12 1 zpA1268 [(74, 4, 0, 12)] 3000 zpA1268h5 = true := by decide +kernel
theorem zpT1268h6 : zhead zpZ zpRS zpMT [zpC846, zpC1220, zpC1222, zpC1226, zpC1234, zpC1266, zpC1267] zpC1268 zpP12 1 zpA1268 [(74, 4, 0, 12)] 3000 zpA1268h6 = true := by decide +kernel
theorem zpT1268h7 : zhead zpZ zpRS zpMT [zpC846, zpC1220, zpC1222, zpC1226, zpC1234, zpC1266, zpC1267] zpC1268 zpP12 1 zpA1268 [(74, 4, 0, 12)] 3000 zpA1268h7 = true := by decide +kernel
theorem zpT1268h8 : zhead zpZ zpRS zpMT [zpC846, zpC1220, zpC1222, zpC1226, zpC1234, zpC1266, zpC1267] zpC1268 zpP12 1 zpA1268 [(74, 4, 0, 12)] 3000 zpA1268h8 = true := by decide +kernel
theorem zpT1268h9 : zhead zpZ zpRS zpMT [zpC846, zpC1220, zpC1222, zpC1226, zpC1234, zpC1266, zpC1267] zpC1268 zpP12 1 zpA1268 [(74, 4, 0, 12)] 3000 zpA1268h9 = true := by decide +kernel
theorem zpT1268h10 : zhead zpZ zpRS zpMT [zpC846, zpC1220, zpC1222, zpC1226, zpC1234, zpC1266, zpC1267] zpC1268 zpP12 1 zpA1268 [(74, 4, 0, 12)] 3000 zpA1268h10 = true := by decide +kernel
