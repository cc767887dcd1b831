theorem zpT190 : zcheck zpZ zpRS zpMT [zpC89, zpC96, zpC97, zpC157, zpC158, zpC189] zpC190 zpP10 0 zpA190 [] 3000 = true := by decide +kernel
theorem zpT191 : zcheck zpZ zpRS zpMT [zpC97, zpC156, zpC190] zpC191 zpP10 0 zpA191 [] 3000 = true := by decide +kernel
theorem zpT192 : zcheck zpZ zpRS zpMT [zpC97, zpC155, zpC191] zpC192 zpP10 0 zpA192 [] 3000 = true := by decide +kernel
theorem zpT193 : zcheck zpZ zpRS zpMT [zpC89, zpC90, zpC96, zpC97, zpC98, zpC100, zpC157, zpC158, zpC159, zpC160, zpC161, zpC162, zpC187, zpC192] zpC193 zpP10 0 zpA193 [] 3000 = true := by decide +kernel
theorem zpT194 : zcheck zpZ zpRS zpMT [zpC89, zpC96, zpC97, zpC158, zpC193] zpC194 zpP10 0 zpA194 [] 3000 = true := by decide +kernel
theorem zpT195 : zcheck zpZ zpRS zpMT [zpC89, zpC96, zpC97, zpC158, zpC194] zpC195 zpP10 0 zpA195 [] 3000 = true := by decide +kernel
theorem zpT196 : zcheck zpZ zpRS zpMT [zpC89, zpC96, zpC97, zpC157, zpC158, zpC195] zpC196 zpP10 0 zpA196 [] 3000 = true := by decide +kernel
theorem zpT197 : zcheck zpZ zpRS zpMT [zpC97, zpC156, zpC196] zpC197 zpP10 0 zpA197 [] 3000 = true := by decide +kernel
theorem zpT198 : zcheck zpZ zpRS zpMT [zpC97, zpC155, zpC197] zpC198 zpP10 0 zpA198 [] 3000 = true := by decide +kernel
theorem zpT199 : zcheck zpZ zpRS zpMT [zpC89, zpC90, zpC96, zpC97, zpC98, zpC100, zpC157, zpC158, zpC159, zpC160, zpC161, zpC162, zpC193, zpC198] zpC199 zpP10 0 zpA199 [] 3000 = true := by decide +kernel
theorem zpT200 : zcheck zpZ zpRS zpMT [zpC89, zpC96, zpC97, zpC158, zpC199] zpC200 zpP10 0 zpA200 [] 3000 = true := by decide +kernel
theorem zpT201 : zcheck zpZ zpRS zpMT [zpC89, zpC96, zpC97, zpC158, zpC200] zpC201 zpP10 0 zpA201 [] 3000 = true := by decide +kernel
theorem zpT202 : zcheck zpZ zpRS zpMT [zpC89, zpC96, zpC97, zpC157, zpC158, zpC201] zpC202 zpP10 0 zpA202 [] 3000 = true := by decide +kernel
theorem zpT203 : zcheck zpZ zpRS zpMT [zpC97, zpC156, zpC202] zpC203 zpP10 0 zpA203 [] 3000 = true := by decide +kernel
theorem zpT204 : zcheck zpZ zpRS zpMT [zpC97, zpC155, zpC203] zpC204 zpP10 0 zpA204 [] 3000 = true := by decide +kernel
theorem zpT206 : zcheck zpZ zpRS zpMT [zpC88, zpC90, zpC96, zpC97, zpC115, zpC205] zpC206 zpP10 1 zpA206 [] 3000 = true := by decide +kernel
theorem zpT207 : zcheck zpZ zpRS zpMT [zpC206] zpC207 zpP7 1 zpA207 [] 3000 = true := by decide +kernel
theorem zpT208 : zcheck zpZ zpRS zpMT [zpC117, zpC207] zpC208 zpP0 1 zpA208 [] 3000 = true := by decide +kernel
theorem zpT209 : zcheck zpZ zpRS zpMT [] zpC209 zpP10 1 zpA209 [] 3000 = true := by decide +kernel
theorem zpT211 : zcheck zpZ zpRS zpMT [zpC210] zpC211 zpP7 1 zpA211 [] 3000 = true := by decide +kernel
theorem zpT212 : zcheck zpZ zpRS zpMT [zpC211] zpC212 zpP7 1 zpA212 [] 3000 = true := by decide +kernel
theorem zpT213 : zcheck zpZ zpRS zpMT [] zpC213 zpP11 2 zpA213 [] 3000 = true := by decide +kernel
theorem zpT214 : zcheck zpZ zpRS zpMT [zpC129, zpC212, zpC213] zpC214 zpP7 1 zpA214 [] 3000 = true := by decide +kernel
theorem zpT215 : zcheck zpZ zpRS zpMT [zpC3, zpC74, zpC75, zpC214] zpC215 zpP0 1 zpA215 [] 3000 = true := by decide +kernel
theorem zpT216 : zcheck zpZ zpRS zpMT [zpC127, zpC129, zpC214] zpC216 zpP7 2 zpA216 [] 3000 = true := by decide +kernel
theorem zpT217 : zcheck zpZ zpRS zpMT [zpC216] zpC217 zpP7 1 zpA217 [] 3000 = true := by decide +kernel
theorem zpT218 : zcheck zpZ zpRS zpMT [zpC216] zpC218 zpP7 1 zpA218 [] 3000 = true := by decide +kernel
theorem zpT219 : zcheck zpZ zpRS zpMT [zpC3, zpC74, zpC217, zpC218] zpC219 zpP0 1 zpA219 [] 3000 = true := by decide +kernel
theorem zpT220 : zcheck zpZ zpRS zpMT [] zpC220 zpP11 2 zpA220 [] 3000 = true := by decide +kernel
theorem zpT221 : zcheck zpZ zpRS zpMT [zpC3, zpC218, zpC220] zpC221 zpP0 1 zpA221 [] 3000 = true := by decide +kernel
theorem zpT222 : zcheck zpZ zpRS zpMT [zpC216] zpC222 zpP7 1 zpA222 [] 3000 = true := by decide +kernel
theorem zpT223 : zcheck zpZ zpRS zpMT [zpC82, zpC222] zpC223 zpP0 1 zpA223 [] 3000 = true := by decide +kernel
theorem zpT224 : zcheck zpZ zpRS zpMT [zpC129, zpC214] zpC224 zpP7 2 zpA224 [] 3000 = true := by decide +kernel
theorem zpT225 : zcheck zpZ zpRS zpMT [zpC78, zpC224] zpC225 zpP0 1 zpA225 [] 3000 = true := by decide +kernel
theorem zpT226 : zcheck zpZ zpRS zpMT [] zpC226 zpP8 2 zpA226 [] 3000 = true := by decide +kernel
theorem zpT227 : zcheck zpZ zpRS zpMT [zpC226] zpC227 zpP8 1 zpA227 [] 3000 = true := by decide +kernel
theorem zpT228 : zcheck zpZ zpRS zpMT [zpC226] zpC228 zpP8 1 zpA228 [] 3000 = true := by decide +kernel
theorem zpT229 : zcheck zpZ zpRS zpMT [zpC74, zpC227, zpC228] zpC229 zpP0 1 zpA229 [] 3000 = true := by decide +kernel
theorem zpT230 : zcheck zpZ zpRS zpMT [zpC213] zpC230 zpP8 2 zpA230 [] 3000 = true := by decide +kernel
theorem zpT231 : zcheck zpZ zpRS zpMT [] zpC231 zpP11 2 zpA231 [] 3000 = true := by decide +kernel
theorem zpT232 : zcheck zpZ zpRS zpMT [zpC230, zpC231] zpC232 zpP8 0 zpA232 [] 3000 = true := by decide +kernel
theorem zpT233 : zcheck zpZ zpRS zpMT [zpC78, zpC127, zpC232] zpC233 zpP8 0 zpA233 [] 3000 = true := by decide +kernel
theorem zpT234 : zcheck zpZ zpRS zpMT [zpC74, zpC82, zpC233] zpC234 zpP0 1 zpA234 [] 3000 = true := by decide +kernel
theorem zpT235 : zcheck zpZ zpRS zpMT [] zpC235 zpP8 0 zpA235 [] 3000 = true := by decide +kernel
theorem zpT236 : zcheck zpZ zpRS zpMT [zpC129] zpC236 zpP8 0 zpA236 [] 3000 = true := by decide +kernel
theorem zpT237 : zcheck zpZ zpRS zpMT [] zpC237 zpP8 1 zpA237 [] 3000 = true := by decide +kernel
theorem zpT238 : zcheck zpZ zpRS zpMT [zpC235, zpC236, zpC237] zpC238 zpP8 1 zpA238 [] 3000 = true := by decide +kernel
theorem zpT239 : zcheck zpZ zpRS zpMT [zpC74, zpC121, zpC238] zpC239 zpP0 1 zpA239 [] 3000 = true := by decide +kernel
theorem zpT240 : zcheck zpZ zpRS zpMT [] zpC240 zpP14 1 zpA240 [] 3000 = true := by decide +kernel
theorem zpT241 : zcheck zpZ zpRS zpMT [zpC240] zpC241 zpP8 1 zpA241 [] 3000 = true := by decide +kernel
theorem zpT242 : zcheck zpZ zpRS zpMT [zpC74, zpC121, zpC150, zpC241] zpC242 zpP0 1 zpA242 [] 3000 = true := by decide +kernel
theorem zpT243 : zcheck zpZ zpRS zpMT [zpC127] zpC243 zpP8 1 zpA243 [] 3000 = true := by decide +kernel
theorem zpT244 : zcheck zpZ zpRS zpMT [zpC74, zpC82, zpC243] zpC244 zpP0 1 zpA244 [] 3000 = true := by decide +kernel
theorem zpT245 : zcheck zpZ zpRS zpMT [zpC79] zpC245 zpP2 0 zpA245 [] 3000 = true := by decide +kernel
theorem zpT246 : zcheck zpZ zpRS zpMT [zpC245] zpC246 zpP0 1 zpA246 [] 3000 = true := by decide +kernel
theorem zpT247 : zcheck zpZ zpRS zpMT [zpC79] zpC247 zpP2 0 zpA247 [] 3000 = true := by decide +kernel
theorem zpT248 : zcheck zpZ zpRS zpMT [zpC247] zpC248 zpP0 1 zpA248 [] 3000 = true := by decide +kernel
theorem zpT249 : zcheck zpZ zpRS zpMT [] zpC249 zpP1 0 zpA249 [] 3000 = true := by decide +kernel
theorem zpT250 : zcheck zpZ zpRS zpMT [] zpC250 zpP1 1 zpA250 [] 3000 = true := by decide +kernel
theorem zpT251 : zcheck zpZ zpRS zpMT [zpC121, zpC250] zpC251 zpP1 1 zpA251 [] 3000 = true := by decide +kernel
theorem zpT252 : zcheck zpZ zpRS zpMT [zpC251] zpC252 zpP1 1 zpA252 [] 3000 = true := by decide +kernel
theorem zpT253 : zcheck zpZ zpRS zpMT [] zpC253 zpP1 1 zpA253 [] 3000 = true := by decide +kernel
theorem zpT254 : zcheck zpZ zpRS zpMT [zpC121, zpC253] zpC254 zpP1 1 zpA254 [] 3000 = true := by decide +kernel
theorem zpT255 : zcheck zpZ zpRS zpMT [zpC254] zpC255 zpP1 1 zpA255 [] 3000 = true := by decide +kernel
theorem zpT256 : zcheck zpZ zpRS zpMT [] zpC256 zpP1 1 zpA256 [] 3000 = true := by decide +kernel
theorem zpT257 : zcheck zpZ zpRS zpMT [zpC121, zpC256] zpC257 zpP1 1 zpA257 [] 3000 = true := by decide +kernel
theorem zpT258 : zcheck zpZ zpRS zpMT [] zpC258 zpP1 1 zpA258 [] 3000 = true := by decide +kernel
theorem zpT259 : zcheck zpZ zpRS zpMT [zpC121, zpC258] zpC259 zpP1 1 zpA259 [] 3000 = true := by decide +kernel
theorem zpT260 : zcheck zpZ zpRS zpMT [zpC259] zpC260 zpP1 1 zpA260 [] 3000 = true := by decide +kernel
theorem zpT261 : zcheck zpZ zpRS zpMT [zpC260] zpC261 zpP1 1 zpA261 [] 3000 = true := by decide +kernel
theorem zpT262 : zcheck zpZ zpRS zpMT [zpC121, zpC261] zpC262 zpP1 1 zpA262 [] 3000 = true := by decide +kernel
theorem zpT263 : zcheck zpZ zpRS zpMT [zpC121, zpC256] zpC263 zpP1 1 zpA263 [] 3000 = true := by decide +kernel
theorem zpT264 : zcheck zpZ zpRS zpMT [zpC121, zpC261] zpC264 zpP1 1 zpA264 [] 3000 = true := by decide +kernel
