theorem zpT143 : zcheck zpZ zpRS zpMT [zpC142] zpC143 zpP1 1 zpA143 [] 3000 = true := by decide +kernel
theorem zpT144 : zcheck zpZ zpRS zpMT [zpC143] zpC144 zpP1 1 zpA144 [] 3000 = true := by decide +kernel
theorem zpT145 : zcheck zpZ zpRS zpMT [zpC73, zpC74, zpC106, zpC114, zpC124, zpC128, zpC144] zpC145 zpP0 1 zpA145 [(28, 2, 0, 3)] 3000 = true := by decide +kernel
theorem zpT146 : zcheck zpZ zpRS zpMT [] zpC146 zpP1 1 zpA146 [] 3000 = true := by decide +kernel
theorem zpT147 : zcheck zpZ zpRS zpMT [zpC3, zpC146] zpC147 zpP1 1 zpA147 [] 3000 = true := by decide +kernel
theorem zpT148 : zcheck zpZ zpRS zpMT [zpC147] zpC148 zpP1 1 zpA148 [] 3000 = true := by decide +kernel
theorem zpT149 : zcheck zpZ zpRS zpMT [zpC148] zpC149 zpP1 1 zpA149 [] 3000 = true := by decide +kernel
theorem zpT150 : zcheck zpZ zpRS zpMT [] zpC150 zpP1 1 zpA150 [] 3000 = true := by decide +kernel
theorem zpT151 : zcheck zpZ zpRS zpMT [zpC3, zpC150] zpC151 zpP1 1 zpA151 [] 3000 = true := by decide +kernel
theorem zpT152 : zcheck zpZ zpRS zpMT [zpC151] zpC152 zpP1 1 zpA152 [] 3000 = true := by decide +kernel
theorem zpT153 : zcheck zpZ zpRS zpMT [zpC152] zpC153 zpP1 1 zpA153 [] 3000 = true := by decide +kernel
theorem zpT154 : zcheck zpZ zpRS zpMT [zpC3, zpC153] zpC154 zpP1 1 zpA154 [] 3000 = true := by decide +kernel
theorem zpT155 : zcheck zpZ zpRS zpMT [zpC154] zpC155 zpP1 1 zpA155 [] 3000 = true := by decide +kernel
theorem zpT156 : zcheck zpZ zpRS zpMT [zpC155] zpC156 zpP1 1 zpA156 [] 3000 = true := by decide +kernel
theorem zpT157 : zcheck zpZ zpRS zpMT [] zpC157 zpP1 1 zpA157 [] 3000 = true := by decide +kernel
theorem zpT158 : zcheck zpZ zpRS zpMT [zpC3, zpC157] zpC158 zpP1 1 zpA158 [] 3000 = true := by decide +kernel
theorem zpT159 : zcheck zpZ zpRS zpMT [zpC158] zpC159 zpP1 1 zpA159 [] 3000 = true := by decide +kernel
theorem zpT160 : zcheck zpZ zpRS zpMT [zpC159] zpC160 zpP1 1 zpA160 [] 3000 = true := by decide +kernel
theorem zpT161 : zcheck zpZ zpRS zpMT [zpC3, zpC160] zpC161 zpP1 1 zpA161 [] 3000 = true := by decide +kernel
theorem zpT162 : zcheck zpZ zpRS zpMT [zpC161] zpC162 zpP1 1 zpA162 [] 3000 = true := by decide +kernel
theorem zpT163 : zcheck zpZ zpRS zpMT [zpC162] zpC163 zpP1 1 zpA163 [] 3000 = true := by decide +kernel
theorem zpT164 : zcheck zpZ zpRS zpMT [] zpC164 zpP1 1 zpA164 [] 3000 = true := by decide +kernel
theorem zpT165 : zcheck zpZ zpRS zpMT [zpC3, zpC164] zpC165 zpP1 1 zpA165 [] 3000 = true := by decide +kernel
theorem zpT166 : zcheck zpZ zpRS zpMT [zpC165] zpC166 zpP1 1 zpA166 [] 3000 = true := by decide +kernel
theorem zpT167 : zcheck zpZ zpRS zpMT [zpC166] zpC167 zpP1 1 zpA167 [] 3000 = true := by decide +kernel
theorem zpT168 : zcheck zpZ zpRS zpMT [zpC3, zpC167] zpC168 zpP1 1 zpA168 [] 3000 = true := by decide +kernel
theorem zpT169 : zcheck zpZ zpRS zpMT [zpC168] zpC169 zpP1 1 zpA169 [] 3000 = true := by decide +kernel
theorem zpT170 : zcheck zpZ zpRS zpMT [] zpC170 zpP1 1 zpA170 [] 3000 = true := by decide +kernel
theorem zpT171 : zcheck zpZ zpRS zpMT [zpC3, zpC170] zpC171 zpP1 1 zpA171 [] 3000 = true := by decide +kernel
theorem zpT172 : zcheck zpZ zpRS zpMT [zpC171] zpC172 zpP1 1 zpA172 [] 3000 = true := by decide +kernel
theorem zpT173 : zcheck zpZ zpRS zpMT [zpC172] zpC173 zpP1 1 zpA173 [] 3000 = true := by decide +kernel
theorem zpT174 : zcheck zpZ zpRS zpMT [zpC3, zpC173] zpC174 zpP1 1 zpA174 [] 3000 = true := by decide +kernel
theorem zpT175 : zcheck zpZ zpRS zpMT [zpC174] zpC175 zpP1 1 zpA175 [] 3000 = true := by decide +kernel
theorem zpT176 : zcheck zpZ zpRS zpMT [zpC169, zpC175] zpC176 zpP1 1 zpA176 [] 3000 = true := by decide +kernel
theorem zpT177 : zcheck zpZ zpRS zpMT [zpC3, zpC176] zpC177 zpP1 1 zpA177 [] 3000 = true := by decide +kernel
theorem zpT178 : zcheck zpZ zpRS zpMT [zpC177] zpC178 zpP1 1 zpA178 [] 3000 = true := by decide +kernel
theorem zpT179 : zcheck zpZ zpRS zpMT [zpC178] zpC179 zpP1 1 zpA179 [] 3000 = true := by decide +kernel
theorem zpT180 : zcheck zpZ zpRS zpMT [zpC73, zpC74, zpC106, zpC149, zpC156, zpC163, zpC179] zpC180 zpP0 1 zpA180 [(28, 2, 0, 3)] 3000 = true := by decide +kernel
theorem zpT181 : zcheck zpZ zpRS zpMT [] zpC181 zpP1 1 zpA181 [] 3000 = true := by decide +kernel
theorem zpT182 : zcheck zpZ zpRS zpMT [zpC3, zpC181] zpC182 zpP1 1 zpA182 [] 3000 = true := by decide +kernel
theorem zpT183 : zcheck zpZ zpRS zpMT [zpC182] zpC183 zpP1 1 zpA183 [] 3000 = true := by decide +kernel
theorem zpT184 : zcheck zpZ zpRS zpMT [zpC183] zpC184 zpP1 1 zpA184 [] 3000 = true := by decide +kernel
theorem zpT185 : zcheck zpZ zpRS zpMT [zpC3, zpC184] zpC185 zpP1 1 zpA185 [] 3000 = true := by decide +kernel
theorem zpT186 : zcheck zpZ zpRS zpMT [zpC185] zpC186 zpP1 1 zpA186 [] 3000 = true := by decide +kernel
theorem zpT187 : zcheck zpZ zpRS zpMT [zpC186] zpC187 zpP1 1 zpA187 [] 3000 = true := by decide +kernel
theorem zpT188 : zcheck zpZ zpRS zpMT [] zpC188 zpP1 1 zpA188 [] 3000 = true := by decide +kernel
theorem zpT189 : zcheck zpZ zpRS zpMT [zpC3, zpC188] zpC189 zpP1 1 zpA189 [] 3000 = true := by decide +kernel
theorem zpT190 : zcheck zpZ zpRS zpMT [zpC189] zpC190 zpP1 1 zpA190 [] 3000 = true := by decide +kernel
theorem zpT191 : zcheck zpZ zpRS zpMT [zpC190] zpC191 zpP1 1 zpA191 [] 3000 = true := by decide +kernel
theorem zpT192 : zcheck zpZ zpRS zpMT [zpC3, zpC191] zpC192 zpP1 1 zpA192 [] 3000 = true := by decide +kernel
theorem zpT193 : zcheck zpZ zpRS zpMT [zpC192] zpC193 zpP1 1 zpA193 [] 3000 = true := by decide +kernel
theorem zpT194 : zcheck zpZ zpRS zpMT [zpC193] zpC194 zpP1 1 zpA194 [] 3000 = true := by decide +kernel
theorem zpT195 : zcheck zpZ zpRS zpMT [zpC3, zpC194] zpC195 zpP1 1 zpA195 [] 3000 = true := by decide +kernel
theorem zpT196 : zcheck zpZ zpRS zpMT [zpC195] zpC196 zpP1 1 zpA196 [] 3000 = true := by decide +kernel
theorem zpT197 : zcheck zpZ zpRS zpMT [zpC196] zpC197 zpP1 1 zpA197 [] 3000 = true := by decide +kernel
theorem zpT198 : zcheck zpZ zpRS zpMT [zpC3, zpC197] zpC198 zpP1 1 zpA198 [] 3000 = true := by decide +kernel
theorem zpT199 : zcheck zpZ zpRS zpMT [zpC198] zpC199 zpP1 1 zpA199 [] 3000 = true := by decide +kernel
theorem zpT200 : zcheck zpZ zpRS zpMT [zpC199] zpC200 zpP1 1 zpA200 [] 3000 = true := by decide +kernel
theorem zpT201 : zcheck zpZ zpRS zpMT [] zpC201 zpP1 1 zpA201 [] 3000 = true := by decide +kernel
theorem zpT202 : zcheck zpZ zpRS zpMT [zpC3, zpC201] zpC202 zpP1 1 zpA202 [] 3000 = true := by decide +kernel
theorem zpT203 : zcheck zpZ zpRS zpMT [zpC202] zpC203 zpP1 1 zpA203 [] 3000 = true := by decide +kernel
theorem zpT204 : zcheck zpZ zpRS zpMT [zpC203] zpC204 zpP1 1 zpA204 [] 3000 = true := by decide +kernel
theorem zpT205 : zcheck zpZ zpRS zpMT [] zpC205 zpP1 1 zpA205 [] 3000 = true := by decide +kernel
theorem zpT206 : zcheck zpZ zpRS zpMT [zpC3, zpC205] zpC206 zpP1 1 zpA206 [] 3000 = true := by decide +kernel
theorem zpT207 : zcheck zpZ zpRS zpMT [zpC206] zpC207 zpP1 1 zpA207 [] 3000 = true := by decide +kernel
theorem zpT208 : zcheck zpZ zpRS zpMT [zpC207] zpC208 zpP1 1 zpA208 [] 3000 = true := by decide +kernel
theorem zpT209 : zcheck zpZ zpRS zpMT [zpC3, zpC208] zpC209 zpP1 1 zpA209 [] 3000 = true := by decide +kernel
theorem zpT210 : zcheck zpZ zpRS zpMT [zpC209] zpC210 zpP1 1 zpA210 [] 3000 = true := by decide +kernel
theorem zpT211 : zcheck zpZ zpRS zpMT [zpC210] zpC211 zpP1 1 zpA211 [] 3000 = true := by decide +kernel
theorem zpT212 : zcheck zpZ zpRS zpMT [zpC3, zpC211] zpC212 zpP1 1 zpA212 [] 3000 = true := by decide +kernel
theorem zpT213 : zcheck zpZ zpRS zpMT [zpC212] zpC213 zpP1 1 zpA213 [] 3000 = true := by decide +kernel
theorem zpT214 : zcheck zpZ zpRS zpMT [zpC213] zpC214 zpP1 1 zpA214 [] 3000 = true := by decide +kernel
theorem zpT215 : zcheck zpZ zpRS zpMT [zpC3, zpC214] zpC215 zpP1 1 zpA215 [] 3000 = true := by decide +kernel
theorem zpT216 : zcheck zpZ zpRS zpMT [zpC215] zpC216 zpP1 1 zpA216 [] 3000 = true := by decide +kernel
theorem zpT217 : zcheck zpZ zpRS zpMT [] zpC217 zpP1 1 zpA217 [] 3000 = true := by decide +kernel
theorem zpT218 : zcheck zpZ zpRS zpMT [zpC3, zpC217] zpC218 zpP1 1 zpA218 [] 3000 = true := by decide +kernel
theorem zpT219 : zcheck zpZ zpRS zpMT [zpC218] zpC219 zpP1 1 zpA219 [] 3000 = true := by decide +kernel
theorem zpT220 : zcheck zpZ zpRS zpMT [zpC216, zpC219] zpC220 zpP1 1 zpA220 [] 3000 = true := by decide +kernel
theorem zpT221 : zcheck zpZ zpRS zpMT [zpC3, zpC220] zpC221 zpP1 1 zpA221 [] 3000 = true := by decide +kernel
theorem zpT222 : zcheck zpZ zpRS zpMT [zpC221] zpC222 zpP1 1 zpA222 [] 3000 = true := by decide +kernel
theorem zpT223 : zcheck zpZ zpRS zpMT [zpC222] zpC223 zpP1 1 zpA223 [] 3000 = true := by decide +kernel
theorem zpT224 : zcheck zpZ zpRS zpMT [zpC73, zpC74, zpC106, zpC187, zpC200, zpC204, zpC223] zpC224 zpP0 1 zpA224 [(28, 2, 0, 3)] 3000 = true := by decide +kernel
theorem zpT225 : zcheck zpZ zpRS zpMT [] zpC225 zpP1 1 zpA225 [] 3000 = true := by decide +kernel
theorem zpT226 : zcheck zpZ zpRS zpMT [zpC3, zpC225] zpC226 zpP1 1 zpA226 [] 3000 = true := by decide +kernel
theorem zpT227 : zcheck zpZ zpRS zpMT [zpC226] zpC227 zpP1 1 zpA227 [] 3000 = true := by decide +kernel
theorem zpT228 : zcheck zpZ zpRS zpMT [zpC227] zpC228 zpP1 1 zpA228 [] 3000 = true := by decide +kernel
theorem zpT229 : zcheck zpZ zpRS zpMT [zpC3, zpC228] zpC229 zpP1 1 zpA229 [] 3000 = true := by decide +kernel
theorem zpT230 : zcheck zpZ zpRS zpMT [zpC229] zpC230 zpP1 1 zpA230 [] 3000 = true := by decide +kernel
theorem zpT231 : zcheck zpZ zpRS zpMT [zpC230] zpC231 zpP1 1 zpA231 [] 3000 = true := by decide +kernel
theorem zpT232 : zcheck zpZ zpRS zpMT [zpC3, zpC231] zpC232 zpP1 1 zpA232 [] 3000 = true := by decide +kernel
theorem zpT233 : zcheck zpZ zpRS zpMT [zpC232] zpC233 zpP1 1 zpA233 [] 3000 = true := by decide +kernel
theorem zpT234 : zcheck zpZ zpRS zpMT [zpC233] zpC234 zpP1 1 zpA234 [] 3000 = true := by decide +kernel
theorem zpT235 : zcheck zpZ zpRS zpMT [] zpC235 zpP1 1 zpA235 [] 3000 = true := by decide +kernel
theorem zpT236 : zcheck zpZ zpRS zpMT [zpC3, zpC235] zpC236 zpP1 1 zpA236 [] 3000 = true := by decide +kernel
theorem zpT237 : zcheck zpZ zpRS zpMT [zpC236] zpC237 zpP1 1 zpA237 [] 3000 = true := by decide +kernel
theorem zpT238 : zcheck zpZ zpRS zpMT [zpC237] zpC238 zpP1 1 zpA238 [] 3000 = true := by decide +kernel
theorem zpT239 : zcheck zpZ zpRS zpMT [zpC3, zpC238] zpC239 zpP1 1 zpA239 [] 3000 = true := by decide +kernel
theorem zpT240 : zcheck zpZ zpRS zpMT [zpC239] zpC240 zpP1 1 zpA240 [] 3000 = true := by decide +kernel
theorem zpT241 : zcheck zpZ zpRS zpMT [zpC240] zpC241 zpP1 1 zpA241 [] 3000 = true := by decide +kernel
theorem zpT242 : zcheck zpZ zpRS zpMT [zpC3, zpC241] zpC242 zpP1 1 zpA242 [] 3000 = true := by decide +kernel
theorem zpT243 : zcheck zpZ zpRS zpMT [zpC242] zpC243 zpP1 1 zpA243 [] 3000 = true := by decide +kernel
theorem zpT244 : zcheck zpZ zpRS zpMT [zpC243] zpC244 zpP1 1 zpA244 [] 3000 = true := by decide +kernel
theorem zpT245 : zcheck zpZ zpRS zpMT [zpC3, zpC244] zpC245 zpP1 1 zpA245 [] 3000 = true := by decide +kernel
theorem zpT246 : zcheck zpZ zpRS zpMT [zpC245] zpC246 zpP1 1 zpA246 [] 3000 = true := by decide +kernel
theorem zpT247 : zcheck zpZ zpRS zpMT [zpC246] zpC247 zpP1 1 zpA247 [] 3000 = true := by decide +kernel
theorem zpT248 : zcheck zpZ zpRS zpMT [] zpC248 zpP1 1 zpA248 [] 3000 = true := by decide +kernel
theorem zpT249 : zcheck zpZ zpRS zpMT [zpC3, zpC248] zpC249 zpP1 1 zpA249 [] 3000 = true := by decide +kernel
theorem zpT250 : zcheck zpZ zpRS zpMT [zpC249] zpC250 zpP1 1 zpA250 [] 3000 = true := by decide +kernel
theorem zpT251 : zcheck zpZ zpRS zpMT [zpC250] zpC251 zpP1 1 zpA251 [] 3000 = true := by decide +kernel
theorem zpT252 : zcheck zpZ zpRS zpMT [] zpC252 zpP1 1 zpA252 [] 3000 = true := by decide +kernel
theorem zpT253 : zcheck zpZ zpRS zpMT [zpC3, zpC252] zpC253 zpP1 1 zpA253 [] 3000 = true := by decide +kernel
theorem zpT254 : zcheck zpZ zpRS zpMT [zpC253] zpC254 zpP1 1 zpA254 [] 3000 = true := by decide +kernel
theorem zpT255 : zcheck zpZ zpRS zpMT [zpC254] zpC255 zpP1 1 zpA255 [] 3000 = true := by decide +kernel
theorem zpT256 : zcheck zpZ zpRS zpMT [zpC3, zpC255] zpC256 zpP1 1 zpA256 [] 3000 = true := by decide +kernel
theorem zpT257 : zcheck zpZ zpRS zpMT [zpC256] zpC257 zpP1 1 zpA257 [] 3000 = true := by decide +kernel
theorem zpT258 : zcheck zpZ zpRS zpMT [zpC257] zpC258 zpP1 1 zpA258 [] 3000 = true := by decide +kernel
theorem zpT259 : zcheck zpZ zpRS zpMT [zpC3, zpC258] zpC259 zpP1 1 zpA259 [] 3000 = true := by decide +kernel
theorem zpT260 : zcheck zpZ zpRS zpMT [zpC259] zpC260 zpP1 1 zpA260 [] 3000 = true := by decide +kernel
theorem zpT261 : zcheck zpZ zpRS zpMT [zpC260] zpC261 zpP1 1 zpA261 [] 3000 = true := by decide +kernel
theorem zpT262 : zcheck zpZ zpRS zpMT [zpC3, zpC261] zpC262 zpP1 1 zpA262 [] 3000 = true := by decide +kernel
theorem zpT263 : zcheck zpZ zpRS zpMT [zpC262] zpC263 zpP1 1 zpA263 [] 3000 = true := by decide +kernel
theorem zpT264 : zcheck zpZ zpRS zpMT [] zpC264 zpP1 1 zpA264 [] 3000 = true := by decide +kernel
theorem zpT265 : zcheck zpZ zpRS zpMT [zpC3, zpC264] zpC265 zpP1 1 zpA265 [] 3000 = true := by decide +kernel
theorem zpT266 : zcheck zpZ zpRS zpMT [zpC265] zpC266 zpP1 1 zpA266 [] 3000 = true := by decide +kernel
theorem zpT267 : zcheck zpZ zpRS zpMT [zpC263, zpC266] zpC267 zpP1 1 zpA267 [] 3000 = true := by decide +kernel
theorem zpT268 : zcheck zpZ zpRS zpMT [zpC3, zpC267] zpC268 zpP1 1 zpA268 [] 3000 = true := by decide +kernel
theorem zpT269 : zcheck zpZ zpRS zpMT [zpC268] zpC269 zpP1 1 zpA269 [] 3000 = true := by decide +kernel
theorem zpT270 : zcheck zpZ zpRS zpMT [zpC269] zpC270 zpP1 1 zpA270 [] 3000 = true := by decide +kernel
theorem zpT271 : zcheck zpZ zpRS zpMT [zpC73, zpC74, zpC106, zpC234, zpC247, zpC251, zpC270] zpC271 zpP0 1 zpA271 [(28, 2, 0, 3)] 3000 = true := by decide +kernel
theorem zpT272 : zcheck zpZ zpRS zpMT [] zpC272 zpP1 1 zpA272 [] 3000 = true := by decide +kernel
theorem zpT273 : zcheck zpZ zpRS zpMT [zpC3, zpC272] zpC273 zpP1 1 zpA273 [] 3000 = true := by decide +kernel
theorem zpT274 : zcheck zpZ zpRS zpMT [zpC273] zpC274 zpP1 1 zpA274 [] 3000 = true := by decide +kernel
theorem zpT275 : zcheck zpZ zpRS zpMT [zpC274] zpC275 zpP1 1 zpA275 [] 3000 = true := by decide +kernel
theorem zpT276 : zcheck zpZ zpRS zpMT [] zpC276 zpP1 1 zpA276 [] 3000 = true := by decide +kernel
theorem zpT277 : zcheck zpZ zpRS zpMT [zpC3, zpC276] zpC277 zpP1 1 zpA277 [] 3000 = true := by decide +kernel
theorem zpT278 : zcheck zpZ zpRS zpMT [zpC277] zpC278 zpP1 1 zpA278 [] 3000 = true := by decide +kernel
theorem zpT279 : zcheck zpZ zpRS zpMT [zpC278] zpC279 zpP1 1 zpA279 [] 3000 = true := by decide +kernel
theorem zpT280 : zcheck zpZ zpRS zpMT [zpC3, zpC279] zpC280 zpP1 1 zpA280 [] 3000 = true := by decide +kernel
