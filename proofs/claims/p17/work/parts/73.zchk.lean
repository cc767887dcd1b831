theorem zpT142 : zcheck zpZ zpRS zpMT [zpC51, zpC141] zpC142 zpP0 1 zpA142 [] 3000 = true := by decide +kernel
theorem zpT143 : zcheck zpZ zpRS zpMT [zpC10] zpC143 zpP7 2 zpA143 [] 3000 = true := by decide +kernel
theorem zpT144 : zcheck zpZ zpRS zpMT [] zpC144 zpP10 1 zpA144 [] 3000 = true := by decide +kernel
theorem zpT146 : zcheck zpZ zpRS zpMT [zpC145] zpC146 zpP7 1 zpA146 [] 3000 = true := by decide +kernel
theorem zpT147 : zcheck zpZ zpRS zpMT [zpC146] zpC147 zpP7 1 zpA147 [] 3000 = true := by decide +kernel
theorem zpT148 : zcheck zpZ zpRS zpMT [] zpC148 zpP11 2 zpA148 [] 3000 = true := by decide +kernel
theorem zpT149 : zcheck zpZ zpRS zpMT [zpC63, zpC147, zpC148] zpC149 zpP7 1 zpA149 [] 3000 = true := by decide +kernel
theorem zpT150 : zcheck zpZ zpRS zpMT [zpC6, zpC7, zpC143, zpC149] zpC150 zpP0 1 zpA150 [] 3000 = true := by decide +kernel
theorem zpT151 : zcheck zpZ zpRS zpMT [zpC61, zpC63, zpC149] zpC151 zpP7 2 zpA151 [] 3000 = true := by decide +kernel
theorem zpT152 : zcheck zpZ zpRS zpMT [zpC151] zpC152 zpP7 1 zpA152 [] 3000 = true := by decide +kernel
theorem zpT153 : zcheck zpZ zpRS zpMT [zpC151] zpC153 zpP7 1 zpA153 [] 3000 = true := by decide +kernel
theorem zpT154 : zcheck zpZ zpRS zpMT [zpC6, zpC143, zpC152, zpC153] zpC154 zpP0 1 zpA154 [] 3000 = true := by decide +kernel
theorem zpT155 : zcheck zpZ zpRS zpMT [] zpC155 zpP11 2 zpA155 [] 3000 = true := by decide +kernel
theorem zpT156 : zcheck zpZ zpRS zpMT [zpC143, zpC153, zpC155] zpC156 zpP0 1 zpA156 [] 3000 = true := by decide +kernel
theorem zpT157 : zcheck zpZ zpRS zpMT [zpC151] zpC157 zpP7 1 zpA157 [] 3000 = true := by decide +kernel
theorem zpT158 : zcheck zpZ zpRS zpMT [zpC16, zpC157] zpC158 zpP0 1 zpA158 [] 3000 = true := by decide +kernel
theorem zpT159 : zcheck zpZ zpRS zpMT [zpC63, zpC149] zpC159 zpP7 2 zpA159 [] 3000 = true := by decide +kernel
theorem zpT160 : zcheck zpZ zpRS zpMT [zpC11, zpC159] zpC160 zpP0 1 zpA160 [] 3000 = true := by decide +kernel
theorem zpT161 : zcheck zpZ zpRS zpMT [] zpC161 zpP8 2 zpA161 [] 3000 = true := by decide +kernel
theorem zpT162 : zcheck zpZ zpRS zpMT [zpC161] zpC162 zpP8 1 zpA162 [] 3000 = true := by decide +kernel
theorem zpT163 : zcheck zpZ zpRS zpMT [zpC161] zpC163 zpP8 1 zpA163 [] 3000 = true := by decide +kernel
theorem zpT164 : zcheck zpZ zpRS zpMT [zpC6, zpC162, zpC163] zpC164 zpP0 1 zpA164 [] 3000 = true := by decide +kernel
theorem zpT165 : zcheck zpZ zpRS zpMT [zpC148] zpC165 zpP8 2 zpA165 [] 3000 = true := by decide +kernel
theorem zpT166 : zcheck zpZ zpRS zpMT [] zpC166 zpP11 2 zpA166 [] 3000 = true := by decide +kernel
theorem zpT167 : zcheck zpZ zpRS zpMT [zpC165, zpC166] zpC167 zpP8 0 zpA167 [] 3000 = true := by decide +kernel
theorem zpT168 : zcheck zpZ zpRS zpMT [zpC11, zpC61, zpC167] zpC168 zpP8 0 zpA168 [] 3000 = true := by decide +kernel
theorem zpT169 : zcheck zpZ zpRS zpMT [zpC6, zpC16, zpC168] zpC169 zpP0 1 zpA169 [] 3000 = true := by decide +kernel
theorem zpT170 : zcheck zpZ zpRS zpMT [] zpC170 zpP8 0 zpA170 [] 3000 = true := by decide +kernel
theorem zpT171 : zcheck zpZ zpRS zpMT [zpC63] zpC171 zpP8 0 zpA171 [] 3000 = true := by decide +kernel
theorem zpT172 : zcheck zpZ zpRS zpMT [] zpC172 zpP8 1 zpA172 [] 3000 = true := by decide +kernel
theorem zpT173 : zcheck zpZ zpRS zpMT [zpC170, zpC171, zpC172] zpC173 zpP8 1 zpA173 [] 3000 = true := by decide +kernel
theorem zpT174 : zcheck zpZ zpRS zpMT [zpC6, zpC55, zpC173] zpC174 zpP0 1 zpA174 [] 3000 = true := by decide +kernel
theorem zpT175 : zcheck zpZ zpRS zpMT [] zpC175 zpP14 1 zpA175 [] 3000 = true := by decide +kernel
theorem zpT176 : zcheck zpZ zpRS zpMT [zpC175] zpC176 zpP8 1 zpA176 [] 3000 = true := by decide +kernel
theorem zpT177 : zcheck zpZ zpRS zpMT [zpC6, zpC55, zpC84, zpC176] zpC177 zpP0 1 zpA177 [] 3000 = true := by decide +kernel
theorem zpT178 : zcheck zpZ zpRS zpMT [zpC61] zpC178 zpP8 1 zpA178 [] 3000 = true := by decide +kernel
theorem zpT179 : zcheck zpZ zpRS zpMT [zpC6, zpC16, zpC178] zpC179 zpP0 1 zpA179 [] 3000 = true := by decide +kernel
theorem zpT180 : zcheck zpZ zpRS zpMT [zpC13] zpC180 zpP2 0 zpA180 [] 3000 = true := by decide +kernel
theorem zpT181 : zcheck zpZ zpRS zpMT [zpC180] zpC181 zpP0 1 zpA181 [] 3000 = true := by decide +kernel
theorem zpT182 : zcheck zpZ zpRS zpMT [zpC13] zpC182 zpP2 0 zpA182 [] 3000 = true := by decide +kernel
theorem zpT183 : zcheck zpZ zpRS zpMT [zpC182] zpC183 zpP0 1 zpA183 [] 3000 = true := by decide +kernel
theorem zpT184 : zcheck zpZ zpRS zpMT [] zpC184 zpP1 0 zpA184 [] 3000 = true := by decide +kernel
theorem zpT185 : zcheck zpZ zpRS zpMT [] zpC185 zpP1 1 zpA185 [] 3000 = true := by decide +kernel
theorem zpT186 : zcheck zpZ zpRS zpMT [zpC55, zpC185] zpC186 zpP1 1 zpA186 [] 3000 = true := by decide +kernel
theorem zpT187 : zcheck zpZ zpRS zpMT [zpC186] zpC187 zpP1 1 zpA187 [] 3000 = true := by decide +kernel
theorem zpT188 : zcheck zpZ zpRS zpMT [] zpC188 zpP1 1 zpA188 [] 3000 = true := by decide +kernel
theorem zpT189 : zcheck zpZ zpRS zpMT [zpC55, zpC188] zpC189 zpP1 1 zpA189 [] 3000 = true := by decide +kernel
theorem zpT190 : zcheck zpZ zpRS zpMT [zpC189] zpC190 zpP1 1 zpA190 [] 3000 = true := by decide +kernel
theorem zpT191 : zcheck zpZ zpRS zpMT [] zpC191 zpP1 1 zpA191 [] 3000 = true := by decide +kernel
theorem zpT192 : zcheck zpZ zpRS zpMT [zpC55, zpC191] zpC192 zpP1 1 zpA192 [] 3000 = true := by decide +kernel
theorem zpT193 : zcheck zpZ zpRS zpMT [] zpC193 zpP1 1 zpA193 [] 3000 = true := by decide +kernel
theorem zpT194 : zcheck zpZ zpRS zpMT [zpC55, zpC193] zpC194 zpP1 1 zpA194 [] 3000 = true := by decide +kernel
theorem zpT195 : zcheck zpZ zpRS zpMT [zpC194] zpC195 zpP1 1 zpA195 [] 3000 = true := by decide +kernel
theorem zpT196 : zcheck zpZ zpRS zpMT [zpC195] zpC196 zpP1 1 zpA196 [] 3000 = true := by decide +kernel
theorem zpT197 : zcheck zpZ zpRS zpMT [zpC55, zpC196] zpC197 zpP1 1 zpA197 [] 3000 = true := by decide +kernel
theorem zpT198 : zcheck zpZ zpRS zpMT [zpC55, zpC191] zpC198 zpP1 1 zpA198 [] 3000 = true := by decide +kernel
theorem zpT199 : zcheck zpZ zpRS zpMT [zpC55, zpC196] zpC199 zpP1 1 zpA199 [] 3000 = true := by decide +kernel
theorem zpT200 : zcheck zpZ zpRS zpMT [] zpC200 zpP1 1 zpA200 [] 3000 = true := by decide +kernel
theorem zpT201 : zcheck zpZ zpRS zpMT [zpC55, zpC200] zpC201 zpP1 1 zpA201 [] 3000 = true := by decide +kernel
theorem zpT202 : zcheck zpZ zpRS zpMT [zpC201] zpC202 zpP1 1 zpA202 [] 3000 = true := by decide +kernel
theorem zpT203 : zcheck zpZ zpRS zpMT [zpC202] zpC203 zpP1 1 zpA203 [] 3000 = true := by decide +kernel
theorem zpT204 : zcheck zpZ zpRS zpMT [zpC55, zpC203] zpC204 zpP1 1 zpA204 [] 3000 = true := by decide +kernel
theorem zpT205 : zcheck zpZ zpRS zpMT [zpC204] zpC205 zpP1 1 zpA205 [] 3000 = true := by decide +kernel
theorem zpT206 : zcheck zpZ zpRS zpMT [zpC205] zpC206 zpP1 1 zpA206 [] 3000 = true := by decide +kernel
theorem zpT207 : zcheck zpZ zpRS zpMT [zpC55, zpC206] zpC207 zpP1 1 zpA207 [] 3000 = true := by decide +kernel
theorem zpT208 : zcheck zpZ zpRS zpMT [zpC55, zpC191] zpC208 zpP1 1 zpA208 [] 3000 = true := by decide +kernel
theorem zpT209 : zcheck zpZ zpRS zpMT [zpC55, zpC203] zpC209 zpP1 1 zpA209 [] 3000 = true := by decide +kernel
theorem zpT210 : zcheck zpZ zpRS zpMT [zpC209] zpC210 zpP1 1 zpA210 [] 3000 = true := by decide +kernel
theorem zpT211 : zcheck zpZ zpRS zpMT [zpC210] zpC211 zpP1 1 zpA211 [] 3000 = true := by decide +kernel
theorem zpT212 : zcheck zpZ zpRS zpMT [zpC55, zpC211] zpC212 zpP1 1 zpA212 [] 3000 = true := by decide +kernel
theorem zpT213 : zcheck zpZ zpRS zpMT [zpC55, zpC191] zpC213 zpP1 1 zpA213 [] 3000 = true := by decide +kernel
theorem zpT214 : zcheck zpZ zpRS zpMT [zpC192, zpC197, zpC198, zpC199, zpC207, zpC208, zpC212, zpC213] zpC214 zpP1 1 zpA214 [] 3000 = true := by decide +kernel
theorem zpT215 : zcheck zpZ zpRS zpMT [zpC214] zpC215 zpP1 1 zpA215 [] 3000 = true := by decide +kernel
theorem zpT216 : zcheck zpZ zpRS zpMT [zpC55, zpC215] zpC216 zpP1 1 zpA216 [] 3000 = true := by decide +kernel
theorem zpT217 : zcheck zpZ zpRS zpMT [zpC216] zpC217 zpP1 1 zpA217 [] 3000 = true := by decide +kernel
theorem zpT218 : zcheck zpZ zpRS zpMT [zpC192] zpC218 zpP1 1 zpA218 [] 3000 = true := by decide +kernel
theorem zpT219 : zcheck zpZ zpRS zpMT [zpC218] zpC219 zpP1 1 zpA219 [] 3000 = true := by decide +kernel
theorem zpT220 : zcheck zpZ zpRS zpMT [zpC55, zpC219] zpC220 zpP1 1 zpA220 [] 3000 = true := by decide +kernel
theorem zpT221 : zcheck zpZ zpRS zpMT [zpC220] zpC221 zpP1 1 zpA221 [] 3000 = true := by decide +kernel
theorem zpT222 : zcheck zpZ zpRS zpMT [zpC55, zpC193] zpC222 zpP1 1 zpA222 [] 3000 = true := by decide +kernel
theorem zpT223 : zcheck zpZ zpRS zpMT [] zpC223 zpP1 1 zpA223 [] 3000 = true := by decide +kernel
theorem zpT224 : zcheck zpZ zpRS zpMT [zpC55, zpC223] zpC224 zpP1 1 zpA224 [] 3000 = true := by decide +kernel
theorem zpT225 : zcheck zpZ zpRS zpMT [zpC224] zpC225 zpP1 1 zpA225 [] 3000 = true := by decide +kernel
theorem zpT226 : zcheck zpZ zpRS zpMT [zpC225] zpC226 zpP1 1 zpA226 [] 3000 = true := by decide +kernel
theorem zpT227 : zcheck zpZ zpRS zpMT [zpC55, zpC226] zpC227 zpP1 1 zpA227 [] 3000 = true := by decide +kernel
theorem zpT228 : zcheck zpZ zpRS zpMT [zpC227] zpC228 zpP1 1 zpA228 [] 3000 = true := by decide +kernel
theorem zpT229 : zcheck zpZ zpRS zpMT [zpC228] zpC229 zpP1 1 zpA229 [] 3000 = true := by decide +kernel
theorem zpT230 : zcheck zpZ zpRS zpMT [zpC55, zpC229] zpC230 zpP1 1 zpA230 [] 3000 = true := by decide +kernel
theorem zpT231 : zcheck zpZ zpRS zpMT [zpC55, zpC193] zpC231 zpP1 1 zpA231 [] 3000 = true := by decide +kernel
theorem zpT232 : zcheck zpZ zpRS zpMT [zpC55, zpC226] zpC232 zpP1 1 zpA232 [] 3000 = true := by decide +kernel
theorem zpT233 : zcheck zpZ zpRS zpMT [zpC232] zpC233 zpP1 1 zpA233 [] 3000 = true := by decide +kernel
theorem zpT234 : zcheck zpZ zpRS zpMT [zpC233] zpC234 zpP1 1 zpA234 [] 3000 = true := by decide +kernel
theorem zpT235 : zcheck zpZ zpRS zpMT [zpC55, zpC234] zpC235 zpP1 1 zpA235 [] 3000 = true := by decide +kernel
theorem zpT236 : zcheck zpZ zpRS zpMT [zpC55, zpC193] zpC236 zpP1 1 zpA236 [] 3000 = true := by decide +kernel
theorem zpT237 : zcheck zpZ zpRS zpMT [zpC194, zpC204, zpC209, zpC222, zpC230, zpC231, zpC235, zpC236] zpC237 zpP1 1 zpA237 [] 3000 = true := by decide +kernel
theorem zpT238 : zcheck zpZ zpRS zpMT [zpC237] zpC238 zpP1 1 zpA238 [] 3000 = true := by decide +kernel
theorem zpT239 : zcheck zpZ zpRS zpMT [zpC55, zpC238] zpC239 zpP1 1 zpA239 [] 3000 = true := by decide +kernel
