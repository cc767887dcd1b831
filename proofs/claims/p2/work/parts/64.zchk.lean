theorem zpT180 : zcheck zpZ zpRS zpMT [zpC50, zpC174] zpC180 zpP1 1 zpA180 [] 3000 = true := by decide +kernel
theorem zpT181 : zcheck zpZ zpRS zpMT [zpC180] zpC181 zpP1 1 zpA181 [] 3000 = true := by decide +kernel
theorem zpT182 : zcheck zpZ zpRS zpMT [zpC181] zpC182 zpP1 1 zpA182 [] 3000 = true := by decide +kernel
theorem zpT183 : zcheck zpZ zpRS zpMT [zpC50, zpC182] zpC183 zpP1 1 zpA183 [] 3000 = true := by decide +kernel
theorem zpT184 : zcheck zpZ zpRS zpMT [zpC50, zpC141] zpC184 zpP1 1 zpA184 [] 3000 = true := by decide +kernel
theorem zpT185 : zcheck zpZ zpRS zpMT [zpC142, zpC152, zpC157, zpC170, zpC178, zpC179, zpC183, zpC184] zpC185 zpP1 1 zpA185 [] 3000 = true := by decide +kernel
theorem zpT186 : zcheck zpZ zpRS zpMT [zpC185] zpC186 zpP1 1 zpA186 [] 3000 = true := by decide +kernel
theorem zpT187 : zcheck zpZ zpRS zpMT [zpC50, zpC186] zpC187 zpP1 1 zpA187 [] 3000 = true := by decide +kernel
theorem zpT188 : zcheck zpZ zpRS zpMT [zpC50, zpC186] zpC188 zpP1 1 zpA188 [] 3000 = true := by decide +kernel
theorem zpT189 : zcheck zpZ zpRS zpMT [zpC50, zpC186] zpC189 zpP1 1 zpA189 [] 3000 = true := by decide +kernel
theorem zpT190 : zcheck zpZ zpRS zpMT [zpC50, zpC148] zpC190 zpP1 1 zpA190 [] 3000 = true := by decide +kernel
theorem zpT191 : zcheck zpZ zpRS zpMT [] zpC191 zpP1 1 zpA191 [] 3000 = true := by decide +kernel
theorem zpT192 : zcheck zpZ zpRS zpMT [zpC50, zpC191] zpC192 zpP1 1 zpA192 [] 3000 = true := by decide +kernel
theorem zpT193 : zcheck zpZ zpRS zpMT [zpC192] zpC193 zpP1 1 zpA193 [] 3000 = true := by decide +kernel
theorem zpT194 : zcheck zpZ zpRS zpMT [zpC193] zpC194 zpP1 1 zpA194 [] 3000 = true := by decide +kernel
theorem zpT195 : zcheck zpZ zpRS zpMT [zpC50, zpC194] zpC195 zpP1 1 zpA195 [] 3000 = true := by decide +kernel
theorem zpT196 : zcheck zpZ zpRS zpMT [zpC195] zpC196 zpP1 1 zpA196 [] 3000 = true := by decide +kernel
theorem zpT197 : zcheck zpZ zpRS zpMT [zpC196] zpC197 zpP1 1 zpA197 [] 3000 = true := by decide +kernel
theorem zpT198 : zcheck zpZ zpRS zpMT [zpC50, zpC197] zpC198 zpP1 1 zpA198 [] 3000 = true := by decide +kernel
theorem zpT199 : zcheck zpZ zpRS zpMT [zpC50, zpC148] zpC199 zpP1 1 zpA199 [] 3000 = true := by decide +kernel
theorem zpT200 : zcheck zpZ zpRS zpMT [zpC50, zpC194] zpC200 zpP1 1 zpA200 [] 3000 = true := by decide +kernel
theorem zpT201 : zcheck zpZ zpRS zpMT [zpC200] zpC201 zpP1 1 zpA201 [] 3000 = true := by decide +kernel
theorem zpT202 : zcheck zpZ zpRS zpMT [zpC201] zpC202 zpP1 1 zpA202 [] 3000 = true := by decide +kernel
theorem zpT203 : zcheck zpZ zpRS zpMT [zpC50, zpC202] zpC203 zpP1 1 zpA203 [] 3000 = true := by decide +kernel
theorem zpT204 : zcheck zpZ zpRS zpMT [zpC50, zpC148] zpC204 zpP1 1 zpA204 [] 3000 = true := by decide +kernel
theorem zpT205 : zcheck zpZ zpRS zpMT [zpC149, zpC175, zpC180, zpC190, zpC198, zpC199, zpC203, zpC204] zpC205 zpP1 1 zpA205 [] 3000 = true := by decide +kernel
theorem zpT206 : zcheck zpZ zpRS zpMT [zpC205] zpC206 zpP1 1 zpA206 [] 3000 = true := by decide +kernel
theorem zpT207 : zcheck zpZ zpRS zpMT [zpC50, zpC206] zpC207 zpP1 1 zpA207 [] 3000 = true := by decide +kernel
theorem zpT208 : zcheck zpZ zpRS zpMT [zpC207] zpC208 zpP1 1 zpA208 [] 3000 = true := by decide +kernel
theorem zpT209 : zcheck zpZ zpRS zpMT [zpC208] zpC209 zpP1 1 zpA209 [] 3000 = true := by decide +kernel
theorem zpT210 : zcheck zpZ zpRS zpMT [zpC50, zpC209] zpC210 zpP1 1 zpA210 [] 3000 = true := by decide +kernel
theorem zpT211 : zcheck zpZ zpRS zpMT [zpC50, zpC186] zpC211 zpP1 1 zpA211 [] 3000 = true := by decide +kernel
theorem zpT212 : zcheck zpZ zpRS zpMT [zpC50, zpC186] zpC212 zpP1 1 zpA212 [] 3000 = true := by decide +kernel
theorem zpT213 : zcheck zpZ zpRS zpMT [zpC50, zpC171] zpC213 zpP1 1 zpA213 [] 3000 = true := by decide +kernel
theorem zpT214 : zcheck zpZ zpRS zpMT [] zpC214 zpP1 1 zpA214 [] 3000 = true := by decide +kernel
theorem zpT215 : zcheck zpZ zpRS zpMT [zpC50, zpC214] zpC215 zpP1 1 zpA215 [] 3000 = true := by decide +kernel
theorem zpT216 : zcheck zpZ zpRS zpMT [zpC215] zpC216 zpP1 1 zpA216 [] 3000 = true := by decide +kernel
theorem zpT217 : zcheck zpZ zpRS zpMT [zpC216] zpC217 zpP1 1 zpA217 [] 3000 = true := by decide +kernel
theorem zpT218 : zcheck zpZ zpRS zpMT [zpC50, zpC217] zpC218 zpP1 1 zpA218 [] 3000 = true := by decide +kernel
theorem zpT219 : zcheck zpZ zpRS zpMT [zpC218] zpC219 zpP1 1 zpA219 [] 3000 = true := by decide +kernel
theorem zpT220 : zcheck zpZ zpRS zpMT [zpC219] zpC220 zpP1 1 zpA220 [] 3000 = true := by decide +kernel
theorem zpT221 : zcheck zpZ zpRS zpMT [zpC50, zpC220] zpC221 zpP1 1 zpA221 [] 3000 = true := by decide +kernel
theorem zpT222 : zcheck zpZ zpRS zpMT [zpC50, zpC171] zpC222 zpP1 1 zpA222 [] 3000 = true := by decide +kernel
theorem zpT223 : zcheck zpZ zpRS zpMT [zpC50, zpC217] zpC223 zpP1 1 zpA223 [] 3000 = true := by decide +kernel
theorem zpT224 : zcheck zpZ zpRS zpMT [zpC223] zpC224 zpP1 1 zpA224 [] 3000 = true := by decide +kernel
theorem zpT225 : zcheck zpZ zpRS zpMT [zpC224] zpC225 zpP1 1 zpA225 [] 3000 = true := by decide +kernel
theorem zpT226 : zcheck zpZ zpRS zpMT [zpC50, zpC225] zpC226 zpP1 1 zpA226 [] 3000 = true := by decide +kernel
theorem zpT227 : zcheck zpZ zpRS zpMT [zpC50, zpC171] zpC227 zpP1 1 zpA227 [] 3000 = true := by decide +kernel
theorem zpT228 : zcheck zpZ zpRS zpMT [zpC172, zpC195, zpC200, zpC213, zpC221, zpC222, zpC226, zpC227] zpC228 zpP1 1 zpA228 [] 3000 = true := by decide +kernel
theorem zpT229 : zcheck zpZ zpRS zpMT [zpC228] zpC229 zpP1 1 zpA229 [] 3000 = true := by decide +kernel
theorem zpT230 : zcheck zpZ zpRS zpMT [zpC50, zpC229] zpC230 zpP1 1 zpA230 [] 3000 = true := by decide +kernel
theorem zpT231 : zcheck zpZ zpRS zpMT [zpC230] zpC231 zpP1 1 zpA231 [] 3000 = true := by decide +kernel
theorem zpT232 : zcheck zpZ zpRS zpMT [zpC231] zpC232 zpP1 1 zpA232 [] 3000 = true := by decide +kernel
theorem zpT233 : zcheck zpZ zpRS zpMT [zpC50, zpC232] zpC233 zpP1 1 zpA233 [] 3000 = true := by decide +kernel
theorem zpT234 : zcheck zpZ zpRS zpMT [zpC233] zpC234 zpP1 1 zpA234 [] 3000 = true := by decide +kernel
theorem zpT235 : zcheck zpZ zpRS zpMT [] zpC235 zpP1 1 zpA235 [] 3000 = true := by decide +kernel
theorem zpT236 : zcheck zpZ zpRS zpMT [zpC50, zpC235] zpC236 zpP1 1 zpA236 [] 3000 = true := by decide +kernel
theorem zpT237 : zcheck zpZ zpRS zpMT [zpC50, zpC235] zpC237 zpP1 1 zpA237 [] 3000 = true := by decide +kernel
theorem zpT238 : zcheck zpZ zpRS zpMT [] zpC238 zpP1 1 zpA238 [] 3000 = true := by decide +kernel
theorem zpT239 : zcheck zpZ zpRS zpMT [zpC50, zpC238] zpC239 zpP1 1 zpA239 [] 3000 = true := by decide +kernel
