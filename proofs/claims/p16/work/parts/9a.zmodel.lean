/-! MAKING: the reference, printed by wip/p2/gen98.py -/
theorem zmay_ok : ∀ j : Nat, j < 53 → ([(0, 0), (0, 0), (0, 0), (0, 0), (0, 0), (0, 0), (0, 0), (0, 0), (0, 0), (0, 0), (0, 0), (0, 0), (0, 0), (0, 0), (0, 0), (0, 0), (0, 0), (0, 0), (0, 0), (0, 0), (0, 0), (0, 0), (0, 0), (0, 0), (0, 0), (0, 0), (0, 0), (0, 0), (0, 0), (0, 0), (0, 0), (0, 0), (0, 0), (0, 0), (0, 0), (0, 0), (0, 0), (0, 0), (0, 0), (0, 0), (0, 1), (0, 1), (0, 1), (0, 1), (0, 1), (0, 1), (0, 10), (0, 10), (0, 10), (0, 10), (0, 10), (0, 10), (0, 0)] : List zMV)[j]? = some (0, if 40 ≤ j ∧ j < 46 then (1 : Int) else if 46 ≤ j ∧ j < 52 then 10 else 0) := by decide +kernel
set_option maxRecDepth 16000 in
theorem zc_MainModel {l : Launch} : zCt l zpTs zpcl zpRO2 (⟨"PushedInModel", "<init>", "()V"⟩ : MethodName) prog_14_method_2_code 2 1 60 34 1372 0 12 5 [(0, 0), (0, 0), (0, 0), (0, 0), (1, 0), (1, 0), (1, 0), (0, 0), (0, 0), (0, 0), (1, 0), (1, 0), (0, 0), (1, 0), (0, 0), (1, 0), (1, 0), (1, 0), (1, 0), (1, 0), (1, 0), (0, 0), (1, 0), (0, 0), (0, 0), (0, 0), (0, 0), (0, 0), (0, 0), (0, 0), (0, 0), (0, 0), (0, 0), (0, 0), (0, 0), (0, 0), (1, 0), (1, 0), (1, 0), (0, 0), (0, 0), (0, 0), (0, 0), (0, 0), (0, 0), (0, 0), (1, 0), (1, 0), (1, 0), (0, 0), (0, 0), (0, 0), (0, 0)] [(3, 0), (3, 1), (3, 2), (3, 3), (1, 0), (1, 0), (1, 0), (3, 4), (3, 5), (3, 6), (1, 0), (1, 0), (3, 7), (1, 0), (3, 8), (1, (-1)), (1, 0), (1, 0), (1, 0), (1, 0), (1, 0), (3, 9), (1, 0), (3, 10), (3, 11), (3, 12), (3, 13), (3, 14), (3, 15), (3, 16), (3, 17), (3, 18), (3, 19), (3, 20), (3, 21), (3, 22), (1, 0), (1, 0), (1, 0), (3, 23), (3, 24), (3, 25), (3, 26), (3, 27), (3, 28), (3, 29), (1, 0), (1, 0), (1, 0), (3, 30), (3, 31), (3, 32), (3, 33)] [(7, 0, 53, [(0, 0), (0, 0), (0, 0), (0, 0), (0, 0), (0, 0), (0, 0), (0, 0), (0, 0), (0, 0), (0, 0), (0, 0), (0, 0), (0, 0), (0, 0), (0, 0), (0, 0), (0, 0), (0, 0), (0, 0), (0, 0), (0, 0), (0, 0), (0, 0), (0, 0), (0, 0), (0, 0), (0, 0), (0, 0), (0, 0), (0, 0), (0, 0), (0, 0), (0, 0), (0, 0), (0, 0), (0, 0), (0, 0), (0, 0), (0, 0), (0, 1), (0, 1), (0, 1), (0, 1), (0, 1), (0, 1), (0, 10), (0, 10), (0, 10), (0, 10), (0, 10), (0, 10), (0, 0)]), (1, 0, 40, [(0, 0), (0, 0)]), (1, 0, 40, [(0, 0), (0, 0)]), (1, 0, 40, [(0, 0), (0, 0)]), (1, 0, 12, [(0, 0), (0, 0)]), (1, 0, 12, [(0, 0), (0, 0)]), (1, 0, 12, [(0, 0), (0, 0)]), (1, 0, 60, [(0, 0), (0, 0)]), (1, 0, 60, [(0, 0), (0, 0)]), (1, 0, 8, [(0, 0), (0, 0)]), (1, 0, 40, [(0, 0), (0, 0)]), (1, 0, 40, [(0, 0), (0, 0)]), (1, 0, 40, [(0, 0), (0, 0)]), (1, 0, 40, [(0, 0), (0, 0)]), (1, 0, 40, [(0, 0), (0, 0)]), (1, 0, 40, [(0, 0), (0, 0)]), (1, 0, 40, [(0, 0), (0, 0)]), (1, 0, 40, [(0, 0), (0, 0)]), (1, 0, 7, [(0, 0), (0, 0)]), (1, 0, 40, [(0, 0), (0, 0)]), (1, 0, 40, [(0, 0), (0, 0)]), (1, 0, 6, [(0, 0), (0, 0)]), (1, 0, 6, [(0, 0), (0, 0)]), (1, 0, 20, [(0, 0), (0, 0)]), (1, 0, 20, [(0, 0), (0, 0)]), (1, 0, 20, [(0, 0), (0, 0)]), (1, 0, 20, [(0, 0), (0, 0)]), (1, 0, 40, [(0, 0), (0, 0)]), (1, 0, 40, [(0, 0), (0, 0)]), (1, 0, 24, [(0, 0), (0, 0)]), (1, 0, 6, [(0, (-1)), (0, (-1))]), (1, 0, 6, [(0, 0), (0, 0)]), (2, 2, 360, []), (2, 2, 60, [])] [] := by
  refine zct_of (by decide +kernel) (by decide) ?_
  intro p e R s m args below meth c D tys A ad ws0 q a na aa ls Q hx hb hnm hml hown hts hro hrm hA hty hl hK hP hD hM hret
  obtain ⟨hr1, hr2, hr3, hr4⟩ := hrm
  obtain ⟨htn, cI, cB, cL, hcI, hcB, hcL⟩ := hty
  have hS : va_S A s.heap s.heap [] := va_S.rf
  have d0 : decode prog_14_method_2_code 0 = .ok (.aload_n 0, 1) := by decide +kernel
  have d1 : decode prog_14_method_2_code 1 = .ok (.invokespecial 1, 3) := by decide +kernel
  have d4 : decode prog_14_method_2_code 4 = .ok (.aload_n 0, 1) := by decide +kernel
  have d5 : decode prog_14_method_2_code 5 = .ok (.bipush 53, 2) := by decide +kernel
  have d7 : decode prog_14_method_2_code 7 = .ok (.newarray .int, 2) := by decide +kernel
  have d9 : decode prog_14_method_2_code 9 = .ok (.putfield 7, 3) := by decide +kernel
  have d12 : decode prog_14_method_2_code 12 = .ok (.aload_n 0, 1) := by decide +kernel
  have d13 : decode prog_14_method_2_code 13 = .ok (.bipush 40, 2) := by decide +kernel
  have d15 : decode prog_14_method_2_code 15 = .ok (.newarray .int, 2) := by decide +kernel
  have d17 : decode prog_14_method_2_code 17 = .ok (.putfield 13, 3) := by decide +kernel
  have d20 : decode prog_14_method_2_code 20 = .ok (.aload_n 0, 1) := by decide +kernel
  have d21 : decode prog_14_method_2_code 21 = .ok (.bipush 40, 2) := by decide +kernel
  have d23 : decode prog_14_method_2_code 23 = .ok (.newarray .int, 2) := by decide +kernel
  have d25 : decode prog_14_method_2_code 25 = .ok (.putfield 16, 3) := by decide +kernel
  have d28 : decode prog_14_method_2_code 28 = .ok (.aload_n 0, 1) := by decide +kernel
  have d29 : decode prog_14_method_2_code 29 = .ok (.bipush 40, 2) := by decide +kernel
  have d31 : decode prog_14_method_2_code 31 = .ok (.newarray .int, 2) := by decide +kernel
  have d33 : decode prog_14_method_2_code 33 = .ok (.putfield 19, 3) := by decide +kernel
  have d36 : decode prog_14_method_2_code 36 = .ok (.aload_n 0, 1) := by decide +kernel
  have d37 : decode prog_14_method_2_code 37 = .ok (.bipush 12, 2) := by decide +kernel
  have d39 : decode prog_14_method_2_code 39 = .ok (.newarray .int, 2) := by decide +kernel
  have d41 : decode prog_14_method_2_code 41 = .ok (.putfield 22, 3) := by decide +kernel
  have d44 : decode prog_14_method_2_code 44 = .ok (.aload_n 0, 1) := by decide +kernel
  have d45 : decode prog_14_method_2_code 45 = .ok (.bipush 12, 2) := by decide +kernel
  have d47 : decode prog_14_method_2_code 47 = .ok (.newarray .int, 2) := by decide +kernel
  have d49 : decode prog_14_method_2_code 49 = .ok (.putfield 25, 3) := by decide +kernel
  have d52 : decode prog_14_method_2_code 52 = .ok (.aload_n 0, 1) := by decide +kernel
  have d53 : decode prog_14_method_2_code 53 = .ok (.bipush 12, 2) := by decide +kernel
  have d55 : decode prog_14_method_2_code 55 = .ok (.newarray .int, 2) := by decide +kernel
  have d57 : decode prog_14_method_2_code 57 = .ok (.putfield 28, 3) := by decide +kernel
  have d60 : decode prog_14_method_2_code 60 = .ok (.aload_n 0, 1) := by decide +kernel
  have d61 : decode prog_14_method_2_code 61 = .ok (.bipush 60, 2) := by decide +kernel
  have d63 : decode prog_14_method_2_code 63 = .ok (.newarray .int, 2) := by decide +kernel
  have d65 : decode prog_14_method_2_code 65 = .ok (.putfield 31, 3) := by decide +kernel
  have d68 : decode prog_14_method_2_code 68 = .ok (.aload_n 0, 1) := by decide +kernel
  have d69 : decode prog_14_method_2_code 69 = .ok (.bipush 60, 2) := by decide +kernel
  have d71 : decode prog_14_method_2_code 71 = .ok (.newarray .int, 2) := by decide +kernel
  have d73 : decode prog_14_method_2_code 73 = .ok (.putfield 34, 3) := by decide +kernel
  have d76 : decode prog_14_method_2_code 76 = .ok (.aload_n 0, 1) := by decide +kernel
  have d77 : decode prog_14_method_2_code 77 = .ok (.bipush 8, 2) := by decide +kernel
  have d79 : decode prog_14_method_2_code 79 = .ok (.newarray .int, 2) := by decide +kernel
  have d81 : decode prog_14_method_2_code 81 = .ok (.putfield 37, 3) := by decide +kernel
  have d84 : decode prog_14_method_2_code 84 = .ok (.aload_n 0, 1) := by decide +kernel
  have d85 : decode prog_14_method_2_code 85 = .ok (.bipush 40, 2) := by decide +kernel
  have d87 : decode prog_14_method_2_code 87 = .ok (.newarray .int, 2) := by decide +kernel
  have d89 : decode prog_14_method_2_code 89 = .ok (.putfield 40, 3) := by decide +kernel
  have d92 : decode prog_14_method_2_code 92 = .ok (.aload_n 0, 1) := by decide +kernel
  have d93 : decode prog_14_method_2_code 93 = .ok (.bipush 40, 2) := by decide +kernel
  have d95 : decode prog_14_method_2_code 95 = .ok (.newarray .int, 2) := by decide +kernel
  have d97 : decode prog_14_method_2_code 97 = .ok (.putfield 43, 3) := by decide +kernel
  have d100 : decode prog_14_method_2_code 100 = .ok (.aload_n 0, 1) := by decide +kernel
  have d101 : decode prog_14_method_2_code 101 = .ok (.bipush 40, 2) := by decide +kernel
  have d103 : decode prog_14_method_2_code 103 = .ok (.newarray .int, 2) := by decide +kernel
  have d105 : decode prog_14_method_2_code 105 = .ok (.putfield 46, 3) := by decide +kernel
  have d108 : decode prog_14_method_2_code 108 = .ok (.aload_n 0, 1) := by decide +kernel
  have d109 : decode prog_14_method_2_code 109 = .ok (.bipush 40, 2) := by decide +kernel
  have d111 : decode prog_14_method_2_code 111 = .ok (.newarray .int, 2) := by decide +kernel
  have d113 : decode prog_14_method_2_code 113 = .ok (.putfield 49, 3) := by decide +kernel
  have d116 : decode prog_14_method_2_code 116 = .ok (.aload_n 0, 1) := by decide +kernel
  have d117 : decode prog_14_method_2_code 117 = .ok (.bipush 40, 2) := by decide +kernel
  have d119 : decode prog_14_method_2_code 119 = .ok (.newarray .int, 2) := by decide +kernel
  have d121 : decode prog_14_method_2_code 121 = .ok (.putfield 52, 3) := by decide +kernel
  have d124 : decode prog_14_method_2_code 124 = .ok (.aload_n 0, 1) := by decide +kernel
  have d125 : decode prog_14_method_2_code 125 = .ok (.bipush 40, 2) := by decide +kernel
  have d127 : decode prog_14_method_2_code 127 = .ok (.newarray .int, 2) := by decide +kernel
  have d129 : decode prog_14_method_2_code 129 = .ok (.putfield 55, 3) := by decide +kernel
  have d132 : decode prog_14_method_2_code 132 = .ok (.aload_n 0, 1) := by decide +kernel
  have d133 : decode prog_14_method_2_code 133 = .ok (.bipush 40, 2) := by decide +kernel
  have d135 : decode prog_14_method_2_code 135 = .ok (.newarray .int, 2) := by decide +kernel
  have d137 : decode prog_14_method_2_code 137 = .ok (.putfield 58, 3) := by decide +kernel
  have d140 : decode prog_14_method_2_code 140 = .ok (.aload_n 0, 1) := by decide +kernel
  have d141 : decode prog_14_method_2_code 141 = .ok (.bipush 40, 2) := by decide +kernel
  have d143 : decode prog_14_method_2_code 143 = .ok (.newarray .int, 2) := by decide +kernel
  have d145 : decode prog_14_method_2_code 145 = .ok (.putfield 61, 3) := by decide +kernel
  have d148 : decode prog_14_method_2_code 148 = .ok (.aload_n 0, 1) := by decide +kernel
  have d149 : decode prog_14_method_2_code 149 = .ok (.bipush 7, 2) := by decide +kernel
  have d151 : decode prog_14_method_2_code 151 = .ok (.newarray .int, 2) := by decide +kernel
  have d153 : decode prog_14_method_2_code 153 = .ok (.putfield 64, 3) := by decide +kernel
  have d156 : decode prog_14_method_2_code 156 = .ok (.aload_n 0, 1) := by decide +kernel
  have d157 : decode prog_14_method_2_code 157 = .ok (.bipush 40, 2) := by decide +kernel
  have d159 : decode prog_14_method_2_code 159 = .ok (.newarray .int, 2) := by decide +kernel
  have d161 : decode prog_14_method_2_code 161 = .ok (.putfield 67, 3) := by decide +kernel
  have d164 : decode prog_14_method_2_code 164 = .ok (.aload_n 0, 1) := by decide +kernel
  have d165 : decode prog_14_method_2_code 165 = .ok (.bipush 40, 2) := by decide +kernel
  have d167 : decode prog_14_method_2_code 167 = .ok (.newarray .int, 2) := by decide +kernel
  have d169 : decode prog_14_method_2_code 169 = .ok (.putfield 70, 3) := by decide +kernel
  have d172 : decode prog_14_method_2_code 172 = .ok (.aload_n 0, 1) := by decide +kernel
  have d173 : decode prog_14_method_2_code 173 = .ok (.bipush 6, 2) := by decide +kernel
  have d175 : decode prog_14_method_2_code 175 = .ok (.newarray .int, 2) := by decide +kernel
  have d177 : decode prog_14_method_2_code 177 = .ok (.putfield 73, 3) := by decide +kernel
  have d180 : decode prog_14_method_2_code 180 = .ok (.aload_n 0, 1) := by decide +kernel
  have d181 : decode prog_14_method_2_code 181 = .ok (.bipush 6, 2) := by decide +kernel
  have d183 : decode prog_14_method_2_code 183 = .ok (.newarray .int, 2) := by decide +kernel
  have d185 : decode prog_14_method_2_code 185 = .ok (.putfield 76, 3) := by decide +kernel
  have d188 : decode prog_14_method_2_code 188 = .ok (.aload_n 0, 1) := by decide +kernel
  have d189 : decode prog_14_method_2_code 189 = .ok (.bipush 20, 2) := by decide +kernel
  have d191 : decode prog_14_method_2_code 191 = .ok (.newarray .int, 2) := by decide +kernel
  have d193 : decode prog_14_method_2_code 193 = .ok (.putfield 79, 3) := by decide +kernel
  have d196 : decode prog_14_method_2_code 196 = .ok (.aload_n 0, 1) := by decide +kernel
  have d197 : decode prog_14_method_2_code 197 = .ok (.bipush 20, 2) := by decide +kernel
  have d199 : decode prog_14_method_2_code 199 = .ok (.newarray .int, 2) := by decide +kernel
  have d201 : decode prog_14_method_2_code 201 = .ok (.putfield 82, 3) := by decide +kernel
  have d204 : decode prog_14_method_2_code 204 = .ok (.aload_n 0, 1) := by decide +kernel
  have d205 : decode prog_14_method_2_code 205 = .ok (.bipush 20, 2) := by decide +kernel
  have d207 : decode prog_14_method_2_code 207 = .ok (.newarray .int, 2) := by decide +kernel
  have d209 : decode prog_14_method_2_code 209 = .ok (.putfield 85, 3) := by decide +kernel
  have d212 : decode prog_14_method_2_code 212 = .ok (.aload_n 0, 1) := by decide +kernel
  have d213 : decode prog_14_method_2_code 213 = .ok (.bipush 20, 2) := by decide +kernel
  have d215 : decode prog_14_method_2_code 215 = .ok (.newarray .int, 2) := by decide +kernel
  have d217 : decode prog_14_method_2_code 217 = .ok (.putfield 88, 3) := by decide +kernel
  have d220 : decode prog_14_method_2_code 220 = .ok (.aload_n 0, 1) := by decide +kernel
  have d221 : decode prog_14_method_2_code 221 = .ok (.bipush 40, 2) := by decide +kernel
  have d223 : decode prog_14_method_2_code 223 = .ok (.newarray .int, 2) := by decide +kernel
  have d225 : decode prog_14_method_2_code 225 = .ok (.putfield 91, 3) := by decide +kernel
  have d228 : decode prog_14_method_2_code 228 = .ok (.aload_n 0, 1) := by decide +kernel
  have d229 : decode prog_14_method_2_code 229 = .ok (.bipush 40, 2) := by decide +kernel
  have d231 : decode prog_14_method_2_code 231 = .ok (.newarray .int, 2) := by decide +kernel
  have d233 : decode prog_14_method_2_code 233 = .ok (.putfield 94, 3) := by decide +kernel
  have d236 : decode prog_14_method_2_code 236 = .ok (.aload_n 0, 1) := by decide +kernel
  have d237 : decode prog_14_method_2_code 237 = .ok (.bipush 24, 2) := by decide +kernel
  have d239 : decode prog_14_method_2_code 239 = .ok (.newarray .int, 2) := by decide +kernel
  have d241 : decode prog_14_method_2_code 241 = .ok (.putfield 97, 3) := by decide +kernel
  have d244 : decode prog_14_method_2_code 244 = .ok (.aload_n 0, 1) := by decide +kernel
  have d245 : decode prog_14_method_2_code 245 = .ok (.bipush 6, 2) := by decide +kernel
  have d247 : decode prog_14_method_2_code 247 = .ok (.newarray .int, 2) := by decide +kernel
  have d249 : decode prog_14_method_2_code 249 = .ok (.putfield 100, 3) := by decide +kernel
  have d252 : decode prog_14_method_2_code 252 = .ok (.aload_n 0, 1) := by decide +kernel
  have d253 : decode prog_14_method_2_code 253 = .ok (.bipush 6, 2) := by decide +kernel
  have d255 : decode prog_14_method_2_code 255 = .ok (.newarray .int, 2) := by decide +kernel
  have d257 : decode prog_14_method_2_code 257 = .ok (.putfield 103, 3) := by decide +kernel
  have d260 : decode prog_14_method_2_code 260 = .ok (.aload_n 0, 1) := by decide +kernel
  have d261 : decode prog_14_method_2_code 261 = .ok (.sipush 360, 3) := by decide +kernel
  have d264 : decode prog_14_method_2_code 264 = .ok (.newarray .long, 2) := by decide +kernel
  have d266 : decode prog_14_method_2_code 266 = .ok (.putfield 106, 3) := by decide +kernel
  have d269 : decode prog_14_method_2_code 269 = .ok (.aload_n 0, 1) := by decide +kernel
  have d270 : decode prog_14_method_2_code 270 = .ok (.bipush 60, 2) := by decide +kernel
  have d272 : decode prog_14_method_2_code 272 = .ok (.newarray .long, 2) := by decide +kernel
  have d274 : decode prog_14_method_2_code 274 = .ok (.putfield 110, 3) := by decide +kernel
  have d277 : decode prog_14_method_2_code 277 = .ok (.iconst 0, 1) := by decide +kernel
  have d278 : decode prog_14_method_2_code 278 = .ok (.istore_n 1, 1) := by decide +kernel
  have d279 : decode prog_14_method_2_code 279 = .ok (.iload_n 1, 1) := by decide +kernel
  have d280 : decode prog_14_method_2_code 280 = .ok (.bipush 6, 2) := by decide +kernel
  have d282 : decode prog_14_method_2_code 282 = .ok (.if_icmp .ge 16, 3) := by decide +kernel
  have d285 : decode prog_14_method_2_code 285 = .ok (.aload_n 0, 1) := by decide +kernel
  have d286 : decode prog_14_method_2_code 286 = .ok (.getfield 100, 3) := by decide +kernel
  have d289 : decode prog_14_method_2_code 289 = .ok (.iload_n 1, 1) := by decide +kernel
  have d290 : decode prog_14_method_2_code 290 = .ok (.iconst (-1), 1) := by decide +kernel
  have d291 : decode prog_14_method_2_code 291 = .ok (.iastore, 1) := by decide +kernel
  have d292 : decode prog_14_method_2_code 292 = .ok (.iinc 1 1, 3) := by decide +kernel
  have d295 : decode prog_14_method_2_code 295 = .ok (.goto (-16), 3) := by decide +kernel
  have d298 : decode prog_14_method_2_code 298 = .ok (.iconst 0, 1) := by decide +kernel
  have d299 : decode prog_14_method_2_code 299 = .ok (.istore_n 1, 1) := by decide +kernel
  have d300 : decode prog_14_method_2_code 300 = .ok (.iload_n 1, 1) := by decide +kernel
  have d301 : decode prog_14_method_2_code 301 = .ok (.bipush 6, 2) := by decide +kernel
  have d303 : decode prog_14_method_2_code 303 = .ok (.if_icmp .ge 30, 3) := by decide +kernel
  have d306 : decode prog_14_method_2_code 306 = .ok (.aload_n 0, 1) := by decide +kernel
  have d307 : decode prog_14_method_2_code 307 = .ok (.getfield 7, 3) := by decide +kernel
  have d310 : decode prog_14_method_2_code 310 = .ok (.bipush 40, 2) := by decide +kernel
  have d312 : decode prog_14_method_2_code 312 = .ok (.iload_n 1, 1) := by decide +kernel
  have d313 : decode prog_14_method_2_code 313 = .ok (.iadd, 1) := by decide +kernel
  have d314 : decode prog_14_method_2_code 314 = .ok (.iconst 1, 1) := by decide +kernel
  have d315 : decode prog_14_method_2_code 315 = .ok (.iastore, 1) := by decide +kernel
  have d316 : decode prog_14_method_2_code 316 = .ok (.aload_n 0, 1) := by decide +kernel
  have d317 : decode prog_14_method_2_code 317 = .ok (.getfield 7, 3) := by decide +kernel
  have d320 : decode prog_14_method_2_code 320 = .ok (.bipush 46, 2) := by decide +kernel
  have d322 : decode prog_14_method_2_code 322 = .ok (.iload_n 1, 1) := by decide +kernel
  have d323 : decode prog_14_method_2_code 323 = .ok (.iadd, 1) := by decide +kernel
  have d324 : decode prog_14_method_2_code 324 = .ok (.bipush 10, 2) := by decide +kernel
  have d326 : decode prog_14_method_2_code 326 = .ok (.iastore, 1) := by decide +kernel
  have d327 : decode prog_14_method_2_code 327 = .ok (.iinc 1 1, 3) := by decide +kernel
  have d330 : decode prog_14_method_2_code 330 = .ok (.goto (-30), 3) := by decide +kernel
  have d333 : decode prog_14_method_2_code 333 = .ok (.aload_n 0, 1) := by decide +kernel
  have d334 : decode prog_14_method_2_code 334 = .ok (.iconst (-1), 1) := by decide +kernel
  have d335 : decode prog_14_method_2_code 335 = .ok (.putfield 113, 3) := by decide +kernel
  have d338 : decode prog_14_method_2_code 338 = .ok (.return_, 1) := by decide +kernel
  refine lv_aload_n hx hb d0 rfl (lv_at hl 0 rfl) ?_
  refine zn_obj hx hb hml hown hts ⟨(zmT5 (i := 131) rfl rfl), (zmT1 (i := 28) rfl rfl), (zmT1 (i := 29) rfl rfl)⟩ hl.1 ⟨by omega, by omega⟩ (Nat.le_of_ble_eq_true rfl) d1 ?_
  refine lv_aload_n hx hb d4 rfl (lv_at hl 0 rfl) ?_
  refine lv_bipush hx hb d5 rfl ?_
  refine zn_newI (N' := 53) hx hb (hts _ (zmT1 (i := 129) rfl rfl)) hK hP hD hS hA hcI hM (by decide) (by decide) (by decide) (by omega) (by omega) d7 (fun r1 H1 ws1 hP1 hD1 hS1 hM1 => ?_)
  refine zn_put (V := (3, 0)) (j := 0) hx hb hts hown hK hP1 hD1 hS1 rfl zpU12 (by decide) (zmT5 (i := 132) rfl rfl) (Or.inr ⟨rfl, hnm, rfl⟩) hM1 rfl ⟨Nat.le_of_ble_eq_true rfl, rfl⟩ rfl rfl d9 (fun H2 locs2 ws2 hP2 hD2 hS2 hM2 => ?_)
  refine lv_aload_n hx hb d12 rfl (lv_at hl 0 rfl) ?_
  refine lv_bipush hx hb d13 rfl ?_
  refine zn_newI (N' := 40) hx hb (hts _ (zmT1 (i := 129) rfl rfl)) hK hP2 hD2 hS2 hA hcI hM2 (by decide) (by decide) (by decide) (by omega) (by omega) d15 (fun r3 H3 ws3 hP3 hD3 hS3 hM3 => ?_)
  refine zn_put (V := (3, 1)) (j := 1) hx hb hts hown hK hP3 hD3 hS3 rfl zpU12 (by decide) (zmT5 (i := 133) rfl rfl) (Or.inr ⟨rfl, hnm, rfl⟩) hM3 rfl ⟨Nat.le_of_ble_eq_true rfl, rfl⟩ rfl rfl d17 (fun H4 locs4 ws4 hP4 hD4 hS4 hM4 => ?_)
  refine lv_aload_n hx hb d20 rfl (lv_at hl 0 rfl) ?_
  refine lv_bipush hx hb d21 rfl ?_
  refine zn_newI (N' := 40) hx hb (hts _ (zmT1 (i := 129) rfl rfl)) hK hP4 hD4 hS4 hA hcI hM4 (by decide) (by decide) (by decide) (by omega) (by omega) d23 (fun r5 H5 ws5 hP5 hD5 hS5 hM5 => ?_)
  refine zn_put (V := (3, 2)) (j := 2) hx hb hts hown hK hP5 hD5 hS5 rfl zpU12 (by decide) (zmT5 (i := 134) rfl rfl) (Or.inr ⟨rfl, hnm, rfl⟩) hM5 rfl ⟨Nat.le_of_ble_eq_true rfl, rfl⟩ rfl rfl d25 (fun H6 locs6 ws6 hP6 hD6 hS6 hM6 => ?_)
  refine lv_aload_n hx hb d28 rfl (lv_at hl 0 rfl) ?_
  refine lv_bipush hx hb d29 rfl ?_
  refine zn_newI (N' := 40) hx hb (hts _ (zmT1 (i := 129) rfl rfl)) hK hP6 hD6 hS6 hA hcI hM6 (by decide) (by decide) (by decide) (by omega) (by omega) d31 (fun r7 H7 ws7 hP7 hD7 hS7 hM7 => ?_)
  refine zn_put (V := (3, 3)) (j := 3) hx hb hts hown hK hP7 hD7 hS7 rfl zpU12 (by decide) (zmT5 (i := 135) rfl rfl) (Or.inr ⟨rfl, hnm, rfl⟩) hM7 rfl ⟨Nat.le_of_ble_eq_true rfl, rfl⟩ rfl rfl d33 (fun H8 locs8 ws8 hP8 hD8 hS8 hM8 => ?_)
  refine lv_aload_n hx hb d36 rfl (lv_at hl 0 rfl) ?_
  refine lv_bipush hx hb d37 rfl ?_
  refine zn_newI (N' := 12) hx hb (hts _ (zmT1 (i := 129) rfl rfl)) hK hP8 hD8 hS8 hA hcI hM8 (by decide) (by decide) (by decide) (by omega) (by omega) d39 (fun r9 H9 ws9 hP9 hD9 hS9 hM9 => ?_)
  refine zn_put (V := (3, 4)) (j := 7) hx hb hts hown hK hP9 hD9 hS9 rfl zpU12 (by decide) (zmT5 (i := 139) rfl rfl) (Or.inr ⟨rfl, hnm, rfl⟩) hM9 rfl ⟨Nat.le_of_ble_eq_true rfl, rfl⟩ rfl rfl d41 (fun H10 locs10 ws10 hP10 hD10 hS10 hM10 => ?_)
  refine lv_aload_n hx hb d44 rfl (lv_at hl 0 rfl) ?_
  refine lv_bipush hx hb d45 rfl ?_
  refine zn_newI (N' := 12) hx hb (hts _ (zmT1 (i := 129) rfl rfl)) hK hP10 hD10 hS10 hA hcI hM10 (by decide) (by decide) (by decide) (by omega) (by omega) d47 (fun r11 H11 ws11 hP11 hD11 hS11 hM11 => ?_)
  refine zn_put (V := (3, 5)) (j := 8) hx hb hts hown hK hP11 hD11 hS11 rfl zpU12 (by decide) (zmT5 (i := 140) rfl rfl) (Or.inr ⟨rfl, hnm, rfl⟩) hM11 rfl ⟨Nat.le_of_ble_eq_true rfl, rfl⟩ rfl rfl d49 (fun H12 locs12 ws12 hP12 hD12 hS12 hM12 => ?_)
  refine lv_aload_n hx hb d52 rfl (lv_at hl 0 rfl) ?_
  refine lv_bipush hx hb d53 rfl ?_
  refine zn_newI (N' := 12) hx hb (hts _ (zmT1 (i := 129) rfl rfl)) hK hP12 hD12 hS12 hA hcI hM12 (by decide) (by decide) (by decide) (by omega) (by omega) d55 (fun r13 H13 ws13 hP13 hD13 hS13 hM13 => ?_)
  refine zn_put (V := (3, 6)) (j := 9) hx hb hts hown hK hP13 hD13 hS13 rfl zpU12 (by decide) (zmT5 (i := 141) rfl rfl) (Or.inr ⟨rfl, hnm, rfl⟩) hM13 rfl ⟨Nat.le_of_ble_eq_true rfl, rfl⟩ rfl rfl d57 (fun H14 locs14 ws14 hP14 hD14 hS14 hM14 => ?_)
  refine lv_aload_n hx hb d60 rfl (lv_at hl 0 rfl) ?_
  refine lv_bipush hx hb d61 rfl ?_
  refine zn_newI (N' := 60) hx hb (hts _ (zmT1 (i := 129) rfl rfl)) hK hP14 hD14 hS14 hA hcI hM14 (by decide) (by decide) (by decide) (by omega) (by omega) d63 (fun r15 H15 ws15 hP15 hD15 hS15 hM15 => ?_)
  refine zn_put (V := (3, 7)) (j := 12) hx hb hts hown hK hP15 hD15 hS15 rfl zpU12 (by decide) (zmT5 (i := 144) rfl rfl) (Or.inr ⟨rfl, hnm, rfl⟩) hM15 rfl ⟨Nat.le_of_ble_eq_true rfl, rfl⟩ rfl rfl d65 (fun H16 locs16 ws16 hP16 hD16 hS16 hM16 => ?_)
  refine lv_aload_n hx hb d68 rfl (lv_at hl 0 rfl) ?_
  refine lv_bipush hx hb d69 rfl ?_
  refine zn_newI (N' := 60) hx hb (hts _ (zmT1 (i := 129) rfl rfl)) hK hP16 hD16 hS16 hA hcI hM16 (by decide) (by decide) (by decide) (by omega) (by omega) d71 (fun r17 H17 ws17 hP17 hD17 hS17 hM17 => ?_)
  refine zn_put (V := (3, 8)) (j := 14) hx hb hts hown hK hP17 hD17 hS17 rfl zpU12 (by decide) (zmT5 (i := 146) rfl rfl) (Or.inr ⟨rfl, hnm, rfl⟩) hM17 rfl ⟨Nat.le_of_ble_eq_true rfl, rfl⟩ rfl rfl d73 (fun H18 locs18 ws18 hP18 hD18 hS18 hM18 => ?_)
  refine lv_aload_n hx hb d76 rfl (lv_at hl 0 rfl) ?_
  refine lv_bipush hx hb d77 rfl ?_
  refine zn_newI (N' := 8) hx hb (hts _ (zmT1 (i := 129) rfl rfl)) hK hP18 hD18 hS18 hA hcI hM18 (by decide) (by decide) (by decide) (by omega) (by omega) d79 (fun r19 H19 ws19 hP19 hD19 hS19 hM19 => ?_)
  refine zn_put (V := (3, 9)) (j := 21) hx hb hts hown hK hP19 hD19 hS19 rfl zpU12 (by decide) (zmT5 (i := 153) rfl rfl) (Or.inr ⟨rfl, hnm, rfl⟩) hM19 rfl ⟨Nat.le_of_ble_eq_true rfl, rfl⟩ rfl rfl d81 (fun H20 locs20 ws20 hP20 hD20 hS20 hM20 => ?_)
  refine lv_aload_n hx hb d84 rfl (lv_at hl 0 rfl) ?_
  refine lv_bipush hx hb d85 rfl ?_
  refine zn_newI (N' := 40) hx hb (hts _ (zmT1 (i := 129) rfl rfl)) hK hP20 hD20 hS20 hA hcI hM20 (by decide) (by decide) (by decide) (by omega) (by omega) d87 (fun r21 H21 ws21 hP21 hD21 hS21 hM21 => ?_)
  refine zn_put (V := (3, 10)) (j := 23) hx hb hts hown hK hP21 hD21 hS21 rfl zpU12 (by decide) (zmT5 (i := 155) rfl rfl) (Or.inr ⟨rfl, hnm, rfl⟩) hM21 rfl ⟨Nat.le_of_ble_eq_true rfl, rfl⟩ rfl rfl d89 (fun H22 locs22 ws22 hP22 hD22 hS22 hM22 => ?_)
  refine lv_aload_n hx hb d92 rfl (lv_at hl 0 rfl) ?_
  refine lv_bipush hx hb d93 rfl ?_
  refine zn_newI (N' := 40) hx hb (hts _ (zmT1 (i := 129) rfl rfl)) hK hP22 hD22 hS22 hA hcI hM22 (by decide) (by decide) (by decide) (by omega) (by omega) d95 (fun r23 H23 ws23 hP23 hD23 hS23 hM23 => ?_)
  refine zn_put (V := (3, 11)) (j := 24) hx hb hts hown hK hP23 hD23 hS23 rfl zpU12 (by decide) (zmT5 (i := 156) rfl rfl) (Or.inr ⟨rfl, hnm, rfl⟩) hM23 rfl ⟨Nat.le_of_ble_eq_true rfl, rfl⟩ rfl rfl d97 (fun H24 locs24 ws24 hP24 hD24 hS24 hM24 => ?_)
  refine lv_aload_n hx hb d100 rfl (lv_at hl 0 rfl) ?_
  refine lv_bipush hx hb d101 rfl ?_
  refine zn_newI (N' := 40) hx hb (hts _ (zmT1 (i := 129) rfl rfl)) hK hP24 hD24 hS24 hA hcI hM24 (by decide) (by decide) (by decide) (by omega) (by omega) d103 (fun r25 H25 ws25 hP25 hD25 hS25 hM25 => ?_)
  refine zn_put (V := (3, 12)) (j := 25) hx hb hts hown hK hP25 hD25 hS25 rfl zpU12 (by decide) (zmT5 (i := 157) rfl rfl) (Or.inr ⟨rfl, hnm, rfl⟩) hM25 rfl ⟨Nat.le_of_ble_eq_true rfl, rfl⟩ rfl rfl d105 (fun H26 locs26 ws26 hP26 hD26 hS26 hM26 => ?_)
  refine lv_aload_n hx hb d108 rfl (lv_at hl 0 rfl) ?_
  refine lv_bipush hx hb d109 rfl ?_
  refine zn_newI (N' := 40) hx hb (hts _ (zmT1 (i := 129) rfl rfl)) hK hP26 hD26 hS26 hA hcI hM26 (by decide) (by decide) (by decide) (by omega) (by omega) d111 (fun r27 H27 ws27 hP27 hD27 hS27 hM27 => ?_)
  refine zn_put (V := (3, 13)) (j := 26) hx hb hts hown hK hP27 hD27 hS27 rfl zpU12 (by decide) (zmT5 (i := 158) rfl rfl) (Or.inr ⟨rfl, hnm, rfl⟩) hM27 rfl ⟨Nat.le_of_ble_eq_true rfl, rfl⟩ rfl rfl d113 (fun H28 locs28 ws28 hP28 hD28 hS28 hM28 => ?_)
  refine lv_aload_n hx hb d116 rfl (lv_at hl 0 rfl) ?_
  refine lv_bipush hx hb d117 rfl ?_
  refine zn_newI (N' := 40) hx hb (hts _ (zmT1 (i := 129) rfl rfl)) hK hP28 hD28 hS28 hA hcI hM28 (by decide) (by decide) (by decide) (by omega) (by omega) d119 (fun r29 H29 ws29 hP29 hD29 hS29 hM29 => ?_)
  refine zn_put (V := (3, 14)) (j := 27) hx hb hts hown hK hP29 hD29 hS29 rfl zpU12 (by decide) (zmT5 (i := 159) rfl rfl) (Or.inr ⟨rfl, hnm, rfl⟩) hM29 rfl ⟨Nat.le_of_ble_eq_true rfl, rfl⟩ rfl rfl d121 (fun H30 locs30 ws30 hP30 hD30 hS30 hM30 => ?_)
  refine lv_aload_n hx hb d124 rfl (lv_at hl 0 rfl) ?_
  refine lv_bipush hx hb d125 rfl ?_
  refine zn_newI (N' := 40) hx hb (hts _ (zmT1 (i := 129) rfl rfl)) hK hP30 hD30 hS30 hA hcI hM30 (by decide) (by decide) (by decide) (by omega) (by omega) d127 (fun r31 H31 ws31 hP31 hD31 hS31 hM31 => ?_)
  refine zn_put (V := (3, 15)) (j := 28) hx hb hts hown hK hP31 hD31 hS31 rfl zpU12 (by decide) (zmT5 (i := 160) rfl rfl) (Or.inr ⟨rfl, hnm, rfl⟩) hM31 rfl ⟨Nat.le_of_ble_eq_true rfl, rfl⟩ rfl rfl d129 (fun H32 locs32 ws32 hP32 hD32 hS32 hM32 => ?_)
  refine lv_aload_n hx hb d132 rfl (lv_at hl 0 rfl) ?_
  refine lv_bipush hx hb d133 rfl ?_
  refine zn_newI (N' := 40) hx hb (hts _ (zmT1 (i := 129) rfl rfl)) hK hP32 hD32 hS32 hA hcI hM32 (by decide) (by decide) (by decide) (by omega) (by omega) d135 (fun r33 H33 ws33 hP33 hD33 hS33 hM33 => ?_)
  refine zn_put (V := (3, 16)) (j := 29) hx hb hts hown hK hP33 hD33 hS33 rfl zpU12 (by decide) (zmT5 (i := 161) rfl rfl) (Or.inr ⟨rfl, hnm, rfl⟩) hM33 rfl ⟨Nat.le_of_ble_eq_true rfl, rfl⟩ rfl rfl d137 (fun H34 locs34 ws34 hP34 hD34 hS34 hM34 => ?_)
  refine lv_aload_n hx hb d140 rfl (lv_at hl 0 rfl) ?_
  refine lv_bipush hx hb d141 rfl ?_
  refine zn_newI (N' := 40) hx hb (hts _ (zmT1 (i := 129) rfl rfl)) hK hP34 hD34 hS34 hA hcI hM34 (by decide) (by decide) (by decide) (by omega) (by omega) d143 (fun r35 H35 ws35 hP35 hD35 hS35 hM35 => ?_)
  refine zn_put (V := (3, 17)) (j := 30) hx hb hts hown hK hP35 hD35 hS35 rfl zpU12 (by decide) (zmT5 (i := 162) rfl rfl) (Or.inr ⟨rfl, hnm, rfl⟩) hM35 rfl ⟨Nat.le_of_ble_eq_true rfl, rfl⟩ rfl rfl d145 (fun H36 locs36 ws36 hP36 hD36 hS36 hM36 => ?_)
  refine lv_aload_n hx hb d148 rfl (lv_at hl 0 rfl) ?_
  refine lv_bipush hx hb d149 rfl ?_
  refine zn_newI (N' := 7) hx hb (hts _ (zmT1 (i := 129) rfl rfl)) hK hP36 hD36 hS36 hA hcI hM36 (by decide) (by decide) (by decide) (by omega) (by omega) d151 (fun r37 H37 ws37 hP37 hD37 hS37 hM37 => ?_)
  refine zn_put (V := (3, 18)) (j := 31) hx hb hts hown hK hP37 hD37 hS37 rfl zpU12 (by decide) (zmT5 (i := 163) rfl rfl) (Or.inr ⟨rfl, hnm, rfl⟩) hM37 rfl ⟨Nat.le_of_ble_eq_true rfl, rfl⟩ rfl rfl d153 (fun H38 locs38 ws38 hP38 hD38 hS38 hM38 => ?_)
  refine lv_aload_n hx hb d156 rfl (lv_at hl 0 rfl) ?_
  refine lv_bipush hx hb d157 rfl ?_
  refine zn_newI (N' := 40) hx hb (hts _ (zmT1 (i := 129) rfl rfl)) hK hP38 hD38 hS38 hA hcI hM38 (by decide) (by decide) (by decide) (by omega) (by omega) d159 (fun r39 H39 ws39 hP39 hD39 hS39 hM39 => ?_)
  refine zn_put (V := (3, 19)) (j := 32) hx hb hts hown hK hP39 hD39 hS39 rfl zpU12 (by decide) (zmT5 (i := 164) rfl rfl) (Or.inr ⟨rfl, hnm, rfl⟩) hM39 rfl ⟨Nat.le_of_ble_eq_true rfl, rfl⟩ rfl rfl d161 (fun H40 locs40 ws40 hP40 hD40 hS40 hM40 => ?_)
  refine lv_aload_n hx hb d164 rfl (lv_at hl 0 rfl) ?_
  refine lv_bipush hx hb d165 rfl ?_
  refine zn_newI (N' := 40) hx hb (hts _ (zmT1 (i := 129) rfl rfl)) hK hP40 hD40 hS40 hA hcI hM40 (by decide) (by decide) (by decide) (by omega) (by omega) d167 (fun r41 H41 ws41 hP41 hD41 hS41 hM41 => ?_)
  refine zn_put (V := (3, 20)) (j := 33) hx hb hts hown hK hP41 hD41 hS41 rfl zpU12 (by decide) (zmT5 (i := 165) rfl rfl) (Or.inr ⟨rfl, hnm, rfl⟩) hM41 rfl ⟨Nat.le_of_ble_eq_true rfl, rfl⟩ rfl rfl d169 (fun H42 locs42 ws42 hP42 hD42 hS42 hM42 => ?_)
  refine lv_aload_n hx hb d172 rfl (lv_at hl 0 rfl) ?_
  refine lv_bipush hx hb d173 rfl ?_
  refine zn_newI (N' := 6) hx hb (hts _ (zmT1 (i := 129) rfl rfl)) hK hP42 hD42 hS42 hA hcI hM42 (by decide) (by decide) (by decide) (by omega) (by omega) d175 (fun r43 H43 ws43 hP43 hD43 hS43 hM43 => ?_)
  refine zn_put (V := (3, 21)) (j := 34) hx hb hts hown hK hP43 hD43 hS43 rfl zpU12 (by decide) (zmT5 (i := 166) rfl rfl) (Or.inr ⟨rfl, hnm, rfl⟩) hM43 rfl ⟨Nat.le_of_ble_eq_true rfl, rfl⟩ rfl rfl d177 (fun H44 locs44 ws44 hP44 hD44 hS44 hM44 => ?_)
  refine lv_aload_n hx hb d180 rfl (lv_at hl 0 rfl) ?_
  refine lv_bipush hx hb d181 rfl ?_
  refine zn_newI (N' := 6) hx hb (hts _ (zmT1 (i := 129) rfl rfl)) hK hP44 hD44 hS44 hA hcI hM44 (by decide) (by decide) (by decide) (by omega) (by omega) d183 (fun r45 H45 ws45 hP45 hD45 hS45 hM45 => ?_)
  refine zn_put (V := (3, 22)) (j := 35) hx hb hts hown hK hP45 hD45 hS45 rfl zpU12 (by decide) (zmT5 (i := 167) rfl rfl) (Or.inr ⟨rfl, hnm, rfl⟩) hM45 rfl ⟨Nat.le_of_ble_eq_true rfl, rfl⟩ rfl rfl d185 (fun H46 locs46 ws46 hP46 hD46 hS46 hM46 => ?_)
  refine lv_aload_n hx hb d188 rfl (lv_at hl 0 rfl) ?_
  refine lv_bipush hx hb d189 rfl ?_
  refine zn_newI (N' := 20) hx hb (hts _ (zmT1 (i := 129) rfl rfl)) hK hP46 hD46 hS46 hA hcI hM46 (by decide) (by decide) (by decide) (by omega) (by omega) d191 (fun r47 H47 ws47 hP47 hD47 hS47 hM47 => ?_)
  refine zn_put (V := (3, 23)) (j := 39) hx hb hts hown hK hP47 hD47 hS47 rfl zpU12 (by decide) (zmT5 (i := 171) rfl rfl) (Or.inr ⟨rfl, hnm, rfl⟩) hM47 rfl ⟨Nat.le_of_ble_eq_true rfl, rfl⟩ rfl rfl d193 (fun H48 locs48 ws48 hP48 hD48 hS48 hM48 => ?_)
  refine lv_aload_n hx hb d196 rfl (lv_at hl 0 rfl) ?_
  refine lv_bipush hx hb d197 rfl ?_
  refine zn_newI (N' := 20) hx hb (hts _ (zmT1 (i := 129) rfl rfl)) hK hP48 hD48 hS48 hA hcI hM48 (by decide) (by decide) (by decide) (by omega) (by omega) d199 (fun r49 H49 ws49 hP49 hD49 hS49 hM49 => ?_)
  refine zn_put (V := (3, 24)) (j := 40) hx hb hts hown hK hP49 hD49 hS49 rfl zpU12 (by decide) (zmT5 (i := 172) rfl rfl) (Or.inr ⟨rfl, hnm, rfl⟩) hM49 rfl ⟨Nat.le_of_ble_eq_true rfl, rfl⟩ rfl rfl d201 (fun H50 locs50 ws50 hP50 hD50 hS50 hM50 => ?_)
  refine lv_aload_n hx hb d204 rfl (lv_at hl 0 rfl) ?_
  refine lv_bipush hx hb d205 rfl ?_
  refine zn_newI (N' := 20) hx hb (hts _ (zmT1 (i := 129) rfl rfl)) hK hP50 hD50 hS50 hA hcI hM50 (by decide) (by decide) (by decide) (by omega) (by omega) d207 (fun r51 H51 ws51 hP51 hD51 hS51 hM51 => ?_)
  refine zn_put (V := (3, 25)) (j := 41) hx hb hts hown hK hP51 hD51 hS51 rfl zpU12 (by decide) (zmT5 (i := 173) rfl rfl) (Or.inr ⟨rfl, hnm, rfl⟩) hM51 rfl ⟨Nat.le_of_ble_eq_true rfl, rfl⟩ rfl rfl d209 (fun H52 locs52 ws52 hP52 hD52 hS52 hM52 => ?_)
  refine lv_aload_n hx hb d212 rfl (lv_at hl 0 rfl) ?_
  refine lv_bipush hx hb d213 rfl ?_
  refine zn_newI (N' := 20) hx hb (hts _ (zmT1 (i := 129) rfl rfl)) hK hP52 hD52 hS52 hA hcI hM52 (by decide) (by decide) (by decide) (by omega) (by omega) d215 (fun r53 H53 ws53 hP53 hD53 hS53 hM53 => ?_)
  refine zn_put (V := (3, 26)) (j := 42) hx hb hts hown hK hP53 hD53 hS53 rfl zpU12 (by decide) (zmT5 (i := 174) rfl rfl) (Or.inr ⟨rfl, hnm, rfl⟩) hM53 rfl ⟨Nat.le_of_ble_eq_true rfl, rfl⟩ rfl rfl d217 (fun H54 locs54 ws54 hP54 hD54 hS54 hM54 => ?_)
  refine lv_aload_n hx hb d220 rfl (lv_at hl 0 rfl) ?_
  refine lv_bipush hx hb d221 rfl ?_
  refine zn_newI (N' := 40) hx hb (hts _ (zmT1 (i := 129) rfl rfl)) hK hP54 hD54 hS54 hA hcI hM54 (by decide) (by decide) (by decide) (by omega) (by omega) d223 (fun r55 H55 ws55 hP55 hD55 hS55 hM55 => ?_)
  refine zn_put (V := (3, 27)) (j := 43) hx hb hts hown hK hP55 hD55 hS55 rfl zpU12 (by decide) (zmT5 (i := 175) rfl rfl) (Or.inr ⟨rfl, hnm, rfl⟩) hM55 rfl ⟨Nat.le_of_ble_eq_true rfl, rfl⟩ rfl rfl d225 (fun H56 locs56 ws56 hP56 hD56 hS56 hM56 => ?_)
  refine lv_aload_n hx hb d228 rfl (lv_at hl 0 rfl) ?_
  refine lv_bipush hx hb d229 rfl ?_
  refine zn_newI (N' := 40) hx hb (hts _ (zmT1 (i := 129) rfl rfl)) hK hP56 hD56 hS56 hA hcI hM56 (by decide) (by decide) (by decide) (by omega) (by omega) d231 (fun r57 H57 ws57 hP57 hD57 hS57 hM57 => ?_)
  refine zn_put (V := (3, 28)) (j := 44) hx hb hts hown hK hP57 hD57 hS57 rfl zpU12 (by decide) (zmT5 (i := 176) rfl rfl) (Or.inr ⟨rfl, hnm, rfl⟩) hM57 rfl ⟨Nat.le_of_ble_eq_true rfl, rfl⟩ rfl rfl d233 (fun H58 locs58 ws58 hP58 hD58 hS58 hM58 => ?_)
  refine lv_aload_n hx hb d236 rfl (lv_at hl 0 rfl) ?_
  refine lv_bipush hx hb d237 rfl ?_
  refine zn_newI (N' := 24) hx hb (hts _ (zmT1 (i := 129) rfl rfl)) hK hP58 hD58 hS58 hA hcI hM58 (by decide) (by decide) (by decide) (by omega) (by omega) d239 (fun r59 H59 ws59 hP59 hD59 hS59 hM59 => ?_)
  refine zn_put (V := (3, 29)) (j := 45) hx hb hts hown hK hP59 hD59 hS59 rfl zpU12 (by decide) (zmT5 (i := 177) rfl rfl) (Or.inr ⟨rfl, hnm, rfl⟩) hM59 rfl ⟨Nat.le_of_ble_eq_true rfl, rfl⟩ rfl rfl d241 (fun H60 locs60 ws60 hP60 hD60 hS60 hM60 => ?_)
  refine lv_aload_n hx hb d244 rfl (lv_at hl 0 rfl) ?_
  refine lv_bipush hx hb d245 rfl ?_
  refine zn_newI (N' := 6) hx hb (hts _ (zmT1 (i := 129) rfl rfl)) hK hP60 hD60 hS60 hA hcI hM60 (by decide) (by decide) (by decide) (by omega) (by omega) d247 (fun r61 H61 ws61 hP61 hD61 hS61 hM61 => ?_)
  refine zn_put (V := (3, 30)) (j := 49) hx hb hts hown hK hP61 hD61 hS61 rfl zpU12 (by decide) (zmT5 (i := 181) rfl rfl) (Or.inr ⟨rfl, hnm, rfl⟩) hM61 rfl ⟨Nat.le_of_ble_eq_true rfl, rfl⟩ rfl rfl d249 (fun H62 locs62 ws62 hP62 hD62 hS62 hM62 => ?_)
  refine lv_aload_n hx hb d252 rfl (lv_at hl 0 rfl) ?_
  refine lv_bipush hx hb d253 rfl ?_
  refine zn_newI (N' := 6) hx hb (hts _ (zmT1 (i := 129) rfl rfl)) hK hP62 hD62 hS62 hA hcI hM62 (by decide) (by decide) (by decide) (by omega) (by omega) d255 (fun r63 H63 ws63 hP63 hD63 hS63 hM63 => ?_)
  refine zn_put (V := (3, 31)) (j := 50) hx hb hts hown hK hP63 hD63 hS63 rfl zpU12 (by decide) (zmT5 (i := 182) rfl rfl) (Or.inr ⟨rfl, hnm, rfl⟩) hM63 rfl ⟨Nat.le_of_ble_eq_true rfl, rfl⟩ rfl rfl d257 (fun H64 locs64 ws64 hP64 hD64 hS64 hM64 => ?_)
  refine lv_aload_n hx hb d260 rfl (lv_at hl 0 rfl) ?_
  refine lv_sipush hx hb d261 rfl ?_
  refine zn_newJ (N' := 360) hx hb (hts _ (zmT2 (i := 168) rfl rfl)) hK hP64 hD64 hS64 hA hcL hM64 (by decide) (by decide) (by decide) (by omega) (by omega) d264 (fun r65 H65 ws65 hP65 hD65 hS65 hM65 => ?_)
  refine zn_put (V := (3, 32)) (j := 51) hx hb hts hown hK hP65 hD65 hS65 rfl zpU12 (by decide) (zmT5 (i := 183) rfl rfl) (Or.inr ⟨rfl, hnm, rfl⟩) hM65 rfl ⟨Nat.le_of_ble_eq_true rfl, rfl⟩ rfl rfl d266 (fun H66 locs66 ws66 hP66 hD66 hS66 hM66 => ?_)
  refine lv_aload_n hx hb d269 rfl (lv_at hl 0 rfl) ?_
  refine lv_bipush hx hb d270 rfl ?_
  refine zn_newJ (N' := 60) hx hb (hts _ (zmT2 (i := 168) rfl rfl)) hK hP66 hD66 hS66 hA hcL hM66 (by decide) (by decide) (by decide) (by omega) (by omega) d272 (fun r67 H67 ws67 hP67 hD67 hS67 hM67 => ?_)
  refine zn_put (V := (3, 33)) (j := 52) hx hb hts hown hK hP67 hD67 hS67 rfl zpU12 (by decide) (zmT5 (i := 184) rfl rfl) (Or.inr ⟨rfl, hnm, rfl⟩) hM67 rfl ⟨Nat.le_of_ble_eq_true rfl, rfl⟩ rfl rfl d274 (fun H68 locs68 ws68 hP68 hD68 hS68 hM68 => ?_)
  have loop2 : ∀ (k : Nat) (i : Int32) (ls : Array Slot) (H : Heap) (locs : List Loc) (ws : va_W) (na : Nat → Nat), (6 - i.toInt).toNat = k → 0 ≤ i.toInt → i.toInt ≤ 6 → lv_has ls 2 [(1, .int i), (0, .ref a)] → va_P D zpcl ws H → va_D A ws → va_S A s.heap H locs → zMW ws0 ws q a na aa tys [(3, 0), (3, 1), (3, 2), (3, 3), (1, 0), (1, 0), (1, 0), (3, 4), (3, 5), (3, 6), (1, 0), (1, 0), (3, 7), (1, 0), (3, 8), (1, 0), (1, 0), (1, 0), (1, 0), (1, 0), (1, 0), (3, 9), (1, 0), (3, 10), (3, 11), (3, 12), (3, 13), (3, 14), (3, 15), (3, 16), (3, 17), (3, 18), (3, 19), (3, 20), (3, 21), (3, 22), (1, 0), (1, 0), (1, 0), (3, 23), (3, 24), (3, 25), (3, 26), (3, 27), (3, 28), (3, 29), (1, 0), (1, 0), (1, 0), (3, 30), (3, 31), (3, 32), (3, 33)] 12 [(1, 0, 53, [(0, 0), (0, 10)]), (1, 0, 40, [(0, 0), (0, 0)]), (1, 0, 40, [(0, 0), (0, 0)]), (1, 0, 40, [(0, 0), (0, 0)]), (1, 0, 12, [(0, 0), (0, 0)]), (1, 0, 12, [(0, 0), (0, 0)]), (1, 0, 12, [(0, 0), (0, 0)]), (1, 0, 60, [(0, 0), (0, 0)]), (1, 0, 60, [(0, 0), (0, 0)]), (1, 0, 8, [(0, 0), (0, 0)]), (1, 0, 40, [(0, 0), (0, 0)]), (1, 0, 40, [(0, 0), (0, 0)]), (1, 0, 40, [(0, 0), (0, 0)]), (1, 0, 40, [(0, 0), (0, 0)]), (1, 0, 40, [(0, 0), (0, 0)]), (1, 0, 40, [(0, 0), (0, 0)]), (1, 0, 40, [(0, 0), (0, 0)]), (1, 0, 40, [(0, 0), (0, 0)]), (1, 0, 7, [(0, 0), (0, 0)]), (1, 0, 40, [(0, 0), (0, 0)]), (1, 0, 40, [(0, 0), (0, 0)]), (1, 0, 6, [(0, 0), (0, 0)]), (1, 0, 6, [(0, 0), (0, 0)]), (1, 0, 20, [(0, 0), (0, 0)]), (1, 0, 20, [(0, 0), (0, 0)]), (1, 0, 20, [(0, 0), (0, 0)]), (1, 0, 20, [(0, 0), (0, 0)]), (1, 0, 40, [(0, 0), (0, 0)]), (1, 0, 40, [(0, 0), (0, 0)]), (1, 0, 24, [(0, 0), (0, 0)]), (1, 0, 6, [(0, (-1)), (0, (-1))]), (1, 0, 6, [(0, 0), (0, 0)]), (2, 2, 360, []), (2, 2, 60, [])] → zArr ws0 ws na 0 53 (fun j x => x = if 40 ≤ j ∧ (j : Int) < 40 + i.toInt then 1 else if 46 ≤ j ∧ (j : Int) < 46 + i.toInt then 10 else 0) → W p l e R s m args below meth c H locs 34 1372 Q (F0 m 300 ls []) := by
    intro k
    induction k using Nat.strongRecOn with
    | ind k ih =>
      intro i ls H locs ws na hk i0 i6 hl hP hD hS hM hX
      refine lv_iload_n hx hb d300 rfl (lv_at hl 0 rfl) ?_
      refine lv_bipush hx hb d301 rfl ?_
      refine lv_icmp_ge hx hb d303 (tgt := 333) (by decide) (fun hge => ?_) (fun hlt => ?_)
      · have i9 : i.toInt = 6 := by have h8 := Int32.le_iff_toInt_le.mp hge; have e6 : ((Int8.ofInt 6).toInt32).toInt = 6 := (by decide); omega
        have hM := hM.exact (k := 0) [(0, 0), (0, 0), (0, 0), (0, 0), (0, 0), (0, 0), (0, 0), (0, 0), (0, 0), (0, 0), (0, 0), (0, 0), (0, 0), (0, 0), (0, 0), (0, 0), (0, 0), (0, 0), (0, 0), (0, 0), (0, 0), (0, 0), (0, 0), (0, 0), (0, 0), (0, 0), (0, 0), (0, 0), (0, 0), (0, 0), (0, 0), (0, 0), (0, 0), (0, 0), (0, 0), (0, 0), (0, 0), (0, 0), (0, 0), (0, 0), (0, 1), (0, 1), (0, 1), (0, 1), (0, 1), (0, 1), (0, 10), (0, 10), (0, 10), (0, 10), (0, 10), (0, 10), (0, 0)] rfl (hX.congr (fun j y hj h e he => by
          rw [zmay_ok j hj] at he
          cases he
          rw [h]
          show _ = if 40 ≤ j ∧ j < 46 then (1 : Int) else if 46 ≤ j ∧ j < 52 then 10 else 0
          by_cases c1 : 40 ≤ j ∧ j < 46
          · rw [if_pos c1, if_pos (by omega)]
          · rw [if_neg c1, if_neg (by omega)]
            by_cases c2 : 46 ≤ j ∧ j < 52
            · rw [if_pos c2, if_pos (by omega)]
            · rw [if_neg c2, if_neg (by omega)]))
        refine lv_aload_n hx hb d333 rfl (lv_at hl 1 rfl) ?_
        refine lv_iconst hx hb d334 rfl ?_
        refine zn_put (V := (1, (-1))) (j := 15) hx hb hts hown hK hP hD hS rfl zpU12 (by decide) (zmT5 (i := 147) rfl rfl) (Or.inl rfl) hM rfl rfl rfl rfl d335 (fun H9 locs9 ws9 hP9 hD9 hS9 hM9 => ?_)
        exact hret 338 _ _ _ _ _ [] d338 rfl (by rw [List.append_nil]; exact hK) hP9 hD9 hS9 (by rw [List.append_nil]; exact hM9)
      · have e6 : ((Int8.ofInt 6).toInt32).toInt = 6 := by decide
        have h6 : i.toInt < 6 := by have := mt Int32.le_iff_toInt_le.mpr hlt; omega
        have h1 : (i + Int32.ofInt 1).toInt = i.toInt + 1 := by
          rw [Int32.toInt_add, show (Int32.ofInt 1).toInt = 1 from rfl, Int.bmod_eq_of_le (by omega) (by omega)]
        refine lv_aload_n hx hb d306 rfl (lv_at hl 1 rfl) ?_
        refine zn_get (j := 0) (k := 0) hx hb hts hown hK hP rfl zpU12 (by decide) (zmT5 (i := 132) rfl rfl) hM rfl d307 ?_
        refine lv_bipush hx hb d310 rfl ?_
        refine lv_iload_n hx hb d312 rfl (lv_at hl 0 rfl) ?_
        refine lv_iadd hx hb d313 ?_
        have hs1 : ((Int8.ofInt 40).toInt32 + i).toInt = 40 + i.toInt := by
          rw [Int32.toInt_add, show ((Int8.ofInt 40).toInt32).toInt = 40 by decide, Int.bmod_eq_of_le (by omega) (by omega)]
        refine lv_iconst hx hb d314 rfl ?_
        refine zn_istE (v := 1) (k := 0) hx hb hK hP hD hS hM rfl (vp_in_iff.mpr ⟨by omega, by omega⟩) (by decide) (by decide) (by decide) d315 (fun H1 locs1 ws1 hP1 hD1 hS1 hM1 hE1 hO1 => ?_)
        refine lv_aload_n hx hb d316 rfl (lv_at hl 1 rfl) ?_
        refine zn_get (j := 0) (k := 0) hx hb hts hown hK hP1 rfl zpU12 (by decide) (zmT5 (i := 132) rfl rfl) hM1 rfl d317 ?_
        refine lv_bipush hx hb d320 rfl ?_
        refine lv_iload_n hx hb d322 rfl (lv_at hl 0 rfl) ?_
        refine lv_iadd hx hb d323 ?_
        have hs2 : ((Int8.ofInt 46).toInt32 + i).toInt = 46 + i.toInt := by
          rw [Int32.toInt_add, show ((Int8.ofInt 46).toInt32).toInt = 46 by decide, Int.bmod_eq_of_le (by omega) (by omega)]
        refine lv_bipush hx hb d324 rfl ?_
        refine zn_istE (v := 10) (k := 0) hx hb hK hP1 hD1 hS1 hM1 rfl (vp_in_iff.mpr ⟨by omega, by omega⟩) (by decide) (by decide) (by decide) d326 (fun H2 locs2 ws2 hP2 hD2 hS2 hM2 hE2 hO2 => ?_)
        refine lv_iinc hx hb d327 hl (k := 0) rfl rfl (by decide) rfl (fun ls3 hl3 => ?_)
        refine lv_goto hx hb d330 (tgt := 300) (by decide) ?_
        exact ih (6 - (i + Int32.ofInt 1).toInt).toNat (by omega) _ ls3 H2 locs2 ws2 na rfl (by omega) (by omega) hl3 hP2 hD2 hS2 hM2 ((hE2 _ (hE1 _ hX)).congr (fun j y _ h => by
          rw [h1]
          rw [hs1, hs2] at h
          by_cases a2 : j = (46 + i.toInt).toNat
          · rw [if_pos a2] at h
            rw [if_neg (by omega), if_pos (by omega)]
            exact h
          · rw [if_neg a2] at h
            by_cases a1 : j = (40 + i.toInt).toNat
            · rw [if_pos a1] at h
              rw [if_pos (by omega)]
              exact h
            · rw [if_neg a1] at h
              rw [h]
              by_cases b1 : 40 ≤ j ∧ (j : Int) < 40 + i.toInt
              · rw [if_pos b1, if_pos (by omega)]
              · rw [if_neg b1]
                by_cases b2 : 46 ≤ j ∧ (j : Int) < 46 + i.toInt
                · rw [if_pos b2, if_neg (by omega), if_pos (by omega)]
                · rw [if_neg b2, if_neg (by omega), if_neg (by omega)]))
  have loop1 : ∀ (k : Nat) (i : Int32) (ls : Array Slot) (H : Heap) (locs : List Loc) (ws : va_W) (na : Nat → Nat), (6 - i.toInt).toNat = k → 0 ≤ i.toInt → i.toInt ≤ 6 → lv_has ls 2 [(1, .int i), (0, .ref a)] → va_P D zpcl ws H → va_D A ws → va_S A s.heap H locs → zMW ws0 ws q a na aa tys [(3, 0), (3, 1), (3, 2), (3, 3), (1, 0), (1, 0), (1, 0), (3, 4), (3, 5), (3, 6), (1, 0), (1, 0), (3, 7), (1, 0), (3, 8), (1, 0), (1, 0), (1, 0), (1, 0), (1, 0), (1, 0), (3, 9), (1, 0), (3, 10), (3, 11), (3, 12), (3, 13), (3, 14), (3, 15), (3, 16), (3, 17), (3, 18), (3, 19), (3, 20), (3, 21), (3, 22), (1, 0), (1, 0), (1, 0), (3, 23), (3, 24), (3, 25), (3, 26), (3, 27), (3, 28), (3, 29), (1, 0), (1, 0), (1, 0), (3, 30), (3, 31), (3, 32), (3, 33)] 12 [(1, 0, 53, [(0, 0), (0, 0)]), (1, 0, 40, [(0, 0), (0, 0)]), (1, 0, 40, [(0, 0), (0, 0)]), (1, 0, 40, [(0, 0), (0, 0)]), (1, 0, 12, [(0, 0), (0, 0)]), (1, 0, 12, [(0, 0), (0, 0)]), (1, 0, 12, [(0, 0), (0, 0)]), (1, 0, 60, [(0, 0), (0, 0)]), (1, 0, 60, [(0, 0), (0, 0)]), (1, 0, 8, [(0, 0), (0, 0)]), (1, 0, 40, [(0, 0), (0, 0)]), (1, 0, 40, [(0, 0), (0, 0)]), (1, 0, 40, [(0, 0), (0, 0)]), (1, 0, 40, [(0, 0), (0, 0)]), (1, 0, 40, [(0, 0), (0, 0)]), (1, 0, 40, [(0, 0), (0, 0)]), (1, 0, 40, [(0, 0), (0, 0)]), (1, 0, 40, [(0, 0), (0, 0)]), (1, 0, 7, [(0, 0), (0, 0)]), (1, 0, 40, [(0, 0), (0, 0)]), (1, 0, 40, [(0, 0), (0, 0)]), (1, 0, 6, [(0, 0), (0, 0)]), (1, 0, 6, [(0, 0), (0, 0)]), (1, 0, 20, [(0, 0), (0, 0)]), (1, 0, 20, [(0, 0), (0, 0)]), (1, 0, 20, [(0, 0), (0, 0)]), (1, 0, 20, [(0, 0), (0, 0)]), (1, 0, 40, [(0, 0), (0, 0)]), (1, 0, 40, [(0, 0), (0, 0)]), (1, 0, 24, [(0, 0), (0, 0)]), (1, 0, 6, [(0, (-1)), (0, 0)]), (1, 0, 6, [(0, 0), (0, 0)]), (2, 2, 360, []), (2, 2, 60, [])] → zFil ws0 ws na 30 6 (-1) i.toInt → W p l e R s m args below meth c H locs 34 1372 Q (F0 m 279 ls []) := by
    intro k
    induction k using Nat.strongRecOn with
    | ind k ih =>
      intro i ls H locs ws na hk i0 i6 hl hP hD hS hM hFl
      refine lv_iload_n hx hb d279 rfl (lv_at hl 0 rfl) ?_
      refine lv_bipush hx hb d280 rfl ?_
      refine lv_icmp_ge hx hb d282 (tgt := 298) (by decide) (fun hge => ?_) (fun hlt => ?_)
      · have hM1 := hM.know (k := 30) (u1 := 0) (u2 := 0) rfl hFl (by have h8 := Int32.le_iff_toInt_le.mp hge; have e6 : ((Int8.ofInt 6).toInt32).toInt = 6 := (by decide); omega)
        have hM2 := hM1.wide (k := 0) (C' := (1, 0, 53, [(0, 0), (0, 10)])) rfl (fun x hx => by
          obtain ⟨cA, f, h1, h2, h3⟩ := hx
          exact ⟨cA, f, h1, h2, fun j hj => ⟨(h3 j hj).1, Int.le_trans (h3 j hj).2 (by decide)⟩⟩)
        refine lv_iconst hx hb d298 rfl ?_
        refine lv_istore_n hx hb d299 rfl hl (by decide) rfl (fun ls3 hl3 => ?_)
        exact loop2 _ 0 ls3 H locs ws na rfl (by decide) (by decide) hl3 hP hD hS hM2 (zArr.of hM1 (k := 0) (t := 0) (n := 53) (u1 := 0) (u2 := 0) (lo := 0) (hi := 0) rfl (fun j x hj h1 h2 => by
          have e0 : (0 : Int32).toInt = 0 := by decide
          rw [e0, if_neg (by omega), if_neg (by omega)]
          omega))
      · have e6 : ((Int8.ofInt 6).toInt32).toInt = 6 := by decide
        have h6 : i.toInt < 6 := by have := mt Int32.le_iff_toInt_le.mpr hlt; omega
        have h1 : (i + Int32.ofInt 1).toInt = i.toInt + 1 := by
          rw [Int32.toInt_add, show (Int32.ofInt 1).toInt = 1 from rfl, Int.bmod_eq_of_le (by omega) (by omega)]
        refine lv_aload_n hx hb d285 rfl (lv_at hl 1 rfl) ?_
        refine zn_get (j := 49) (k := 30) hx hb hts hown hK hP rfl zpU12 (by decide) (zmT5 (i := 181) rfl rfl) hM rfl d286 ?_
        refine lv_iload_n hx hb d289 rfl (lv_at hl 0 rfl) ?_
        refine lv_iconst hx hb d290 rfl ?_
        refine zn_istF (v := -1) (k := 30) hx hb hK hP hD hS hM rfl (vp_in_iff.mpr ⟨by omega, by omega⟩) (by decide) (by decide) (by decide) hFl d291 (fun H1 locs1 ws1 hP1 hD1 hS1 hM1 hF1 => ?_)
        refine lv_iinc hx hb d292 hl (k := 0) rfl rfl (by decide) rfl (fun ls3 hl3 => ?_)
        refine lv_goto hx hb d295 (tgt := 279) (by decide) ?_
        exact ih (6 - (i + Int32.ofInt 1).toInt).toNat (by omega) _ ls3 H1 locs1 ws1 na rfl (by omega) (by omega) hl3 hP1 hD1 hS1 hM1 (by rw [h1]; exact hF1)
  have hMa := hM68.wide (k := 30) (C' := (1, 0, 6, [(0, -1), (0, 0)])) rfl (fun x hx => by
    obtain ⟨cA, f, h1, h2, h3⟩ := hx
    exact ⟨cA, f, h1, h2, fun j hj => ⟨Int.le_trans (by decide) (h3 j hj).1, (h3 j hj).2⟩⟩)
  have hMb := hMa
  refine lv_iconst hx hb d277 rfl ?_
  refine lv_istore_n hx hb d278 rfl hl (by decide) rfl (fun ls3 hl3 => ?_)
  exact loop1 _ 0 ls3 _ _ _ _ rfl (by decide) (by decide) hl3 hP68 hD68 hS68 hMb (zFil.zero hMb (k := 30) rfl (by decide))
