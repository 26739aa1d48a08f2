theorem tw_84 : (Jvm.Cond.instantiable "TypeLoom" (8 : Nat)) ∈ gx_T := gx_mem (i := 84) (by decide +kernel) (by decide +kernel)
theorem tw_475 : (Jvm.Cond.methodLink "TypeLoomLaw" (13 : Nat) ({ cls := "TypeLoom", name := "constructor", desc := "(II)I" } : Jvm.MethodName)) ∈ gx_T := gx_mem (i := 475) (by decide +kernel) (by decide +kernel)
theorem tw_507 : (Jvm.Cond.methodLink "TypeLoomLaw" (18 : Nat) ({ cls := "TypeLoom", name := "push", desc := "(II)I" } : Jvm.MethodName)) ∈ gx_T := gx_mem (i := 507) (by decide +kernel) (by decide +kernel)
theorem tw_533 : (Jvm.Cond.methodLink "TypeLoomLaw" (22 : Nat) ({ cls := "TypeLoom", name := "built", desc := "(I)I" } : Jvm.MethodName)) ∈ gx_T := gx_mem (i := 533) (by decide +kernel) (by decide +kernel)
theorem tw_569 : (Jvm.Cond.methodLink "TypeLoomLaw" (27 : Nat) ({ cls := "TypeLoom", name := "record", desc := "(Z)I" } : Jvm.MethodName)) ∈ gx_T := gx_mem (i := 569) (by decide +kernel) (by decide +kernel)
theorem tw_574 : (Jvm.Cond.methodLink "TypeLoomLaw" (32 : Nat) ({ cls := "TypeLoom", name := "function", desc := "(II)I" } : Jvm.MethodName)) ∈ gx_T := gx_mem (i := 574) (by decide +kernel) (by decide +kernel)
theorem tw_578 : (Jvm.Cond.methodLink "TypeLoomLaw" (36 : Nat) ({ cls := "TypeLoom", name := "variable", desc := "(ZI)I" } : Jvm.MethodName)) ∈ gx_T := gx_mem (i := 578) (by decide +kernel) (by decide +kernel)
theorem tw_591 : (Jvm.Cond.methodLink "TypeLoomLaw" (41 : Nat) ({ cls := "TypeLoom", name := "rigid", desc := "(Z)I" } : Jvm.MethodName)) ∈ gx_T := gx_mem (i := 591) (by decide +kernel) (by decide +kernel)
theorem tw_595 : (Jvm.Cond.methodLink "TypeLoomLaw" (45 : Nat) ({ cls := "TypeLoom", name := "level", desc := "(I)I" } : Jvm.MethodName)) ∈ gx_T := gx_mem (i := 595) (by decide +kernel) (by decide +kernel)
theorem tw_599 : (Jvm.Cond.methodLink "TypeLoomLaw" (49 : Nat) ({ cls := "TypeLoom", name := "unify", desc := "(II)Z" } : Jvm.MethodName)) ∈ gx_T := gx_mem (i := 599) (by decide +kernel) (by decide +kernel)
theorem tw_734 : (Jvm.Cond.methodLink "TypeLoomLaw" (56 : Nat) ({ cls := "TypeLoom", name := "same", desc := "(IJIJ)Z" } : Jvm.MethodName)) ∈ gx_T := gx_mem (i := 734) (by decide +kernel) (by decide +kernel)
theorem tw_784 : (Jvm.Cond.methodLink "TypeLoomLaw" (61 : Nat) ({ cls := "TypeLoom", name := "look", desc := "(IJI)I" } : Jvm.MethodName)) ∈ gx_T := gx_mem (i := 784) (by decide +kernel) (by decide +kernel)
theorem tw_805 : (Jvm.Cond.methodLink "TypeLoomLaw" (66 : Nat) ({ cls := "TypeLoom", name := "label", desc := "(IJI)I" } : Jvm.MethodName)) ∈ gx_T := gx_mem (i := 805) (by decide +kernel) (by decide +kernel)
theorem tw_810 : (Jvm.Cond.methodLink "TypeLoomLaw" (70 : Nat) ({ cls := "TypeLoom", name := "scheme", desc := "(I)I" } : Jvm.MethodName)) ∈ gx_T := gx_mem (i := 810) (by decide +kernel) (by decide +kernel)
theorem tw_837 : (Jvm.Cond.methodLink "TypeLoomLaw" (74 : Nat) ({ cls := "TypeLoom", name := "quantified", desc := "(II)I" } : Jvm.MethodName)) ∈ gx_T := gx_mem (i := 837) (by decide +kernel) (by decide +kernel)
theorem tw_849 : (Jvm.Cond.methodLink "TypeLoomLaw" (78 : Nat) ({ cls := "TypeLoom", name := "instance", desc := "(I)I" } : Jvm.MethodName)) ∈ gx_T := gx_mem (i := 849) (by decide +kernel) (by decide +kernel)
theorem tw_865 : (Jvm.Cond.methodLink "TypeLoomLaw" (82 : Nat) ({ cls := "TypeLoom", name := "alike", desc := "(II)Z" } : Jvm.MethodName)) ∈ gx_T := gx_mem (i := 865) (by decide +kernel) (by decide +kernel)
theorem tw_877 : (Jvm.Cond.methodLink "TypeLoomLaw" (86 : Nat) ({ cls := "TypeLoom", name := "clear", desc := "(II)Z" } : Jvm.MethodName)) ∈ gx_T := gx_mem (i := 877) (by decide +kernel) (by decide +kernel)
theorem tw_894 : (Jvm.Cond.methodLink "TypeLoomLaw" (90 : Nat) ({ cls := "TypeLoom", name := "count", desc := "(I)I" } : Jvm.MethodName)) ∈ gx_T := gx_mem (i := 894) (by decide +kernel) (by decide +kernel)
theorem tw_899 : (Jvm.Cond.instantiable "TypeLoomModel" (73 : Nat)) ∈ gx_T := gx_mem (i := 899) (by decide +kernel) (by decide +kernel)
theorem tw_1131 : (Jvm.Cond.methodLink "TypeLoomLaw" (17 : Nat) ({ cls := "TypeLoomModel", name := "constructor", desc := "(II)I" } : Jvm.MethodName)) ∈ gx_T := gx_mem (i := 1131) (by decide +kernel) (by decide +kernel)
theorem tw_1135 : (Jvm.Cond.methodLink "TypeLoomLaw" (21 : Nat) ({ cls := "TypeLoomModel", name := "push", desc := "(II)I" } : Jvm.MethodName)) ∈ gx_T := gx_mem (i := 1135) (by decide +kernel) (by decide +kernel)
theorem tw_1144 : (Jvm.Cond.methodLink "TypeLoomLaw" (26 : Nat) ({ cls := "TypeLoomModel", name := "built", desc := "(I)I" } : Jvm.MethodName)) ∈ gx_T := gx_mem (i := 1144) (by decide +kernel) (by decide +kernel)
theorem tw_1160 : (Jvm.Cond.methodLink "TypeLoomLaw" (31 : Nat) ({ cls := "TypeLoomModel", name := "record", desc := "(Z)I" } : Jvm.MethodName)) ∈ gx_T := gx_mem (i := 1160) (by decide +kernel) (by decide +kernel)
theorem tw_1168 : (Jvm.Cond.methodLink "TypeLoomLaw" (35 : Nat) ({ cls := "TypeLoomModel", name := "function", desc := "(II)I" } : Jvm.MethodName)) ∈ gx_T := gx_mem (i := 1168) (by decide +kernel) (by decide +kernel)
theorem tw_1172 : (Jvm.Cond.methodLink "TypeLoomLaw" (40 : Nat) ({ cls := "TypeLoomModel", name := "variable", desc := "(ZI)I" } : Jvm.MethodName)) ∈ gx_T := gx_mem (i := 1172) (by decide +kernel) (by decide +kernel)
theorem tw_1180 : (Jvm.Cond.methodLink "TypeLoomLaw" (44 : Nat) ({ cls := "TypeLoomModel", name := "rigid", desc := "(Z)I" } : Jvm.MethodName)) ∈ gx_T := gx_mem (i := 1180) (by decide +kernel) (by decide +kernel)
theorem tw_1184 : (Jvm.Cond.methodLink "TypeLoomLaw" (48 : Nat) ({ cls := "TypeLoomModel", name := "level", desc := "(I)I" } : Jvm.MethodName)) ∈ gx_T := gx_mem (i := 1184) (by decide +kernel) (by decide +kernel)
theorem tw_1188 : (Jvm.Cond.methodLink "TypeLoomLaw" (53 : Nat) ({ cls := "TypeLoomModel", name := "unify", desc := "(II)Z" } : Jvm.MethodName)) ∈ gx_T := gx_mem (i := 1188) (by decide +kernel) (by decide +kernel)
theorem tw_1284 : (Jvm.Cond.methodLink "TypeLoomLaw" (60 : Nat) ({ cls := "TypeLoomModel", name := "same", desc := "(IJIJ)Z" } : Jvm.MethodName)) ∈ gx_T := gx_mem (i := 1284) (by decide +kernel) (by decide +kernel)
theorem tw_1305 : (Jvm.Cond.methodLink "TypeLoomLaw" (65 : Nat) ({ cls := "TypeLoomModel", name := "look", desc := "(IJI)I" } : Jvm.MethodName)) ∈ gx_T := gx_mem (i := 1305) (by decide +kernel) (by decide +kernel)
theorem tw_1317 : (Jvm.Cond.methodLink "TypeLoomLaw" (69 : Nat) ({ cls := "TypeLoomModel", name := "label", desc := "(IJI)I" } : Jvm.MethodName)) ∈ gx_T := gx_mem (i := 1317) (by decide +kernel) (by decide +kernel)
theorem tw_1321 : (Jvm.Cond.methodLink "TypeLoomLaw" (73 : Nat) ({ cls := "TypeLoomModel", name := "scheme", desc := "(I)I" } : Jvm.MethodName)) ∈ gx_T := gx_mem (i := 1321) (by decide +kernel) (by decide +kernel)
theorem tw_1341 : (Jvm.Cond.methodLink "TypeLoomLaw" (77 : Nat) ({ cls := "TypeLoomModel", name := "quantified", desc := "(II)I" } : Jvm.MethodName)) ∈ gx_T := gx_mem (i := 1341) (by decide +kernel) (by decide +kernel)
theorem tw_1349 : (Jvm.Cond.methodLink "TypeLoomLaw" (81 : Nat) ({ cls := "TypeLoomModel", name := "instance", desc := "(I)I" } : Jvm.MethodName)) ∈ gx_T := gx_mem (i := 1349) (by decide +kernel) (by decide +kernel)
theorem tw_1357 : (Jvm.Cond.methodLink "TypeLoomLaw" (85 : Nat) ({ cls := "TypeLoomModel", name := "alike", desc := "(II)Z" } : Jvm.MethodName)) ∈ gx_T := gx_mem (i := 1357) (by decide +kernel) (by decide +kernel)
theorem tw_1361 : (Jvm.Cond.methodLink "TypeLoomLaw" (89 : Nat) ({ cls := "TypeLoomModel", name := "clear", desc := "(II)Z" } : Jvm.MethodName)) ∈ gx_T := gx_mem (i := 1361) (by decide +kernel) (by decide +kernel)
theorem tw_1365 : (Jvm.Cond.methodLink "TypeLoomLaw" (93 : Nat) ({ cls := "TypeLoomModel", name := "count", desc := "(I)I" } : Jvm.MethodName)) ∈ gx_T := gx_mem (i := 1365) (by decide +kernel) (by decide +kernel)
theorem tw_1369 : (Jvm.Cond.constantLong "TypeLoomLaw" (54 : Nat) (4294967295 : Int64)) ∈ gx_T := gx_mem (i := 1369) (by decide +kernel) (by decide +kernel)
theorem dw_L_law_120 : decode code 120 = .ok (.aload_n 1, 1) := by decide +kernel
theorem dw_L_law_121 : decode code 121 = .ok (.aload_n 0, 1) := by decide +kernel
theorem dw_L_law_122 : decode code 122 = .ok (.iload_n 3, 1) := by decide +kernel
theorem dw_L_law_123 : decode code 123 = .ok (.iconst 1, 1) := by decide +kernel
theorem dw_L_law_124 : decode code 124 = .ok (.iadd, 1) := by decide +kernel
theorem dw_L_law_125 : decode code 125 = .ok (.iaload, 1) := by decide +kernel
theorem dw_L_law_126 : decode code 126 = .ok (.aload_n 0, 1) := by decide +kernel
theorem dw_L_law_127 : decode code 127 = .ok (.iload_n 3, 1) := by decide +kernel
theorem dw_L_law_128 : decode code 128 = .ok (.iconst 2, 1) := by decide +kernel
theorem dw_L_law_129 : decode code 129 = .ok (.iadd, 1) := by decide +kernel
theorem dw_L_law_130 : decode code 130 = .ok (.iaload, 1) := by decide +kernel
theorem dw_L_law_131 : decode code 131 = .ok (.invokevirtual 13, 3) := by decide +kernel
theorem dw_L_law_134 : decode code 134 = .ok (.aload_n 2, 1) := by decide +kernel
theorem dw_L_law_135 : decode code 135 = .ok (.aload_n 0, 1) := by decide +kernel
theorem dw_L_law_136 : decode code 136 = .ok (.iload_n 3, 1) := by decide +kernel
theorem dw_L_law_137 : decode code 137 = .ok (.iconst 1, 1) := by decide +kernel
theorem dw_L_law_138 : decode code 138 = .ok (.iadd, 1) := by decide +kernel
theorem dw_L_law_139 : decode code 139 = .ok (.iaload, 1) := by decide +kernel
theorem dw_L_law_140 : decode code 140 = .ok (.aload_n 0, 1) := by decide +kernel
theorem dw_L_law_141 : decode code 141 = .ok (.iload_n 3, 1) := by decide +kernel
theorem dw_L_law_142 : decode code 142 = .ok (.iconst 2, 1) := by decide +kernel
theorem dw_L_law_143 : decode code 143 = .ok (.iadd, 1) := by decide +kernel
theorem dw_L_law_144 : decode code 144 = .ok (.iaload, 1) := by decide +kernel
theorem dw_L_law_145 : decode code 145 = .ok (.invokevirtual 17, 3) := by decide +kernel
theorem dw_L_law_148 : decode code 148 = .ok (.if_icmp .eq 706, 3) := by decide +kernel
theorem dw_L_law_153 : decode code 153 = .ok (.aload_n 1, 1) := by decide +kernel
theorem dw_L_law_154 : decode code 154 = .ok (.aload_n 0, 1) := by decide +kernel
theorem dw_L_law_155 : decode code 155 = .ok (.iload_n 3, 1) := by decide +kernel
theorem dw_L_law_156 : decode code 156 = .ok (.iconst 1, 1) := by decide +kernel
theorem dw_L_law_157 : decode code 157 = .ok (.iadd, 1) := by decide +kernel
theorem dw_L_law_158 : decode code 158 = .ok (.iaload, 1) := by decide +kernel
theorem dw_L_law_159 : decode code 159 = .ok (.aload_n 0, 1) := by decide +kernel
theorem dw_L_law_160 : decode code 160 = .ok (.iload_n 3, 1) := by decide +kernel
theorem dw_L_law_161 : decode code 161 = .ok (.iconst 2, 1) := by decide +kernel
theorem dw_L_law_162 : decode code 162 = .ok (.iadd, 1) := by decide +kernel
theorem dw_L_law_163 : decode code 163 = .ok (.iaload, 1) := by decide +kernel
theorem dw_L_law_164 : decode code 164 = .ok (.invokevirtual 18, 3) := by decide +kernel
theorem dw_L_law_167 : decode code 167 = .ok (.aload_n 2, 1) := by decide +kernel
theorem dw_L_law_168 : decode code 168 = .ok (.aload_n 0, 1) := by decide +kernel
theorem dw_L_law_169 : decode code 169 = .ok (.iload_n 3, 1) := by decide +kernel
theorem dw_L_law_170 : decode code 170 = .ok (.iconst 1, 1) := by decide +kernel
theorem dw_L_law_171 : decode code 171 = .ok (.iadd, 1) := by decide +kernel
theorem dw_L_law_172 : decode code 172 = .ok (.iaload, 1) := by decide +kernel
theorem dw_L_law_173 : decode code 173 = .ok (.aload_n 0, 1) := by decide +kernel
theorem dw_L_law_174 : decode code 174 = .ok (.iload_n 3, 1) := by decide +kernel
theorem dw_L_law_175 : decode code 175 = .ok (.iconst 2, 1) := by decide +kernel
theorem dw_L_law_176 : decode code 176 = .ok (.iadd, 1) := by decide +kernel
theorem dw_L_law_177 : decode code 177 = .ok (.iaload, 1) := by decide +kernel
theorem dw_L_law_178 : decode code 178 = .ok (.invokevirtual 21, 3) := by decide +kernel
theorem dw_L_law_181 : decode code 181 = .ok (.if_icmp .eq 673, 3) := by decide +kernel
theorem dw_L_law_186 : decode code 186 = .ok (.aload_n 1, 1) := by decide +kernel
theorem dw_L_law_187 : decode code 187 = .ok (.aload_n 0, 1) := by decide +kernel
theorem dw_L_law_188 : decode code 188 = .ok (.iload_n 3, 1) := by decide +kernel
theorem dw_L_law_189 : decode code 189 = .ok (.iconst 1, 1) := by decide +kernel
theorem dw_L_law_190 : decode code 190 = .ok (.iadd, 1) := by decide +kernel
theorem dw_L_law_191 : decode code 191 = .ok (.iaload, 1) := by decide +kernel
theorem dw_L_law_192 : decode code 192 = .ok (.invokevirtual 22, 3) := by decide +kernel
theorem dw_L_law_195 : decode code 195 = .ok (.aload_n 2, 1) := by decide +kernel
theorem dw_L_law_196 : decode code 196 = .ok (.aload_n 0, 1) := by decide +kernel
theorem dw_L_law_197 : decode code 197 = .ok (.iload_n 3, 1) := by decide +kernel
theorem dw_L_law_198 : decode code 198 = .ok (.iconst 1, 1) := by decide +kernel
theorem dw_L_law_199 : decode code 199 = .ok (.iadd, 1) := by decide +kernel
theorem dw_L_law_200 : decode code 200 = .ok (.iaload, 1) := by decide +kernel
theorem dw_L_law_201 : decode code 201 = .ok (.invokevirtual 26, 3) := by decide +kernel
theorem dw_L_law_204 : decode code 204 = .ok (.if_icmp .eq 650, 3) := by decide +kernel
theorem dw_L_law_209 : decode code 209 = .ok (.aload_n 1, 1) := by decide +kernel
theorem dw_L_law_210 : decode code 210 = .ok (.aload_n 0, 1) := by decide +kernel
theorem dw_L_law_211 : decode code 211 = .ok (.iload_n 3, 1) := by decide +kernel
theorem dw_L_law_212 : decode code 212 = .ok (.iconst 1, 1) := by decide +kernel
theorem dw_L_law_213 : decode code 213 = .ok (.iadd, 1) := by decide +kernel
theorem dw_L_law_214 : decode code 214 = .ok (.iaload, 1) := by decide +kernel
theorem dw_L_law_215 : decode code 215 = .ok (.ifCond .eq 7, 3) := by decide +kernel
theorem dw_L_law_222 : decode code 222 = .ok (.iconst 0, 1) := by decide +kernel
theorem dw_L_law_223 : decode code 223 = .ok (.invokevirtual 27, 3) := by decide +kernel
theorem dw_L_law_226 : decode code 226 = .ok (.aload_n 2, 1) := by decide +kernel
theorem dw_L_law_227 : decode code 227 = .ok (.aload_n 0, 1) := by decide +kernel
theorem dw_L_law_228 : decode code 228 = .ok (.iload_n 3, 1) := by decide +kernel
theorem dw_L_law_229 : decode code 229 = .ok (.iconst 1, 1) := by decide +kernel
theorem dw_L_law_230 : decode code 230 = .ok (.iadd, 1) := by decide +kernel
theorem dw_L_law_231 : decode code 231 = .ok (.iaload, 1) := by decide +kernel
theorem dw_L_law_232 : decode code 232 = .ok (.ifCond .eq 7, 3) := by decide +kernel
theorem dw_L_law_239 : decode code 239 = .ok (.iconst 0, 1) := by decide +kernel
theorem dw_L_law_240 : decode code 240 = .ok (.invokevirtual 31, 3) := by decide +kernel
theorem dw_L_law_243 : decode code 243 = .ok (.if_icmp .eq 611, 3) := by decide +kernel
theorem dw_L_law_218 : decode code 218 = .ok (.iconst 1, 1) := by decide +kernel
theorem dw_L_law_219 : decode code 219 = .ok (.goto 4, 3) := by decide +kernel
theorem dw_L_law_235 : decode code 235 = .ok (.iconst 1, 1) := by decide +kernel
theorem dw_L_law_236 : decode code 236 = .ok (.goto 4, 3) := by decide +kernel
theorem dw_L_law_248 : decode code 248 = .ok (.aload_n 1, 1) := by decide +kernel
theorem dw_L_law_249 : decode code 249 = .ok (.aload_n 0, 1) := by decide +kernel
theorem dw_L_law_250 : decode code 250 = .ok (.iload_n 3, 1) := by decide +kernel
theorem dw_L_law_251 : decode code 251 = .ok (.iconst 1, 1) := by decide +kernel
theorem dw_L_law_252 : decode code 252 = .ok (.iadd, 1) := by decide +kernel
theorem dw_L_law_253 : decode code 253 = .ok (.iaload, 1) := by decide +kernel
theorem dw_L_law_254 : decode code 254 = .ok (.aload_n 0, 1) := by decide +kernel
theorem dw_L_law_255 : decode code 255 = .ok (.iload_n 3, 1) := by decide +kernel
theorem dw_L_law_256 : decode code 256 = .ok (.iconst 2, 1) := by decide +kernel
theorem dw_L_law_257 : decode code 257 = .ok (.iadd, 1) := by decide +kernel
theorem dw_L_law_258 : decode code 258 = .ok (.iaload, 1) := by decide +kernel
theorem dw_L_law_259 : decode code 259 = .ok (.invokevirtual 32, 3) := by decide +kernel
theorem dw_L_law_262 : decode code 262 = .ok (.aload_n 2, 1) := by decide +kernel
theorem dw_L_law_263 : decode code 263 = .ok (.aload_n 0, 1) := by decide +kernel
theorem dw_L_law_264 : decode code 264 = .ok (.iload_n 3, 1) := by decide +kernel
theorem dw_L_law_265 : decode code 265 = .ok (.iconst 1, 1) := by decide +kernel
theorem dw_L_law_266 : decode code 266 = .ok (.iadd, 1) := by decide +kernel
theorem dw_L_law_267 : decode code 267 = .ok (.iaload, 1) := by decide +kernel
theorem dw_L_law_268 : decode code 268 = .ok (.aload_n 0, 1) := by decide +kernel
theorem dw_L_law_269 : decode code 269 = .ok (.iload_n 3, 1) := by decide +kernel
theorem dw_L_law_270 : decode code 270 = .ok (.iconst 2, 1) := by decide +kernel
theorem dw_L_law_271 : decode code 271 = .ok (.iadd, 1) := by decide +kernel
theorem dw_L_law_272 : decode code 272 = .ok (.iaload, 1) := by decide +kernel
theorem dw_L_law_273 : decode code 273 = .ok (.invokevirtual 35, 3) := by decide +kernel
theorem dw_L_law_276 : decode code 276 = .ok (.if_icmp .eq 578, 3) := by decide +kernel
theorem dw_L_law_281 : decode code 281 = .ok (.aload_n 1, 1) := by decide +kernel
theorem dw_L_law_282 : decode code 282 = .ok (.aload_n 0, 1) := by decide +kernel
theorem dw_L_law_283 : decode code 283 = .ok (.iload_n 3, 1) := by decide +kernel
theorem dw_L_law_284 : decode code 284 = .ok (.iconst 1, 1) := by decide +kernel
theorem dw_L_law_285 : decode code 285 = .ok (.iadd, 1) := by decide +kernel
theorem dw_L_law_286 : decode code 286 = .ok (.iaload, 1) := by decide +kernel
theorem dw_L_law_287 : decode code 287 = .ok (.ifCond .eq 7, 3) := by decide +kernel
theorem dw_L_law_294 : decode code 294 = .ok (.iconst 0, 1) := by decide +kernel
theorem dw_L_law_295 : decode code 295 = .ok (.aload_n 0, 1) := by decide +kernel
theorem dw_L_law_296 : decode code 296 = .ok (.iload_n 3, 1) := by decide +kernel
theorem dw_L_law_297 : decode code 297 = .ok (.iconst 2, 1) := by decide +kernel
theorem dw_L_law_298 : decode code 298 = .ok (.iadd, 1) := by decide +kernel
theorem dw_L_law_299 : decode code 299 = .ok (.iaload, 1) := by decide +kernel
theorem dw_L_law_300 : decode code 300 = .ok (.invokevirtual 36, 3) := by decide +kernel
theorem dw_L_law_303 : decode code 303 = .ok (.aload_n 2, 1) := by decide +kernel
theorem dw_L_law_304 : decode code 304 = .ok (.aload_n 0, 1) := by decide +kernel
theorem dw_L_law_305 : decode code 305 = .ok (.iload_n 3, 1) := by decide +kernel
theorem dw_L_law_306 : decode code 306 = .ok (.iconst 1, 1) := by decide +kernel
theorem dw_L_law_307 : decode code 307 = .ok (.iadd, 1) := by decide +kernel
theorem dw_L_law_308 : decode code 308 = .ok (.iaload, 1) := by decide +kernel
theorem dw_L_law_309 : decode code 309 = .ok (.ifCond .eq 7, 3) := by decide +kernel
theorem dw_L_law_316 : decode code 316 = .ok (.iconst 0, 1) := by decide +kernel
theorem dw_L_law_317 : decode code 317 = .ok (.aload_n 0, 1) := by decide +kernel
theorem dw_L_law_318 : decode code 318 = .ok (.iload_n 3, 1) := by decide +kernel
theorem dw_L_law_319 : decode code 319 = .ok (.iconst 2, 1) := by decide +kernel
theorem dw_L_law_320 : decode code 320 = .ok (.iadd, 1) := by decide +kernel
theorem dw_L_law_321 : decode code 321 = .ok (.iaload, 1) := by decide +kernel
theorem dw_L_law_322 : decode code 322 = .ok (.invokevirtual 40, 3) := by decide +kernel
theorem dw_L_law_325 : decode code 325 = .ok (.if_icmp .eq 529, 3) := by decide +kernel
theorem dw_L_law_290 : decode code 290 = .ok (.iconst 1, 1) := by decide +kernel
theorem dw_L_law_291 : decode code 291 = .ok (.goto 4, 3) := by decide +kernel
theorem dw_L_law_312 : decode code 312 = .ok (.iconst 1, 1) := by decide +kernel
theorem dw_L_law_313 : decode code 313 = .ok (.goto 4, 3) := by decide +kernel
theorem dw_L_law_330 : decode code 330 = .ok (.aload_n 1, 1) := by decide +kernel
theorem dw_L_law_331 : decode code 331 = .ok (.aload_n 0, 1) := by decide +kernel
theorem dw_L_law_332 : decode code 332 = .ok (.iload_n 3, 1) := by decide +kernel
theorem dw_L_law_333 : decode code 333 = .ok (.iconst 1, 1) := by decide +kernel
theorem dw_L_law_334 : decode code 334 = .ok (.iadd, 1) := by decide +kernel
theorem dw_L_law_335 : decode code 335 = .ok (.iaload, 1) := by decide +kernel
theorem dw_L_law_336 : decode code 336 = .ok (.ifCond .eq 7, 3) := by decide +kernel
theorem dw_L_law_343 : decode code 343 = .ok (.iconst 0, 1) := by decide +kernel
theorem dw_L_law_344 : decode code 344 = .ok (.invokevirtual 41, 3) := by decide +kernel
theorem dw_L_law_347 : decode code 347 = .ok (.aload_n 2, 1) := by decide +kernel
theorem dw_L_law_348 : decode code 348 = .ok (.aload_n 0, 1) := by decide +kernel
theorem dw_L_law_349 : decode code 349 = .ok (.iload_n 3, 1) := by decide +kernel
theorem dw_L_law_350 : decode code 350 = .ok (.iconst 1, 1) := by decide +kernel
theorem dw_L_law_351 : decode code 351 = .ok (.iadd, 1) := by decide +kernel
theorem dw_L_law_352 : decode code 352 = .ok (.iaload, 1) := by decide +kernel
theorem dw_L_law_353 : decode code 353 = .ok (.ifCond .eq 7, 3) := by decide +kernel
theorem dw_L_law_360 : decode code 360 = .ok (.iconst 0, 1) := by decide +kernel
theorem dw_L_law_361 : decode code 361 = .ok (.invokevirtual 44, 3) := by decide +kernel
theorem dw_L_law_364 : decode code 364 = .ok (.if_icmp .eq 490, 3) := by decide +kernel
theorem dw_L_law_339 : decode code 339 = .ok (.iconst 1, 1) := by decide +kernel
theorem dw_L_law_340 : decode code 340 = .ok (.goto 4, 3) := by decide +kernel
theorem dw_L_law_356 : decode code 356 = .ok (.iconst 1, 1) := by decide +kernel
theorem dw_L_law_357 : decode code 357 = .ok (.goto 4, 3) := by decide +kernel
theorem dw_L_law_369 : decode code 369 = .ok (.aload_n 1, 1) := by decide +kernel
theorem dw_L_law_370 : decode code 370 = .ok (.aload_n 0, 1) := by decide +kernel
theorem dw_L_law_371 : decode code 371 = .ok (.iload_n 3, 1) := by decide +kernel
theorem dw_L_law_372 : decode code 372 = .ok (.iconst 1, 1) := by decide +kernel
theorem dw_L_law_373 : decode code 373 = .ok (.iadd, 1) := by decide +kernel
theorem dw_L_law_374 : decode code 374 = .ok (.iaload, 1) := by decide +kernel
theorem dw_L_law_375 : decode code 375 = .ok (.invokevirtual 45, 3) := by decide +kernel
theorem dw_L_law_378 : decode code 378 = .ok (.aload_n 2, 1) := by decide +kernel
theorem dw_L_law_379 : decode code 379 = .ok (.aload_n 0, 1) := by decide +kernel
theorem dw_L_law_380 : decode code 380 = .ok (.iload_n 3, 1) := by decide +kernel
theorem dw_L_law_381 : decode code 381 = .ok (.iconst 1, 1) := by decide +kernel
theorem dw_L_law_382 : decode code 382 = .ok (.iadd, 1) := by decide +kernel
theorem dw_L_law_383 : decode code 383 = .ok (.iaload, 1) := by decide +kernel
theorem dw_L_law_384 : decode code 384 = .ok (.invokevirtual 48, 3) := by decide +kernel
theorem dw_L_law_387 : decode code 387 = .ok (.if_icmp .eq 467, 3) := by decide +kernel
theorem dw_L_law_392 : decode code 392 = .ok (.aload_n 1, 1) := by decide +kernel
theorem dw_L_law_393 : decode code 393 = .ok (.aload_n 0, 1) := by decide +kernel
theorem dw_L_law_394 : decode code 394 = .ok (.iload_n 3, 1) := by decide +kernel
theorem dw_L_law_395 : decode code 395 = .ok (.iconst 1, 1) := by decide +kernel
theorem dw_L_law_396 : decode code 396 = .ok (.iadd, 1) := by decide +kernel
theorem dw_L_law_397 : decode code 397 = .ok (.iaload, 1) := by decide +kernel
theorem dw_L_law_398 : decode code 398 = .ok (.aload_n 0, 1) := by decide +kernel
theorem dw_L_law_399 : decode code 399 = .ok (.iload_n 3, 1) := by decide +kernel
theorem dw_L_law_400 : decode code 400 = .ok (.iconst 2, 1) := by decide +kernel
theorem dw_L_law_401 : decode code 401 = .ok (.iadd, 1) := by decide +kernel
theorem dw_L_law_402 : decode code 402 = .ok (.iaload, 1) := by decide +kernel
theorem dw_L_law_403 : decode code 403 = .ok (.invokevirtual 49, 3) := by decide +kernel
theorem dw_L_law_406 : decode code 406 = .ok (.aload_n 2, 1) := by decide +kernel
theorem dw_L_law_407 : decode code 407 = .ok (.aload_n 0, 1) := by decide +kernel
theorem dw_L_law_408 : decode code 408 = .ok (.iload_n 3, 1) := by decide +kernel
theorem dw_L_law_409 : decode code 409 = .ok (.iconst 1, 1) := by decide +kernel
theorem dw_L_law_410 : decode code 410 = .ok (.iadd, 1) := by decide +kernel
theorem dw_L_law_411 : decode code 411 = .ok (.iaload, 1) := by decide +kernel
theorem dw_L_law_412 : decode code 412 = .ok (.aload_n 0, 1) := by decide +kernel
theorem dw_L_law_413 : decode code 413 = .ok (.iload_n 3, 1) := by decide +kernel
theorem dw_L_law_414 : decode code 414 = .ok (.iconst 2, 1) := by decide +kernel
theorem dw_L_law_415 : decode code 415 = .ok (.iadd, 1) := by decide +kernel
theorem dw_L_law_416 : decode code 416 = .ok (.iaload, 1) := by decide +kernel
theorem dw_L_law_417 : decode code 417 = .ok (.invokevirtual 53, 3) := by decide +kernel
theorem dw_L_law_420 : decode code 420 = .ok (.if_icmp .eq 434, 3) := by decide +kernel
theorem dw_L_law_425 : decode code 425 = .ok (.aload_n 1, 1) := by decide +kernel
theorem dw_L_law_426 : decode code 426 = .ok (.aload_n 0, 1) := by decide +kernel
theorem dw_L_law_427 : decode code 427 = .ok (.iload_n 3, 1) := by decide +kernel
theorem dw_L_law_428 : decode code 428 = .ok (.iconst 1, 1) := by decide +kernel
theorem dw_L_law_429 : decode code 429 = .ok (.iadd, 1) := by decide +kernel
theorem dw_L_law_430 : decode code 430 = .ok (.iaload, 1) := by decide +kernel
theorem dw_L_law_431 : decode code 431 = .ok (.aload_n 0, 1) := by decide +kernel
theorem dw_L_law_432 : decode code 432 = .ok (.iload_n 3, 1) := by decide +kernel
theorem dw_L_law_433 : decode code 433 = .ok (.iconst 2, 1) := by decide +kernel
theorem dw_L_law_434 : decode code 434 = .ok (.iadd, 1) := by decide +kernel
theorem dw_L_law_435 : decode code 435 = .ok (.iaload, 1) := by decide +kernel
theorem dw_L_law_436 : decode code 436 = .ok (.i2l, 1) := by decide +kernel
theorem dw_L_law_437 : decode code 437 = .ok (.bipush 32, 2) := by decide +kernel
theorem dw_L_law_439 : decode code 439 = .ok (.lshl, 1) := by decide +kernel
theorem dw_L_law_440 : decode code 440 = .ok (.aload_n 0, 1) := by decide +kernel
theorem dw_L_law_441 : decode code 441 = .ok (.iload_n 3, 1) := by decide +kernel
theorem dw_L_law_442 : decode code 442 = .ok (.iconst 3, 1) := by decide +kernel
theorem dw_L_law_443 : decode code 443 = .ok (.iadd, 1) := by decide +kernel
theorem dw_L_law_444 : decode code 444 = .ok (.iaload, 1) := by decide +kernel
theorem dw_L_law_445 : decode code 445 = .ok (.i2l, 1) := by decide +kernel
theorem dw_L_law_446 : decode code 446 = .ok (.ldc2_w 54, 3) := by decide +kernel
theorem dw_L_law_449 : decode code 449 = .ok (.land, 1) := by decide +kernel
theorem dw_L_law_450 : decode code 450 = .ok (.lor, 1) := by decide +kernel
theorem dw_L_law_451 : decode code 451 = .ok (.aload_n 0, 1) := by decide +kernel
theorem dw_L_law_452 : decode code 452 = .ok (.iload_n 3, 1) := by decide +kernel
theorem dw_L_law_453 : decode code 453 = .ok (.iconst 4, 1) := by decide +kernel
theorem dw_L_law_454 : decode code 454 = .ok (.iadd, 1) := by decide +kernel
theorem dw_L_law_455 : decode code 455 = .ok (.iaload, 1) := by decide +kernel
theorem dw_L_law_456 : decode code 456 = .ok (.aload_n 0, 1) := by decide +kernel
theorem dw_L_law_457 : decode code 457 = .ok (.iload_n 3, 1) := by decide +kernel
theorem dw_L_law_458 : decode code 458 = .ok (.iconst 5, 1) := by decide +kernel
theorem dw_L_law_459 : decode code 459 = .ok (.iadd, 1) := by decide +kernel
theorem dw_L_law_460 : decode code 460 = .ok (.iaload, 1) := by decide +kernel
theorem dw_L_law_461 : decode code 461 = .ok (.i2l, 1) := by decide +kernel
theorem dw_L_law_462 : decode code 462 = .ok (.bipush 32, 2) := by decide +kernel
theorem dw_L_law_464 : decode code 464 = .ok (.lshl, 1) := by decide +kernel
theorem dw_L_law_465 : decode code 465 = .ok (.aload_n 0, 1) := by decide +kernel
theorem dw_L_law_466 : decode code 466 = .ok (.iload_n 3, 1) := by decide +kernel
theorem dw_L_law_467 : decode code 467 = .ok (.bipush 6, 2) := by decide +kernel
theorem dw_L_law_469 : decode code 469 = .ok (.iadd, 1) := by decide +kernel
theorem dw_L_law_470 : decode code 470 = .ok (.iaload, 1) := by decide +kernel
theorem dw_L_law_471 : decode code 471 = .ok (.i2l, 1) := by decide +kernel
theorem dw_L_law_472 : decode code 472 = .ok (.ldc2_w 54, 3) := by decide +kernel
theorem dw_L_law_475 : decode code 475 = .ok (.land, 1) := by decide +kernel
theorem dw_L_law_476 : decode code 476 = .ok (.lor, 1) := by decide +kernel
theorem dw_L_law_477 : decode code 477 = .ok (.invokevirtual 56, 3) := by decide +kernel
theorem dw_L_law_480 : decode code 480 = .ok (.aload_n 2, 1) := by decide +kernel
theorem dw_L_law_481 : decode code 481 = .ok (.aload_n 0, 1) := by decide +kernel
theorem dw_L_law_482 : decode code 482 = .ok (.iload_n 3, 1) := by decide +kernel
theorem dw_L_law_483 : decode code 483 = .ok (.iconst 1, 1) := by decide +kernel
theorem dw_L_law_484 : decode code 484 = .ok (.iadd, 1) := by decide +kernel
theorem dw_L_law_485 : decode code 485 = .ok (.iaload, 1) := by decide +kernel
theorem dw_L_law_486 : decode code 486 = .ok (.aload_n 0, 1) := by decide +kernel
theorem dw_L_law_487 : decode code 487 = .ok (.iload_n 3, 1) := by decide +kernel
theorem dw_L_law_488 : decode code 488 = .ok (.iconst 2, 1) := by decide +kernel
theorem dw_L_law_489 : decode code 489 = .ok (.iadd, 1) := by decide +kernel
theorem dw_L_law_490 : decode code 490 = .ok (.iaload, 1) := by decide +kernel
theorem dw_L_law_491 : decode code 491 = .ok (.i2l, 1) := by decide +kernel
theorem dw_L_law_492 : decode code 492 = .ok (.bipush 32, 2) := by decide +kernel
theorem dw_L_law_494 : decode code 494 = .ok (.lshl, 1) := by decide +kernel
theorem dw_L_law_495 : decode code 495 = .ok (.aload_n 0, 1) := by decide +kernel
theorem dw_L_law_496 : decode code 496 = .ok (.iload_n 3, 1) := by decide +kernel
theorem dw_L_law_497 : decode code 497 = .ok (.iconst 3, 1) := by decide +kernel
theorem dw_L_law_498 : decode code 498 = .ok (.iadd, 1) := by decide +kernel
theorem dw_L_law_499 : decode code 499 = .ok (.iaload, 1) := by decide +kernel
theorem dw_L_law_500 : decode code 500 = .ok (.i2l, 1) := by decide +kernel
theorem dw_L_law_501 : decode code 501 = .ok (.ldc2_w 54, 3) := by decide +kernel
theorem dw_L_law_504 : decode code 504 = .ok (.land, 1) := by decide +kernel
theorem dw_L_law_505 : decode code 505 = .ok (.lor, 1) := by decide +kernel
theorem dw_L_law_506 : decode code 506 = .ok (.aload_n 0, 1) := by decide +kernel
theorem dw_L_law_507 : decode code 507 = .ok (.iload_n 3, 1) := by decide +kernel
theorem dw_L_law_508 : decode code 508 = .ok (.iconst 4, 1) := by decide +kernel
theorem dw_L_law_509 : decode code 509 = .ok (.iadd, 1) := by decide +kernel
theorem dw_L_law_510 : decode code 510 = .ok (.iaload, 1) := by decide +kernel
theorem dw_L_law_511 : decode code 511 = .ok (.aload_n 0, 1) := by decide +kernel
theorem dw_L_law_512 : decode code 512 = .ok (.iload_n 3, 1) := by decide +kernel
theorem dw_L_law_513 : decode code 513 = .ok (.iconst 5, 1) := by decide +kernel
theorem dw_L_law_514 : decode code 514 = .ok (.iadd, 1) := by decide +kernel
theorem dw_L_law_515 : decode code 515 = .ok (.iaload, 1) := by decide +kernel
theorem dw_L_law_516 : decode code 516 = .ok (.i2l, 1) := by decide +kernel
theorem dw_L_law_517 : decode code 517 = .ok (.bipush 32, 2) := by decide +kernel
theorem dw_L_law_519 : decode code 519 = .ok (.lshl, 1) := by decide +kernel
theorem dw_L_law_520 : decode code 520 = .ok (.aload_n 0, 1) := by decide +kernel
theorem dw_L_law_521 : decode code 521 = .ok (.iload_n 3, 1) := by decide +kernel
theorem dw_L_law_522 : decode code 522 = .ok (.bipush 6, 2) := by decide +kernel
theorem dw_L_law_524 : decode code 524 = .ok (.iadd, 1) := by decide +kernel
theorem dw_L_law_525 : decode code 525 = .ok (.iaload, 1) := by decide +kernel
theorem dw_L_law_526 : decode code 526 = .ok (.i2l, 1) := by decide +kernel
theorem dw_L_law_527 : decode code 527 = .ok (.ldc2_w 54, 3) := by decide +kernel
theorem dw_L_law_530 : decode code 530 = .ok (.land, 1) := by decide +kernel
theorem dw_L_law_531 : decode code 531 = .ok (.lor, 1) := by decide +kernel
theorem dw_L_law_532 : decode code 532 = .ok (.invokevirtual 60, 3) := by decide +kernel
theorem dw_L_law_535 : decode code 535 = .ok (.if_icmp .eq 319, 3) := by decide +kernel
theorem dw_L_law_540 : decode code 540 = .ok (.aload_n 1, 1) := by decide +kernel
theorem dw_L_law_541 : decode code 541 = .ok (.aload_n 0, 1) := by decide +kernel
theorem dw_L_law_542 : decode code 542 = .ok (.iload_n 3, 1) := by decide +kernel
theorem dw_L_law_543 : decode code 543 = .ok (.iconst 1, 1) := by decide +kernel
theorem dw_L_law_544 : decode code 544 = .ok (.iadd, 1) := by decide +kernel
theorem dw_L_law_545 : decode code 545 = .ok (.iaload, 1) := by decide +kernel
theorem dw_L_law_546 : decode code 546 = .ok (.aload_n 0, 1) := by decide +kernel
theorem dw_L_law_547 : decode code 547 = .ok (.iload_n 3, 1) := by decide +kernel
theorem dw_L_law_548 : decode code 548 = .ok (.iconst 2, 1) := by decide +kernel
theorem dw_L_law_549 : decode code 549 = .ok (.iadd, 1) := by decide +kernel
theorem dw_L_law_550 : decode code 550 = .ok (.iaload, 1) := by decide +kernel
theorem dw_L_law_551 : decode code 551 = .ok (.i2l, 1) := by decide +kernel
theorem dw_L_law_552 : decode code 552 = .ok (.bipush 32, 2) := by decide +kernel
theorem dw_L_law_554 : decode code 554 = .ok (.lshl, 1) := by decide +kernel
theorem dw_L_law_555 : decode code 555 = .ok (.aload_n 0, 1) := by decide +kernel
theorem dw_L_law_556 : decode code 556 = .ok (.iload_n 3, 1) := by decide +kernel
theorem dw_L_law_557 : decode code 557 = .ok (.iconst 3, 1) := by decide +kernel
theorem dw_L_law_558 : decode code 558 = .ok (.iadd, 1) := by decide +kernel
theorem dw_L_law_559 : decode code 559 = .ok (.iaload, 1) := by decide +kernel
theorem dw_L_law_560 : decode code 560 = .ok (.i2l, 1) := by decide +kernel
theorem dw_L_law_561 : decode code 561 = .ok (.ldc2_w 54, 3) := by decide +kernel
theorem dw_L_law_564 : decode code 564 = .ok (.land, 1) := by decide +kernel
theorem dw_L_law_565 : decode code 565 = .ok (.lor, 1) := by decide +kernel
theorem dw_L_law_566 : decode code 566 = .ok (.aload_n 0, 1) := by decide +kernel
theorem dw_L_law_567 : decode code 567 = .ok (.iload_n 3, 1) := by decide +kernel
theorem dw_L_law_568 : decode code 568 = .ok (.iconst 4, 1) := by decide +kernel
theorem dw_L_law_569 : decode code 569 = .ok (.iadd, 1) := by decide +kernel
theorem dw_L_law_570 : decode code 570 = .ok (.iaload, 1) := by decide +kernel
theorem dw_L_law_571 : decode code 571 = .ok (.invokevirtual 61, 3) := by decide +kernel
theorem dw_L_law_574 : decode code 574 = .ok (.aload_n 2, 1) := by decide +kernel
theorem dw_L_law_575 : decode code 575 = .ok (.aload_n 0, 1) := by decide +kernel
theorem dw_L_law_576 : decode code 576 = .ok (.iload_n 3, 1) := by decide +kernel
theorem dw_L_law_577 : decode code 577 = .ok (.iconst 1, 1) := by decide +kernel
theorem dw_L_law_578 : decode code 578 = .ok (.iadd, 1) := by decide +kernel
theorem dw_L_law_579 : decode code 579 = .ok (.iaload, 1) := by decide +kernel
theorem dw_L_law_580 : decode code 580 = .ok (.aload_n 0, 1) := by decide +kernel
theorem dw_L_law_581 : decode code 581 = .ok (.iload_n 3, 1) := by decide +kernel
theorem dw_L_law_582 : decode code 582 = .ok (.iconst 2, 1) := by decide +kernel
theorem dw_L_law_583 : decode code 583 = .ok (.iadd, 1) := by decide +kernel
theorem dw_L_law_584 : decode code 584 = .ok (.iaload, 1) := by decide +kernel
theorem dw_L_law_585 : decode code 585 = .ok (.i2l, 1) := by decide +kernel
theorem dw_L_law_586 : decode code 586 = .ok (.bipush 32, 2) := by decide +kernel
theorem dw_L_law_588 : decode code 588 = .ok (.lshl, 1) := by decide +kernel
theorem dw_L_law_589 : decode code 589 = .ok (.aload_n 0, 1) := by decide +kernel
theorem dw_L_law_590 : decode code 590 = .ok (.iload_n 3, 1) := by decide +kernel
theorem dw_L_law_591 : decode code 591 = .ok (.iconst 3, 1) := by decide +kernel
theorem dw_L_law_592 : decode code 592 = .ok (.iadd, 1) := by decide +kernel
theorem dw_L_law_593 : decode code 593 = .ok (.iaload, 1) := by decide +kernel
theorem dw_L_law_594 : decode code 594 = .ok (.i2l, 1) := by decide +kernel
theorem dw_L_law_595 : decode code 595 = .ok (.ldc2_w 54, 3) := by decide +kernel
theorem dw_L_law_598 : decode code 598 = .ok (.land, 1) := by decide +kernel
theorem dw_L_law_599 : decode code 599 = .ok (.lor, 1) := by decide +kernel
theorem dw_L_law_600 : decode code 600 = .ok (.aload_n 0, 1) := by decide +kernel
theorem dw_L_law_601 : decode code 601 = .ok (.iload_n 3, 1) := by decide +kernel
theorem dw_L_law_602 : decode code 602 = .ok (.iconst 4, 1) := by decide +kernel
theorem dw_L_law_603 : decode code 603 = .ok (.iadd, 1) := by decide +kernel
theorem dw_L_law_604 : decode code 604 = .ok (.iaload, 1) := by decide +kernel
theorem dw_L_law_605 : decode code 605 = .ok (.invokevirtual 65, 3) := by decide +kernel
theorem dw_L_law_608 : decode code 608 = .ok (.if_icmp .eq 246, 3) := by decide +kernel
theorem dw_L_law_613 : decode code 613 = .ok (.aload_n 1, 1) := by decide +kernel
theorem dw_L_law_614 : decode code 614 = .ok (.aload_n 0, 1) := by decide +kernel
theorem dw_L_law_615 : decode code 615 = .ok (.iload_n 3, 1) := by decide +kernel
theorem dw_L_law_616 : decode code 616 = .ok (.iconst 1, 1) := by decide +kernel
theorem dw_L_law_617 : decode code 617 = .ok (.iadd, 1) := by decide +kernel
theorem dw_L_law_618 : decode code 618 = .ok (.iaload, 1) := by decide +kernel
theorem dw_L_law_619 : decode code 619 = .ok (.aload_n 0, 1) := by decide +kernel
theorem dw_L_law_620 : decode code 620 = .ok (.iload_n 3, 1) := by decide +kernel
theorem dw_L_law_621 : decode code 621 = .ok (.iconst 2, 1) := by decide +kernel
theorem dw_L_law_622 : decode code 622 = .ok (.iadd, 1) := by decide +kernel
theorem dw_L_law_623 : decode code 623 = .ok (.iaload, 1) := by decide +kernel
theorem dw_L_law_624 : decode code 624 = .ok (.i2l, 1) := by decide +kernel
theorem dw_L_law_625 : decode code 625 = .ok (.bipush 32, 2) := by decide +kernel
theorem dw_L_law_627 : decode code 627 = .ok (.lshl, 1) := by decide +kernel
theorem dw_L_law_628 : decode code 628 = .ok (.aload_n 0, 1) := by decide +kernel
theorem dw_L_law_629 : decode code 629 = .ok (.iload_n 3, 1) := by decide +kernel
theorem dw_L_law_630 : decode code 630 = .ok (.iconst 3, 1) := by decide +kernel
theorem dw_L_law_631 : decode code 631 = .ok (.iadd, 1) := by decide +kernel
theorem dw_L_law_632 : decode code 632 = .ok (.iaload, 1) := by decide +kernel
theorem dw_L_law_633 : decode code 633 = .ok (.i2l, 1) := by decide +kernel
theorem dw_L_law_634 : decode code 634 = .ok (.ldc2_w 54, 3) := by decide +kernel
theorem dw_L_law_637 : decode code 637 = .ok (.land, 1) := by decide +kernel
theorem dw_L_law_638 : decode code 638 = .ok (.lor, 1) := by decide +kernel
theorem dw_L_law_639 : decode code 639 = .ok (.aload_n 0, 1) := by decide +kernel
theorem dw_L_law_640 : decode code 640 = .ok (.iload_n 3, 1) := by decide +kernel
theorem dw_L_law_641 : decode code 641 = .ok (.iconst 4, 1) := by decide +kernel
theorem dw_L_law_642 : decode code 642 = .ok (.iadd, 1) := by decide +kernel
theorem dw_L_law_643 : decode code 643 = .ok (.iaload, 1) := by decide +kernel
theorem dw_L_law_644 : decode code 644 = .ok (.invokevirtual 66, 3) := by decide +kernel
theorem dw_L_law_647 : decode code 647 = .ok (.aload_n 2, 1) := by decide +kernel
theorem dw_L_law_648 : decode code 648 = .ok (.aload_n 0, 1) := by decide +kernel
theorem dw_L_law_649 : decode code 649 = .ok (.iload_n 3, 1) := by decide +kernel
theorem dw_L_law_650 : decode code 650 = .ok (.iconst 1, 1) := by decide +kernel
theorem dw_L_law_651 : decode code 651 = .ok (.iadd, 1) := by decide +kernel
theorem dw_L_law_652 : decode code 652 = .ok (.iaload, 1) := by decide +kernel
theorem dw_L_law_653 : decode code 653 = .ok (.aload_n 0, 1) := by decide +kernel
theorem dw_L_law_654 : decode code 654 = .ok (.iload_n 3, 1) := by decide +kernel
theorem dw_L_law_655 : decode code 655 = .ok (.iconst 2, 1) := by decide +kernel
theorem dw_L_law_656 : decode code 656 = .ok (.iadd, 1) := by decide +kernel
theorem dw_L_law_657 : decode code 657 = .ok (.iaload, 1) := by decide +kernel
theorem dw_L_law_658 : decode code 658 = .ok (.i2l, 1) := by decide +kernel
theorem dw_L_law_659 : decode code 659 = .ok (.bipush 32, 2) := by decide +kernel
theorem dw_L_law_661 : decode code 661 = .ok (.lshl, 1) := by decide +kernel
theorem dw_L_law_662 : decode code 662 = .ok (.aload_n 0, 1) := by decide +kernel
theorem dw_L_law_663 : decode code 663 = .ok (.iload_n 3, 1) := by decide +kernel
theorem dw_L_law_664 : decode code 664 = .ok (.iconst 3, 1) := by decide +kernel
theorem dw_L_law_665 : decode code 665 = .ok (.iadd, 1) := by decide +kernel
theorem dw_L_law_666 : decode code 666 = .ok (.iaload, 1) := by decide +kernel
theorem dw_L_law_667 : decode code 667 = .ok (.i2l, 1) := by decide +kernel
theorem dw_L_law_668 : decode code 668 = .ok (.ldc2_w 54, 3) := by decide +kernel
theorem dw_L_law_671 : decode code 671 = .ok (.land, 1) := by decide +kernel
theorem dw_L_law_672 : decode code 672 = .ok (.lor, 1) := by decide +kernel
theorem dw_L_law_673 : decode code 673 = .ok (.aload_n 0, 1) := by decide +kernel
theorem dw_L_law_674 : decode code 674 = .ok (.iload_n 3, 1) := by decide +kernel
theorem dw_L_law_675 : decode code 675 = .ok (.iconst 4, 1) := by decide +kernel
theorem dw_L_law_676 : decode code 676 = .ok (.iadd, 1) := by decide +kernel
theorem dw_L_law_677 : decode code 677 = .ok (.iaload, 1) := by decide +kernel
theorem dw_L_law_678 : decode code 678 = .ok (.invokevirtual 69, 3) := by decide +kernel
theorem dw_L_law_681 : decode code 681 = .ok (.if_icmp .eq 173, 3) := by decide +kernel
theorem dw_L_law_686 : decode code 686 = .ok (.aload_n 1, 1) := by decide +kernel
theorem dw_L_law_687 : decode code 687 = .ok (.aload_n 0, 1) := by decide +kernel
theorem dw_L_law_688 : decode code 688 = .ok (.iload_n 3, 1) := by decide +kernel
theorem dw_L_law_689 : decode code 689 = .ok (.iconst 1, 1) := by decide +kernel
theorem dw_L_law_690 : decode code 690 = .ok (.iadd, 1) := by decide +kernel
theorem dw_L_law_691 : decode code 691 = .ok (.iaload, 1) := by decide +kernel
theorem dw_L_law_692 : decode code 692 = .ok (.invokevirtual 70, 3) := by decide +kernel
theorem dw_L_law_695 : decode code 695 = .ok (.aload_n 2, 1) := by decide +kernel
theorem dw_L_law_696 : decode code 696 = .ok (.aload_n 0, 1) := by decide +kernel
theorem dw_L_law_697 : decode code 697 = .ok (.iload_n 3, 1) := by decide +kernel
theorem dw_L_law_698 : decode code 698 = .ok (.iconst 1, 1) := by decide +kernel
theorem dw_L_law_699 : decode code 699 = .ok (.iadd, 1) := by decide +kernel
theorem dw_L_law_700 : decode code 700 = .ok (.iaload, 1) := by decide +kernel
theorem dw_L_law_701 : decode code 701 = .ok (.invokevirtual 73, 3) := by decide +kernel
theorem dw_L_law_704 : decode code 704 = .ok (.if_icmp .eq 150, 3) := by decide +kernel
theorem dw_L_law_709 : decode code 709 = .ok (.aload_n 1, 1) := by decide +kernel
theorem dw_L_law_710 : decode code 710 = .ok (.aload_n 0, 1) := by decide +kernel
theorem dw_L_law_711 : decode code 711 = .ok (.iload_n 3, 1) := by decide +kernel
theorem dw_L_law_712 : decode code 712 = .ok (.iconst 1, 1) := by decide +kernel
theorem dw_L_law_713 : decode code 713 = .ok (.iadd, 1) := by decide +kernel
theorem dw_L_law_714 : decode code 714 = .ok (.iaload, 1) := by decide +kernel
theorem dw_L_law_715 : decode code 715 = .ok (.aload_n 0, 1) := by decide +kernel
theorem dw_L_law_716 : decode code 716 = .ok (.iload_n 3, 1) := by decide +kernel
theorem dw_L_law_717 : decode code 717 = .ok (.iconst 2, 1) := by decide +kernel
theorem dw_L_law_718 : decode code 718 = .ok (.iadd, 1) := by decide +kernel
theorem dw_L_law_719 : decode code 719 = .ok (.iaload, 1) := by decide +kernel
theorem dw_L_law_720 : decode code 720 = .ok (.invokevirtual 74, 3) := by decide +kernel
theorem dw_L_law_723 : decode code 723 = .ok (.aload_n 2, 1) := by decide +kernel
theorem dw_L_law_724 : decode code 724 = .ok (.aload_n 0, 1) := by decide +kernel
theorem dw_L_law_725 : decode code 725 = .ok (.iload_n 3, 1) := by decide +kernel
theorem dw_L_law_726 : decode code 726 = .ok (.iconst 1, 1) := by decide +kernel
theorem dw_L_law_727 : decode code 727 = .ok (.iadd, 1) := by decide +kernel
theorem dw_L_law_728 : decode code 728 = .ok (.iaload, 1) := by decide +kernel
theorem dw_L_law_729 : decode code 729 = .ok (.aload_n 0, 1) := by decide +kernel
theorem dw_L_law_730 : decode code 730 = .ok (.iload_n 3, 1) := by decide +kernel
theorem dw_L_law_731 : decode code 731 = .ok (.iconst 2, 1) := by decide +kernel
theorem dw_L_law_732 : decode code 732 = .ok (.iadd, 1) := by decide +kernel
theorem dw_L_law_733 : decode code 733 = .ok (.iaload, 1) := by decide +kernel
theorem dw_L_law_734 : decode code 734 = .ok (.invokevirtual 77, 3) := by decide +kernel
theorem dw_L_law_737 : decode code 737 = .ok (.if_icmp .eq 117, 3) := by decide +kernel
theorem dw_L_law_742 : decode code 742 = .ok (.aload_n 1, 1) := by decide +kernel
theorem dw_L_law_743 : decode code 743 = .ok (.aload_n 0, 1) := by decide +kernel
theorem dw_L_law_744 : decode code 744 = .ok (.iload_n 3, 1) := by decide +kernel
theorem dw_L_law_745 : decode code 745 = .ok (.iconst 1, 1) := by decide +kernel
theorem dw_L_law_746 : decode code 746 = .ok (.iadd, 1) := by decide +kernel
theorem dw_L_law_747 : decode code 747 = .ok (.iaload, 1) := by decide +kernel
theorem dw_L_law_748 : decode code 748 = .ok (.invokevirtual 78, 3) := by decide +kernel
theorem dw_L_law_751 : decode code 751 = .ok (.aload_n 2, 1) := by decide +kernel
theorem dw_L_law_752 : decode code 752 = .ok (.aload_n 0, 1) := by decide +kernel
theorem dw_L_law_753 : decode code 753 = .ok (.iload_n 3, 1) := by decide +kernel
theorem dw_L_law_754 : decode code 754 = .ok (.iconst 1, 1) := by decide +kernel
theorem dw_L_law_755 : decode code 755 = .ok (.iadd, 1) := by decide +kernel
theorem dw_L_law_756 : decode code 756 = .ok (.iaload, 1) := by decide +kernel
theorem dw_L_law_757 : decode code 757 = .ok (.invokevirtual 81, 3) := by decide +kernel
theorem dw_L_law_760 : decode code 760 = .ok (.if_icmp .eq 94, 3) := by decide +kernel
theorem dw_L_law_765 : decode code 765 = .ok (.aload_n 1, 1) := by decide +kernel
theorem dw_L_law_766 : decode code 766 = .ok (.aload_n 0, 1) := by decide +kernel
theorem dw_L_law_767 : decode code 767 = .ok (.iload_n 3, 1) := by decide +kernel
theorem dw_L_law_768 : decode code 768 = .ok (.iconst 1, 1) := by decide +kernel
theorem dw_L_law_769 : decode code 769 = .ok (.iadd, 1) := by decide +kernel
theorem dw_L_law_770 : decode code 770 = .ok (.iaload, 1) := by decide +kernel
theorem dw_L_law_771 : decode code 771 = .ok (.aload_n 0, 1) := by decide +kernel
theorem dw_L_law_772 : decode code 772 = .ok (.iload_n 3, 1) := by decide +kernel
theorem dw_L_law_773 : decode code 773 = .ok (.iconst 2, 1) := by decide +kernel
theorem dw_L_law_774 : decode code 774 = .ok (.iadd, 1) := by decide +kernel
theorem dw_L_law_775 : decode code 775 = .ok (.iaload, 1) := by decide +kernel
theorem dw_L_law_776 : decode code 776 = .ok (.invokevirtual 82, 3) := by decide +kernel
theorem dw_L_law_779 : decode code 779 = .ok (.aload_n 2, 1) := by decide +kernel
theorem dw_L_law_780 : decode code 780 = .ok (.aload_n 0, 1) := by decide +kernel
theorem dw_L_law_781 : decode code 781 = .ok (.iload_n 3, 1) := by decide +kernel
theorem dw_L_law_782 : decode code 782 = .ok (.iconst 1, 1) := by decide +kernel
theorem dw_L_law_783 : decode code 783 = .ok (.iadd, 1) := by decide +kernel
theorem dw_L_law_784 : decode code 784 = .ok (.iaload, 1) := by decide +kernel
theorem dw_L_law_785 : decode code 785 = .ok (.aload_n 0, 1) := by decide +kernel
theorem dw_L_law_786 : decode code 786 = .ok (.iload_n 3, 1) := by decide +kernel
theorem dw_L_law_787 : decode code 787 = .ok (.iconst 2, 1) := by decide +kernel
theorem dw_L_law_788 : decode code 788 = .ok (.iadd, 1) := by decide +kernel
theorem dw_L_law_789 : decode code 789 = .ok (.iaload, 1) := by decide +kernel
theorem dw_L_law_790 : decode code 790 = .ok (.invokevirtual 85, 3) := by decide +kernel
theorem dw_L_law_793 : decode code 793 = .ok (.if_icmp .eq 61, 3) := by decide +kernel
theorem dw_L_law_798 : decode code 798 = .ok (.aload_n 1, 1) := by decide +kernel
theorem dw_L_law_799 : decode code 799 = .ok (.aload_n 0, 1) := by decide +kernel
theorem dw_L_law_800 : decode code 800 = .ok (.iload_n 3, 1) := by decide +kernel
theorem dw_L_law_801 : decode code 801 = .ok (.iconst 1, 1) := by decide +kernel
theorem dw_L_law_802 : decode code 802 = .ok (.iadd, 1) := by decide +kernel
theorem dw_L_law_803 : decode code 803 = .ok (.iaload, 1) := by decide +kernel
theorem dw_L_law_804 : decode code 804 = .ok (.aload_n 0, 1) := by decide +kernel
theorem dw_L_law_805 : decode code 805 = .ok (.iload_n 3, 1) := by decide +kernel
theorem dw_L_law_806 : decode code 806 = .ok (.iconst 2, 1) := by decide +kernel
theorem dw_L_law_807 : decode code 807 = .ok (.iadd, 1) := by decide +kernel
theorem dw_L_law_808 : decode code 808 = .ok (.iaload, 1) := by decide +kernel
theorem dw_L_law_809 : decode code 809 = .ok (.invokevirtual 86, 3) := by decide +kernel
theorem dw_L_law_812 : decode code 812 = .ok (.aload_n 2, 1) := by decide +kernel
theorem dw_L_law_813 : decode code 813 = .ok (.aload_n 0, 1) := by decide +kernel
theorem dw_L_law_814 : decode code 814 = .ok (.iload_n 3, 1) := by decide +kernel
theorem dw_L_law_815 : decode code 815 = .ok (.iconst 1, 1) := by decide +kernel
theorem dw_L_law_816 : decode code 816 = .ok (.iadd, 1) := by decide +kernel
theorem dw_L_law_817 : decode code 817 = .ok (.iaload, 1) := by decide +kernel
theorem dw_L_law_818 : decode code 818 = .ok (.aload_n 0, 1) := by decide +kernel
theorem dw_L_law_819 : decode code 819 = .ok (.iload_n 3, 1) := by decide +kernel
theorem dw_L_law_820 : decode code 820 = .ok (.iconst 2, 1) := by decide +kernel
theorem dw_L_law_821 : decode code 821 = .ok (.iadd, 1) := by decide +kernel
theorem dw_L_law_822 : decode code 822 = .ok (.iaload, 1) := by decide +kernel
theorem dw_L_law_823 : decode code 823 = .ok (.invokevirtual 89, 3) := by decide +kernel
theorem dw_L_law_826 : decode code 826 = .ok (.if_icmp .eq 28, 3) := by decide +kernel
theorem dw_L_law_831 : decode code 831 = .ok (.aload_n 1, 1) := by decide +kernel
theorem dw_L_law_832 : decode code 832 = .ok (.aload_n 0, 1) := by decide +kernel
theorem dw_L_law_833 : decode code 833 = .ok (.iload_n 3, 1) := by decide +kernel
theorem dw_L_law_834 : decode code 834 = .ok (.iconst 1, 1) := by decide +kernel
theorem dw_L_law_835 : decode code 835 = .ok (.iadd, 1) := by decide +kernel
theorem dw_L_law_836 : decode code 836 = .ok (.iaload, 1) := by decide +kernel
theorem dw_L_law_837 : decode code 837 = .ok (.invokevirtual 90, 3) := by decide +kernel
theorem dw_L_law_840 : decode code 840 = .ok (.aload_n 2, 1) := by decide +kernel
theorem dw_L_law_841 : decode code 841 = .ok (.aload_n 0, 1) := by decide +kernel
theorem dw_L_law_842 : decode code 842 = .ok (.iload_n 3, 1) := by decide +kernel
theorem dw_L_law_843 : decode code 843 = .ok (.iconst 1, 1) := by decide +kernel
theorem dw_L_law_844 : decode code 844 = .ok (.iadd, 1) := by decide +kernel
theorem dw_L_law_845 : decode code 845 = .ok (.iaload, 1) := by decide +kernel
theorem dw_L_law_846 : decode code 846 = .ok (.invokevirtual 93, 3) := by decide +kernel
theorem dw_L_law_849 : decode code 849 = .ok (.if_icmp .eq 5, 3) := by decide +kernel
theorem dw_L_law_0 : decode code 0 = .ok (.new 7, 3) := by decide +kernel
theorem dw_L_law_3 : decode code 3 = .ok (.dup, 1) := by decide +kernel
theorem dw_L_law_4 : decode code 4 = .ok (.invokespecial 9, 3) := by decide +kernel
theorem dw_L_law_7 : decode code 7 = .ok (.astore_n 1, 1) := by decide +kernel
theorem dw_L_law_8 : decode code 8 = .ok (.new 10, 3) := by decide +kernel
theorem dw_L_law_11 : decode code 11 = .ok (.dup, 1) := by decide +kernel
theorem dw_L_law_12 : decode code 12 = .ok (.invokespecial 12, 3) := by decide +kernel
theorem dw_L_law_15 : decode code 15 = .ok (.astore_n 2, 1) := by decide +kernel
theorem dw_L_law_16 : decode code 16 = .ok (.iconst 0, 1) := by decide +kernel
theorem dw_L_law_17 : decode code 17 = .ok (.istore_n 3, 1) := by decide +kernel
theorem dw_L_law_18 : decode code 18 = .ok (.iload_n 3, 1) := by decide +kernel
theorem dw_L_law_19 : decode code 19 = .ok (.aload_n 0, 1) := by decide +kernel
theorem dw_L_law_20 : decode code 20 = .ok (.arraylength, 1) := by decide +kernel
theorem dw_L_law_21 : decode code 21 = .ok (.bipush 7, 2) := by decide +kernel
theorem dw_L_law_23 : decode code 23 = .ok (.isub, 1) := by decide +kernel
theorem dw_L_law_24 : decode code 24 = .ok (.if_icmp .gt 836, 3) := by decide +kernel
theorem dw_L_law_27 : decode code 27 = .ok (.aload_n 0, 1) := by decide +kernel
theorem dw_L_law_28 : decode code 28 = .ok (.iload_n 3, 1) := by decide +kernel
theorem dw_L_law_29 : decode code 29 = .ok (.iaload, 1) := by decide +kernel
theorem dw_L_law_30 : decode code 30 = .ok (.bipush 31, 2) := by decide +kernel
theorem dw_L_law_32 : decode code 32 = .ok (.iand, 1) := by decide +kernel
theorem dw_L_law_33 : decode code 33 = .ok (.tableswitch 821 0 17 #[87, 120, 153, 176, 215, 248, 297, 336, 359, 392, 507, 580, 653, 676, 709, 732, 765, 798], 87) := by decide +kernel
theorem dw_L_law_151 : decode code 151 = .ok (.iconst 0, 1) := by decide +kernel
theorem dw_L_law_152 : decode code 152 = .ok (.ireturn, 1) := by decide +kernel
theorem dw_L_law_184 : decode code 184 = .ok (.iconst 0, 1) := by decide +kernel
theorem dw_L_law_185 : decode code 185 = .ok (.ireturn, 1) := by decide +kernel
theorem dw_L_law_207 : decode code 207 = .ok (.iconst 0, 1) := by decide +kernel
theorem dw_L_law_208 : decode code 208 = .ok (.ireturn, 1) := by decide +kernel
theorem dw_L_law_246 : decode code 246 = .ok (.iconst 0, 1) := by decide +kernel
theorem dw_L_law_247 : decode code 247 = .ok (.ireturn, 1) := by decide +kernel
theorem dw_L_law_279 : decode code 279 = .ok (.iconst 0, 1) := by decide +kernel
theorem dw_L_law_280 : decode code 280 = .ok (.ireturn, 1) := by decide +kernel
theorem dw_L_law_328 : decode code 328 = .ok (.iconst 0, 1) := by decide +kernel
theorem dw_L_law_329 : decode code 329 = .ok (.ireturn, 1) := by decide +kernel
theorem dw_L_law_367 : decode code 367 = .ok (.iconst 0, 1) := by decide +kernel
theorem dw_L_law_368 : decode code 368 = .ok (.ireturn, 1) := by decide +kernel
theorem dw_L_law_390 : decode code 390 = .ok (.iconst 0, 1) := by decide +kernel
theorem dw_L_law_391 : decode code 391 = .ok (.ireturn, 1) := by decide +kernel
theorem dw_L_law_423 : decode code 423 = .ok (.iconst 0, 1) := by decide +kernel
theorem dw_L_law_424 : decode code 424 = .ok (.ireturn, 1) := by decide +kernel
theorem dw_L_law_538 : decode code 538 = .ok (.iconst 0, 1) := by decide +kernel
theorem dw_L_law_539 : decode code 539 = .ok (.ireturn, 1) := by decide +kernel
theorem dw_L_law_611 : decode code 611 = .ok (.iconst 0, 1) := by decide +kernel
theorem dw_L_law_612 : decode code 612 = .ok (.ireturn, 1) := by decide +kernel
theorem dw_L_law_684 : decode code 684 = .ok (.iconst 0, 1) := by decide +kernel
theorem dw_L_law_685 : decode code 685 = .ok (.ireturn, 1) := by decide +kernel
theorem dw_L_law_707 : decode code 707 = .ok (.iconst 0, 1) := by decide +kernel
theorem dw_L_law_708 : decode code 708 = .ok (.ireturn, 1) := by decide +kernel
theorem dw_L_law_740 : decode code 740 = .ok (.iconst 0, 1) := by decide +kernel
theorem dw_L_law_741 : decode code 741 = .ok (.ireturn, 1) := by decide +kernel
theorem dw_L_law_763 : decode code 763 = .ok (.iconst 0, 1) := by decide +kernel
theorem dw_L_law_764 : decode code 764 = .ok (.ireturn, 1) := by decide +kernel
theorem dw_L_law_796 : decode code 796 = .ok (.iconst 0, 1) := by decide +kernel
theorem dw_L_law_797 : decode code 797 = .ok (.ireturn, 1) := by decide +kernel
theorem dw_L_law_829 : decode code 829 = .ok (.iconst 0, 1) := by decide +kernel
theorem dw_L_law_830 : decode code 830 = .ok (.ireturn, 1) := by decide +kernel
theorem dw_L_law_852 : decode code 852 = .ok (.iconst 0, 1) := by decide +kernel
theorem dw_L_law_853 : decode code 853 = .ok (.ireturn, 1) := by decide +kernel
theorem dw_L_law_854 : decode code 854 = .ok (.iinc 3 7, 3) := by decide +kernel
theorem dw_L_law_857 : decode code 857 = .ok (.goto (-839), 3) := by decide +kernel
theorem dw_L_law_860 : decode code 860 = .ok (.iconst 1, 1) := by decide +kernel
theorem dw_L_law_861 : decode code 861 = .ok (.ireturn, 1) := by decide +kernel
section LW
variable {V : gi_V} {X : gx_X} {cc : ByteArray} {own : String} {nL fr lo mc ms : Nat} {Qq : State → Prop} {ws : va_W} {cn sn pc : Nat} {lv : List (Nat × Value)} {st : List Value}
theorem gj_icmp_eq (hX : gj_K V X cc own nL fr lo mc ms) {x y : Int32} {off : Int} (tgt n : Nat) (hd : decode cc pc = .ok (.if_icmp .eq off, 3)) (ht : (pc : Int) + off = (tgt : Int)) (hn : pc + 3 = n) (k1 : x = y → gj_G V X Qq ws cn sn tgt lv st) (k2 : ¬ x = y → gj_G V X Qq ws cn sn n lv st) : gj_G V X Qq ws cn sn pc lv (.int y :: .int x :: st) := by
  subst hn
  exact gj_br hX (fun hx hb a b => lv_icmp_eq hx hb hd ht a b) k1 k2
theorem gj_icmp_gt (hX : gj_K V X cc own nL fr lo mc ms) {x y : Int32} {off : Int} (tgt n : Nat) (hd : decode cc pc = .ok (.if_icmp .gt off, 3)) (ht : (pc : Int) + off = (tgt : Int)) (hn : pc + 3 = n) (k1 : y < x → gj_G V X Qq ws cn sn tgt lv st) (k2 : ¬ y < x → gj_G V X Qq ws cn sn n lv st) : gj_G V X Qq ws cn sn pc lv (.int y :: .int x :: st) := by
  subst hn
  exact gj_br hX (fun hx hb a b => lv_icmp_gt hx hb hd ht a b) k1 k2
theorem gj_if_eq (hX : gj_K V X cc own nL fr lo mc ms) {x : Int32} {off : Int} (tgt n : Nat) (hd : decode cc pc = .ok (.ifCond .eq off, 3)) (ht : (pc : Int) + off = (tgt : Int)) (hn : pc + 3 = n) (k1 : x = 0 → gj_G V X Qq ws cn sn tgt lv st) (k2 : ¬ x = 0 → gj_G V X Qq ws cn sn n lv st) : gj_G V X Qq ws cn sn pc lv (.int x :: st) := by
  subst hn
  exact gj_br hX (fun hx hb a b => lv_if_eq hx hb hd ht a b) k1 k2
theorem gj_tswIn (hX : gj_K V X cc own nL fr lo mc ms) {dflt lo' hi : Int} {offs : Array Int} {len : Nat} {x : Int32} {off : Int} (tgt : Nat) (hd : decode cc pc = .ok (.tableswitch dflt lo' hi offs, len)) (h1 : ¬ x.toInt < lo') (h2 : ¬ hi < x.toInt) (ho : offs[(x.toInt - lo').toNat]? = some off) (ht : (pc : Int) + off = (tgt : Int)) (k : gj_G V X Qq ws cn sn tgt lv st) : gj_G V X Qq ws cn sn pc lv (.int x :: st) := gj_lv hX (fun hx hb hl kk => lv_tableIn hx hb hd h1 h2 ho ht (kk _ hl)) k
theorem gj_tswOut (hX : gj_K V X cc own nL fr lo mc ms) {dflt lo' hi : Int} {offs : Array Int} {len : Nat} {x : Int32} (tgt : Nat) (hd : decode cc pc = .ok (.tableswitch dflt lo' hi offs, len)) (h : x.toInt < lo' ∨ hi < x.toInt) (ht : (pc : Int) + dflt = (tgt : Int)) (k : gj_G V X Qq ws cn sn tgt lv st) : gj_G V X Qq ws cn sn pc lv (.int x :: st) := gj_lv hX (fun hx hb hl kk => lv_tableOut hx hb hd h ht (kk _ hl)) k
theorem gj_subR {wr w w' : va_W} (is : List Nat) (hn : va_nd is = true) (hs : is.map (fun i => w[i]?) = w'.map some) (k : gj_G V X Qq (wr ++ w') cn sn pc lv st) : gj_G V X Qq (wr ++ w) cn sn pc lv st := by
  have key : ∀ (k : Nat) (q : Nat × va_E), w'[k]? = some q → ∃ i, is[k]? = some i ∧ w[i]? = some q := by
    intro k q hq
    have h1 : (is.map (fun i => w[i]?))[k]? = some (some q) := by rw [hs, List.getElem?_map, hq]; rfl
    rw [List.getElem?_map] at h1
    cases hi : is[k]? with
    | none => rw [hi] at h1; cases h1
    | some i => rw [hi] at h1; exact ⟨i, rfl, Option.some.inj h1⟩
  have up : ∀ (i : Nat) (q : Nat × va_E), w[i]? = some q → (wr ++ w)[wr.length + i]? = some q := fun i q h => by rw [List.getElem?_append_right (by omega), show wr.length + i - wr.length = i by omega]; exact h
  have lf : ∀ (i : Nat) (q : Nat × va_E), wr[i]? = some q → (wr ++ w)[i]? = some q := fun i q h => by rw [List.getElem?_append_left (List.getElem?_eq_some_iff.mp h).1]; exact h
  refine gj_ws (fun D cl H h => va_P.app (fun k q hq => h k q (lf k q hq)) (fun k q hq => ?_)) (fun A h => va_D.app ⟨fun i j p q h1 h2 e => h.1 i j p q (lf i p h1) (lf j q h2) e, fun k q hq => h.2 k q (lf k q hq)⟩ ⟨fun i j p q h1 h2 e => ?_, fun k q hq => ?_⟩ (fun i j x y hx hy e => ?_)) k
  · obtain ⟨i, -, h2⟩ := key k q hq
    exact h _ q (up i q h2)
  · obtain ⟨a, a1, a2⟩ := key i p h1
    obtain ⟨b, b1, b2⟩ := key j q h2
    have e2 := h.1 _ _ p q (up a p a2) (up b q b2) e
    have e3 : a = b := by omega
    subst e3
    exact va_nd_inj is hn i j a a1 b1
  · obtain ⟨i, -, h2⟩ := key k q hq
    exact h.2 _ q (up i q h2)
  · obtain ⟨b, -, b2⟩ := key j y hy
    have e2 := h.1 _ _ x y (lf i x hx) (up b y b2) e
    have e3 := (List.getElem?_eq_some_iff.mp hx).1
    omega
end LW
theorem lw_K {s : State} {args : Array Value} (hts : ∀ w ∈ gx_T, w.before args s = true) : ∃ (D : va_G) (cI cB cS cZ : ClassId), va_K D tq_cl [(cI, .int), (cB, .byte), (cS, .short), (cZ, .boolean)] s := by
  obtain ⟨c0, i0, h0⟩ := u_known (C := "TypeLoom") (T := tf_0) (N := 8) (n := 8) hts ti_0 (hts _ tw_84)
  obtain ⟨c1, i1, h1⟩ := u_known (C := "TypeLoom$Constructors") (T := tf_1) (N := 3) (n := 3) hts ti_1 (hts _ tw_92)
  obtain ⟨c2, i2, h2⟩ := u_known (C := "TypeLoom$Pushed") (T := tf_2) (N := 4) (n := 4) hts ti_2 (hts _ tw_123)
  obtain ⟨c3, i3, h3⟩ := u_known (C := "TypeLoom$Web") (T := tf_3) (N := 17) (n := 17) hts ti_3 (hts _ tw_148)
  obtain ⟨c4, i4, h4⟩ := u_known (C := "TypeLoom$Walk") (T := tf_4) (N := 9) (n := 9) hts ti_4 (hts _ tw_245)
  obtain ⟨c5, i5, h5⟩ := u_known (C := "TypeLoom$Shapes") (T := tf_5) (N := 7) (n := 7) hts ti_5 (hts _ tw_285)
  obtain ⟨c6, i6, h6⟩ := u_known (C := "TypeLoom$Unifier") (T := tf_6) (N := 18) (n := 18) hts ti_6 (hts _ tw_319)
  obtain ⟨c7, i7, h7⟩ := u_known (C := "TypeLoom$Schemes") (T := tf_7) (N := 18) (n := 18) hts ti_7 (hts _ tw_382)
  obtain ⟨c8, i8, h8⟩ := u_known (C := "TypeLoom$Ints") (T := tf_8) (N := 2) (n := 2) hts ti_8 (hts _ tw_98)
  obtain ⟨c9, i9, h9⟩ := u_known (C := "TypeLoomModel") (T := tf_9) (N := 73) (n := 73) hts ti_9 (hts _ tw_899)
  have arr : ∀ ty, Cond.arrayClass ty ∈ gx_T → ∃ cA, ArrOfT s cA ty ∧ s.vm.findClass ("[" ++ ty.toString) = some cA := fun ty h => by
    obtain ⟨cA, kA, comp, hf, hk, hkind⟩ := Cond.arrayClass_spec (hts _ h)
    exact ⟨cA, fun n z => ⟨fun k h => (by cases h), kA, hk, comp, hkind⟩, hf⟩
  obtain ⟨cI, aI, bI⟩ := arr .int tw_110
  obtain ⟨cB, aB, bB⟩ := arr .byte tw_1128
  obtain ⟨cS, aS, bS⟩ := arr .short tw_1129
  obtain ⟨cZ, aZ, bZ⟩ := arr .boolean tw_1130
  refine ⟨(fun k => ([c0, c1, c2, c3, c4, c5, c6, c7, c8, c9] : List ClassId).getD k c0, fun k => ([i0, i1, i2, i3, i4, i5, i6, i7, i8, i9] : List (Nat → Nat)).getD k i0), cI, cB, cS, cZ, fun k q hq => ?_, fun k q hq => ?_⟩
  · match k, hq with
    | 0, hq => cases hq; exact h0
    | 1, hq => cases hq; exact h1
    | 2, hq => cases hq; exact h2
    | 3, hq => cases hq; exact h3
    | 4, hq => cases hq; exact h4
    | 5, hq => cases hq; exact h5
    | 6, hq => cases hq; exact h6
    | 7, hq => cases hq; exact h7
    | 8, hq => cases hq; exact h8
    | 9, hq => cases hq; exact h9
    | k + 10, hq => simp [tq_cl] at hq
  · match k, hq with
    | 0, hq => cases hq; exact ⟨aI, bI⟩
    | 1, hq => cases hq; exact ⟨aB, bB⟩
    | 2, hq => cases hq; exact ⟨aS, bS⟩
    | 3, hq => cases hq; exact ⟨aZ, bZ⟩
    | k + 4, hq => simp at hq
