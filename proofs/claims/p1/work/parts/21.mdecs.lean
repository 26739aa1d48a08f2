theorem tw_903 : (Jvm.Cond.methodLink "TypeLoomModel" (1 : Nat) ({ cls := "java/lang/Object", name := "<init>", desc := "()V" } : Jvm.MethodName)) ∈ gx_T := gx_mem (i := 903) (by decide +kernel) (by decide +kernel)
theorem tw_905 : (Jvm.Cond.constant "TypeLoomModel" (68 : Nat) (70000 : Int32)) ∈ gx_T := gx_mem (i := 905) (by decide +kernel) (by decide +kernel)
theorem tw_906 : (Jvm.Cond.constant "TypeLoomModel" (105 : Nat) (32900 : Int32)) ∈ gx_T := gx_mem (i := 906) (by decide +kernel) (by decide +kernel)
theorem tw_907 : (Jvm.Cond.constant "TypeLoomModel" (160 : Nat) (140000 : Int32)) ∈ gx_T := gx_mem (i := 907) (by decide +kernel) (by decide +kernel)
theorem tw_928 : (Jvm.Cond.fieldLink "TypeLoomModel" (59 : Nat) "TypeLoomModel" "rowFirst" "[I") ∈ gx_T := gx_mem (i := 928) (by decide +kernel) (by decide +kernel)
theorem tw_932 : (Jvm.Cond.fieldLink "TypeLoomModel" (69 : Nat) "TypeLoomModel" "rowPart" "[S") ∈ gx_T := gx_mem (i := 932) (by decide +kernel) (by decide +kernel)
theorem tw_933 : (Jvm.Cond.fieldLink "TypeLoomModel" (72 : Nat) "TypeLoomModel" "rowLabel" "[S") ∈ gx_T := gx_mem (i := 933) (by decide +kernel) (by decide +kernel)
theorem tw_947 : (Jvm.Cond.fieldLink "TypeLoomModel" (102 : Nat) "TypeLoomModel" "sRow" "[I") ∈ gx_T := gx_mem (i := 947) (by decide +kernel) (by decide +kernel)
theorem tw_952 : (Jvm.Cond.fieldLink "TypeLoomModel" (112 : Nat) "TypeLoomModel" "left" "[S") ∈ gx_T := gx_mem (i := 952) (by decide +kernel) (by decide +kernel)
theorem tw_953 : (Jvm.Cond.fieldLink "TypeLoomModel" (115 : Nat) "TypeLoomModel" "right" "[S") ∈ gx_T := gx_mem (i := 953) (by decide +kernel) (by decide +kernel)
theorem tw_954 : (Jvm.Cond.fieldLink "TypeLoomModel" (118 : Nat) "TypeLoomModel" "join" "[I") ∈ gx_T := gx_mem (i := 954) (by decide +kernel) (by decide +kernel)
theorem tw_955 : (Jvm.Cond.fieldLink "TypeLoomModel" (121 : Nat) "TypeLoomModel" "oldLevel" "[B") ∈ gx_T := gx_mem (i := 955) (by decide +kernel) (by decide +kernel)
theorem tw_956 : (Jvm.Cond.fieldLink "TypeLoomModel" (124 : Nat) "TypeLoomModel" "oldWish" "[Z") ∈ gx_T := gx_mem (i := 956) (by decide +kernel) (by decide +kernel)
theorem tw_957 : (Jvm.Cond.fieldLink "TypeLoomModel" (127 : Nat) "TypeLoomModel" "oldSets" "[I") ∈ gx_T := gx_mem (i := 957) (by decide +kernel) (by decide +kernel)
theorem tw_958 : (Jvm.Cond.fieldLink "TypeLoomModel" (130 : Nat) "TypeLoomModel" "oldLink" "[I") ∈ gx_T := gx_mem (i := 958) (by decide +kernel) (by decide +kernel)
theorem tw_959 : (Jvm.Cond.fieldLink "TypeLoomModel" (133 : Nat) "TypeLoomModel" "oldRowLevel" "[B") ∈ gx_T := gx_mem (i := 959) (by decide +kernel) (by decide +kernel)
theorem tw_960 : (Jvm.Cond.fieldLink "TypeLoomModel" (136 : Nat) "TypeLoomModel" "oldRowWish" "[Z") ∈ gx_T := gx_mem (i := 960) (by decide +kernel) (by decide +kernel)
theorem tw_961 : (Jvm.Cond.fieldLink "TypeLoomModel" (139 : Nat) "TypeLoomModel" "oldRowMany" "[I") ∈ gx_T := gx_mem (i := 961) (by decide +kernel) (by decide +kernel)
theorem tw_963 : (Jvm.Cond.fieldLink "TypeLoomModel" (142 : Nat) "TypeLoomModel" "boundOnes" "[S") ∈ gx_T := gx_mem (i := 963) (by decide +kernel) (by decide +kernel)
theorem tw_965 : (Jvm.Cond.fieldLink "TypeLoomModel" (145 : Nat) "TypeLoomModel" "boundRow" "[S") ∈ gx_T := gx_mem (i := 965) (by decide +kernel) (by decide +kernel)
theorem tw_967 : (Jvm.Cond.fieldLink "TypeLoomModel" (148 : Nat) "TypeLoomModel" "oneLabel" "[I") ∈ gx_T := gx_mem (i := 967) (by decide +kernel) (by decide +kernel)
theorem tw_968 : (Jvm.Cond.fieldLink "TypeLoomModel" (151 : Nat) "TypeLoomModel" "one" "[I") ∈ gx_T := gx_mem (i := 968) (by decide +kernel) (by decide +kernel)
theorem tw_970 : (Jvm.Cond.fieldLink "TypeLoomModel" (154 : Nat) "TypeLoomModel" "twoLabel" "[I") ∈ gx_T := gx_mem (i := 970) (by decide +kernel) (by decide +kernel)
theorem tw_971 : (Jvm.Cond.fieldLink "TypeLoomModel" (157 : Nat) "TypeLoomModel" "two" "[I") ∈ gx_T := gx_mem (i := 971) (by decide +kernel) (by decide +kernel)
theorem tw_973 : (Jvm.Cond.fieldLink "TypeLoomModel" (161 : Nat) "TypeLoomModel" "pile" "[S") ∈ gx_T := gx_mem (i := 973) (by decide +kernel) (by decide +kernel)
theorem tw_974 : (Jvm.Cond.fieldLink "TypeLoomModel" (164 : Nat) "TypeLoomModel" "mark" "[B") ∈ gx_T := gx_mem (i := 974) (by decide +kernel) (by decide +kernel)
theorem tw_1128 : (Jvm.Cond.arrayClass Jvm.ClassFile.FieldType.byte) ∈ gx_T := gx_mem (i := 1128) (by decide +kernel) (by decide +kernel)
theorem tw_1129 : (Jvm.Cond.arrayClass Jvm.ClassFile.FieldType.short) ∈ gx_T := gx_mem (i := 1129) (by decide +kernel) (by decide +kernel)
theorem tw_1130 : (Jvm.Cond.arrayClass Jvm.ClassFile.FieldType.boolean) ∈ gx_T := gx_mem (i := 1130) (by decide +kernel) (by decide +kernel)
theorem dw_M_init_0 : decode prog_11_method_1_code 0 = .ok (.aload_n 0, 1) := by decide +kernel
theorem dw_M_init_1 : decode prog_11_method_1_code 1 = .ok (.invokespecial 1, 3) := by decide +kernel
theorem dw_M_init_4 : decode prog_11_method_1_code 4 = .ok (.aload_n 0, 1) := by decide +kernel
theorem dw_M_init_5 : decode prog_11_method_1_code 5 = .ok (.sipush 2048, 3) := by decide +kernel
theorem dw_M_init_8 : decode prog_11_method_1_code 8 = .ok (.newarray .byte, 2) := by decide +kernel
theorem dw_M_init_10 : decode prog_11_method_1_code 10 = .ok (.putfield 7, 3) := by decide +kernel
theorem dw_M_init_13 : decode prog_11_method_1_code 13 = .ok (.aload_n 0, 1) := by decide +kernel
theorem dw_M_init_14 : decode prog_11_method_1_code 14 = .ok (.sipush 2048, 3) := by decide +kernel
theorem dw_M_init_17 : decode prog_11_method_1_code 17 = .ok (.newarray .byte, 2) := by decide +kernel
theorem dw_M_init_19 : decode prog_11_method_1_code 19 = .ok (.putfield 13, 3) := by decide +kernel
theorem dw_M_init_22 : decode prog_11_method_1_code 22 = .ok (.aload_n 0, 1) := by decide +kernel
theorem dw_M_init_23 : decode prog_11_method_1_code 23 = .ok (.sipush 24576, 3) := by decide +kernel
theorem dw_M_init_26 : decode prog_11_method_1_code 26 = .ok (.newarray .byte, 2) := by decide +kernel
theorem dw_M_init_28 : decode prog_11_method_1_code 28 = .ok (.putfield 16, 3) := by decide +kernel
theorem dw_M_init_31 : decode prog_11_method_1_code 31 = .ok (.aload_n 0, 1) := by decide +kernel
theorem dw_M_init_32 : decode prog_11_method_1_code 32 = .ok (.sipush 24576, 3) := by decide +kernel
theorem dw_M_init_35 : decode prog_11_method_1_code 35 = .ok (.newarray .int, 2) := by decide +kernel
theorem dw_M_init_37 : decode prog_11_method_1_code 37 = .ok (.putfield 19, 3) := by decide +kernel
theorem dw_M_init_40 : decode prog_11_method_1_code 40 = .ok (.aload_n 0, 1) := by decide +kernel
theorem dw_M_init_41 : decode prog_11_method_1_code 41 = .ok (.sipush 24576, 3) := by decide +kernel
theorem dw_M_init_44 : decode prog_11_method_1_code 44 = .ok (.newarray .int, 2) := by decide +kernel
theorem dw_M_init_46 : decode prog_11_method_1_code 46 = .ok (.putfield 23, 3) := by decide +kernel
theorem dw_M_init_49 : decode prog_11_method_1_code 49 = .ok (.aload_n 0, 1) := by decide +kernel
theorem dw_M_init_50 : decode prog_11_method_1_code 50 = .ok (.sipush 24576, 3) := by decide +kernel
theorem dw_M_init_53 : decode prog_11_method_1_code 53 = .ok (.newarray .short, 2) := by decide +kernel
theorem dw_M_init_55 : decode prog_11_method_1_code 55 = .ok (.putfield 26, 3) := by decide +kernel
theorem dw_M_init_58 : decode prog_11_method_1_code 58 = .ok (.aload_n 0, 1) := by decide +kernel
theorem dw_M_init_59 : decode prog_11_method_1_code 59 = .ok (.sipush 24576, 3) := by decide +kernel
theorem dw_M_init_62 : decode prog_11_method_1_code 62 = .ok (.newarray .int, 2) := by decide +kernel
theorem dw_M_init_64 : decode prog_11_method_1_code 64 = .ok (.putfield 30, 3) := by decide +kernel
theorem dw_M_init_67 : decode prog_11_method_1_code 67 = .ok (.aload_n 0, 1) := by decide +kernel
theorem dw_M_init_68 : decode prog_11_method_1_code 68 = .ok (.sipush 24576, 3) := by decide +kernel
theorem dw_M_init_71 : decode prog_11_method_1_code 71 = .ok (.newarray .byte, 2) := by decide +kernel
theorem dw_M_init_73 : decode prog_11_method_1_code 73 = .ok (.putfield 33, 3) := by decide +kernel
theorem dw_M_init_76 : decode prog_11_method_1_code 76 = .ok (.aload_n 0, 1) := by decide +kernel
theorem dw_M_init_77 : decode prog_11_method_1_code 77 = .ok (.sipush 24576, 3) := by decide +kernel
theorem dw_M_init_80 : decode prog_11_method_1_code 80 = .ok (.newarray .boolean, 2) := by decide +kernel
theorem dw_M_init_82 : decode prog_11_method_1_code 82 = .ok (.putfield 36, 3) := by decide +kernel
theorem dw_M_init_85 : decode prog_11_method_1_code 85 = .ok (.aload_n 0, 1) := by decide +kernel
theorem dw_M_init_86 : decode prog_11_method_1_code 86 = .ok (.sipush 24576, 3) := by decide +kernel
theorem dw_M_init_89 : decode prog_11_method_1_code 89 = .ok (.newarray .int, 2) := by decide +kernel
theorem dw_M_init_91 : decode prog_11_method_1_code 91 = .ok (.putfield 40, 3) := by decide +kernel
theorem dw_M_init_94 : decode prog_11_method_1_code 94 = .ok (.aload_n 0, 1) := by decide +kernel
theorem dw_M_init_95 : decode prog_11_method_1_code 95 = .ok (.sipush 24576, 3) := by decide +kernel
theorem dw_M_init_98 : decode prog_11_method_1_code 98 = .ok (.newarray .int, 2) := by decide +kernel
theorem dw_M_init_100 : decode prog_11_method_1_code 100 = .ok (.putfield 43, 3) := by decide +kernel
theorem dw_M_init_103 : decode prog_11_method_1_code 103 = .ok (.aload_n 0, 1) := by decide +kernel
theorem dw_M_init_104 : decode prog_11_method_1_code 104 = .ok (.ldc 46, 2) := by decide +kernel
theorem dw_M_init_106 : decode prog_11_method_1_code 106 = .ok (.newarray .short, 2) := by decide +kernel
theorem dw_M_init_108 : decode prog_11_method_1_code 108 = .ok (.putfield 47, 3) := by decide +kernel
theorem dw_M_init_111 : decode prog_11_method_1_code 111 = .ok (.aload_n 0, 1) := by decide +kernel
theorem dw_M_init_112 : decode prog_11_method_1_code 112 = .ok (.ldc 46, 2) := by decide +kernel
theorem dw_M_init_114 : decode prog_11_method_1_code 114 = .ok (.newarray .short, 2) := by decide +kernel
theorem dw_M_init_116 : decode prog_11_method_1_code 116 = .ok (.putfield 50, 3) := by decide +kernel
theorem dw_M_init_119 : decode prog_11_method_1_code 119 = .ok (.aload_n 0, 1) := by decide +kernel
theorem dw_M_init_120 : decode prog_11_method_1_code 120 = .ok (.sipush 1100, 3) := by decide +kernel
theorem dw_M_init_123 : decode prog_11_method_1_code 123 = .ok (.newarray .byte, 2) := by decide +kernel
theorem dw_M_init_125 : decode prog_11_method_1_code 125 = .ok (.putfield 53, 3) := by decide +kernel
theorem dw_M_init_128 : decode prog_11_method_1_code 128 = .ok (.aload_n 0, 1) := by decide +kernel
theorem dw_M_init_129 : decode prog_11_method_1_code 129 = .ok (.sipush 1100, 3) := by decide +kernel
theorem dw_M_init_132 : decode prog_11_method_1_code 132 = .ok (.newarray .boolean, 2) := by decide +kernel
theorem dw_M_init_134 : decode prog_11_method_1_code 134 = .ok (.putfield 56, 3) := by decide +kernel
theorem dw_M_init_137 : decode prog_11_method_1_code 137 = .ok (.aload_n 0, 1) := by decide +kernel
theorem dw_M_init_138 : decode prog_11_method_1_code 138 = .ok (.sipush 1100, 3) := by decide +kernel
theorem dw_M_init_141 : decode prog_11_method_1_code 141 = .ok (.newarray .int, 2) := by decide +kernel
theorem dw_M_init_143 : decode prog_11_method_1_code 143 = .ok (.putfield 59, 3) := by decide +kernel
theorem dw_M_init_146 : decode prog_11_method_1_code 146 = .ok (.aload_n 0, 1) := by decide +kernel
theorem dw_M_init_147 : decode prog_11_method_1_code 147 = .ok (.sipush 1100, 3) := by decide +kernel
theorem dw_M_init_150 : decode prog_11_method_1_code 150 = .ok (.newarray .int, 2) := by decide +kernel
theorem dw_M_init_152 : decode prog_11_method_1_code 152 = .ok (.putfield 62, 3) := by decide +kernel
theorem dw_M_init_155 : decode prog_11_method_1_code 155 = .ok (.aload_n 0, 1) := by decide +kernel
theorem dw_M_init_156 : decode prog_11_method_1_code 156 = .ok (.sipush 1100, 3) := by decide +kernel
theorem dw_M_init_159 : decode prog_11_method_1_code 159 = .ok (.newarray .int, 2) := by decide +kernel
theorem dw_M_init_161 : decode prog_11_method_1_code 161 = .ok (.putfield 65, 3) := by decide +kernel
theorem dw_M_init_164 : decode prog_11_method_1_code 164 = .ok (.aload_n 0, 1) := by decide +kernel
theorem dw_M_init_165 : decode prog_11_method_1_code 165 = .ok (.ldc 68, 2) := by decide +kernel
theorem dw_M_init_167 : decode prog_11_method_1_code 167 = .ok (.newarray .short, 2) := by decide +kernel
theorem dw_M_init_169 : decode prog_11_method_1_code 169 = .ok (.putfield 69, 3) := by decide +kernel
theorem dw_M_init_172 : decode prog_11_method_1_code 172 = .ok (.aload_n 0, 1) := by decide +kernel
theorem dw_M_init_173 : decode prog_11_method_1_code 173 = .ok (.ldc 68, 2) := by decide +kernel
theorem dw_M_init_175 : decode prog_11_method_1_code 175 = .ok (.newarray .short, 2) := by decide +kernel
theorem dw_M_init_177 : decode prog_11_method_1_code 177 = .ok (.putfield 72, 3) := by decide +kernel
theorem dw_M_init_180 : decode prog_11_method_1_code 180 = .ok (.aload_n 0, 1) := by decide +kernel
theorem dw_M_init_181 : decode prog_11_method_1_code 181 = .ok (.sipush 128, 3) := by decide +kernel
theorem dw_M_init_184 : decode prog_11_method_1_code 184 = .ok (.newarray .int, 2) := by decide +kernel
theorem dw_M_init_186 : decode prog_11_method_1_code 186 = .ok (.putfield 75, 3) := by decide +kernel
theorem dw_M_init_189 : decode prog_11_method_1_code 189 = .ok (.aload_n 0, 1) := by decide +kernel
theorem dw_M_init_190 : decode prog_11_method_1_code 190 = .ok (.sipush 128, 3) := by decide +kernel
theorem dw_M_init_193 : decode prog_11_method_1_code 193 = .ok (.newarray .int, 2) := by decide +kernel
theorem dw_M_init_195 : decode prog_11_method_1_code 195 = .ok (.putfield 78, 3) := by decide +kernel
theorem dw_M_init_198 : decode prog_11_method_1_code 198 = .ok (.aload_n 0, 1) := by decide +kernel
theorem dw_M_init_199 : decode prog_11_method_1_code 199 = .ok (.sipush 2049, 3) := by decide +kernel
theorem dw_M_init_202 : decode prog_11_method_1_code 202 = .ok (.newarray .int, 2) := by decide +kernel
theorem dw_M_init_204 : decode prog_11_method_1_code 204 = .ok (.putfield 81, 3) := by decide +kernel
theorem dw_M_init_207 : decode prog_11_method_1_code 207 = .ok (.aload_n 0, 1) := by decide +kernel
theorem dw_M_init_208 : decode prog_11_method_1_code 208 = .ok (.sipush 2048, 3) := by decide +kernel
theorem dw_M_init_211 : decode prog_11_method_1_code 211 = .ok (.newarray .int, 2) := by decide +kernel
theorem dw_M_init_213 : decode prog_11_method_1_code 213 = .ok (.putfield 84, 3) := by decide +kernel
theorem dw_M_init_216 : decode prog_11_method_1_code 216 = .ok (.aload_n 0, 1) := by decide +kernel
theorem dw_M_init_217 : decode prog_11_method_1_code 217 = .ok (.sipush 2048, 3) := by decide +kernel
theorem dw_M_init_220 : decode prog_11_method_1_code 220 = .ok (.newarray .int, 2) := by decide +kernel
theorem dw_M_init_222 : decode prog_11_method_1_code 222 = .ok (.putfield 87, 3) := by decide +kernel
theorem dw_M_init_225 : decode prog_11_method_1_code 225 = .ok (.aload_n 0, 1) := by decide +kernel
theorem dw_M_init_226 : decode prog_11_method_1_code 226 = .ok (.sipush 2048, 3) := by decide +kernel
theorem dw_M_init_229 : decode prog_11_method_1_code 229 = .ok (.newarray .boolean, 2) := by decide +kernel
theorem dw_M_init_231 : decode prog_11_method_1_code 231 = .ok (.putfield 90, 3) := by decide +kernel
theorem dw_M_init_234 : decode prog_11_method_1_code 234 = .ok (.aload_n 0, 1) := by decide +kernel
theorem dw_M_init_235 : decode prog_11_method_1_code 235 = .ok (.sipush 16386, 3) := by decide +kernel
theorem dw_M_init_238 : decode prog_11_method_1_code 238 = .ok (.newarray .byte, 2) := by decide +kernel
theorem dw_M_init_240 : decode prog_11_method_1_code 240 = .ok (.putfield 93, 3) := by decide +kernel
theorem dw_M_init_243 : decode prog_11_method_1_code 243 = .ok (.aload_n 0, 1) := by decide +kernel
theorem dw_M_init_244 : decode prog_11_method_1_code 244 = .ok (.sipush 16386, 3) := by decide +kernel
theorem dw_M_init_247 : decode prog_11_method_1_code 247 = .ok (.newarray .int, 2) := by decide +kernel
theorem dw_M_init_249 : decode prog_11_method_1_code 249 = .ok (.putfield 96, 3) := by decide +kernel
theorem dw_M_init_252 : decode prog_11_method_1_code 252 = .ok (.aload_n 0, 1) := by decide +kernel
theorem dw_M_init_253 : decode prog_11_method_1_code 253 = .ok (.sipush 16386, 3) := by decide +kernel
theorem dw_M_init_256 : decode prog_11_method_1_code 256 = .ok (.newarray .int, 2) := by decide +kernel
theorem dw_M_init_258 : decode prog_11_method_1_code 258 = .ok (.putfield 99, 3) := by decide +kernel
theorem dw_M_init_261 : decode prog_11_method_1_code 261 = .ok (.aload_n 0, 1) := by decide +kernel
theorem dw_M_init_262 : decode prog_11_method_1_code 262 = .ok (.sipush 16386, 3) := by decide +kernel
theorem dw_M_init_265 : decode prog_11_method_1_code 265 = .ok (.newarray .int, 2) := by decide +kernel
theorem dw_M_init_267 : decode prog_11_method_1_code 267 = .ok (.putfield 102, 3) := by decide +kernel
theorem dw_M_init_270 : decode prog_11_method_1_code 270 = .ok (.aload_n 0, 1) := by decide +kernel
theorem dw_M_init_271 : decode prog_11_method_1_code 271 = .ok (.ldc 105, 2) := by decide +kernel
theorem dw_M_init_273 : decode prog_11_method_1_code 273 = .ok (.newarray .short, 2) := by decide +kernel
theorem dw_M_init_275 : decode prog_11_method_1_code 275 = .ok (.putfield 106, 3) := by decide +kernel
theorem dw_M_init_278 : decode prog_11_method_1_code 278 = .ok (.aload_n 0, 1) := by decide +kernel
theorem dw_M_init_279 : decode prog_11_method_1_code 279 = .ok (.ldc 105, 2) := by decide +kernel
theorem dw_M_init_281 : decode prog_11_method_1_code 281 = .ok (.newarray .short, 2) := by decide +kernel
theorem dw_M_init_283 : decode prog_11_method_1_code 283 = .ok (.putfield 109, 3) := by decide +kernel
theorem dw_M_init_286 : decode prog_11_method_1_code 286 = .ok (.aload_n 0, 1) := by decide +kernel
theorem dw_M_init_287 : decode prog_11_method_1_code 287 = .ok (.ldc 46, 2) := by decide +kernel
theorem dw_M_init_289 : decode prog_11_method_1_code 289 = .ok (.newarray .short, 2) := by decide +kernel
theorem dw_M_init_291 : decode prog_11_method_1_code 291 = .ok (.putfield 112, 3) := by decide +kernel
theorem dw_M_init_294 : decode prog_11_method_1_code 294 = .ok (.aload_n 0, 1) := by decide +kernel
theorem dw_M_init_295 : decode prog_11_method_1_code 295 = .ok (.ldc 46, 2) := by decide +kernel
theorem dw_M_init_297 : decode prog_11_method_1_code 297 = .ok (.newarray .short, 2) := by decide +kernel
theorem dw_M_init_299 : decode prog_11_method_1_code 299 = .ok (.putfield 115, 3) := by decide +kernel
theorem dw_M_init_302 : decode prog_11_method_1_code 302 = .ok (.aload_n 0, 1) := by decide +kernel
theorem dw_M_init_303 : decode prog_11_method_1_code 303 = .ok (.sipush 24576, 3) := by decide +kernel
theorem dw_M_init_306 : decode prog_11_method_1_code 306 = .ok (.newarray .int, 2) := by decide +kernel
theorem dw_M_init_308 : decode prog_11_method_1_code 308 = .ok (.putfield 118, 3) := by decide +kernel
theorem dw_M_init_311 : decode prog_11_method_1_code 311 = .ok (.aload_n 0, 1) := by decide +kernel
theorem dw_M_init_312 : decode prog_11_method_1_code 312 = .ok (.sipush 24576, 3) := by decide +kernel
theorem dw_M_init_315 : decode prog_11_method_1_code 315 = .ok (.newarray .byte, 2) := by decide +kernel
theorem dw_M_init_317 : decode prog_11_method_1_code 317 = .ok (.putfield 121, 3) := by decide +kernel
theorem dw_M_init_320 : decode prog_11_method_1_code 320 = .ok (.aload_n 0, 1) := by decide +kernel
theorem dw_M_init_321 : decode prog_11_method_1_code 321 = .ok (.sipush 24576, 3) := by decide +kernel
theorem dw_M_init_324 : decode prog_11_method_1_code 324 = .ok (.newarray .boolean, 2) := by decide +kernel
theorem dw_M_init_326 : decode prog_11_method_1_code 326 = .ok (.putfield 124, 3) := by decide +kernel
theorem dw_M_init_329 : decode prog_11_method_1_code 329 = .ok (.aload_n 0, 1) := by decide +kernel
theorem dw_M_init_330 : decode prog_11_method_1_code 330 = .ok (.sipush 24576, 3) := by decide +kernel
theorem dw_M_init_333 : decode prog_11_method_1_code 333 = .ok (.newarray .int, 2) := by decide +kernel
theorem dw_M_init_335 : decode prog_11_method_1_code 335 = .ok (.putfield 127, 3) := by decide +kernel
theorem dw_M_init_338 : decode prog_11_method_1_code 338 = .ok (.aload_n 0, 1) := by decide +kernel
theorem dw_M_init_339 : decode prog_11_method_1_code 339 = .ok (.sipush 24576, 3) := by decide +kernel
theorem dw_M_init_342 : decode prog_11_method_1_code 342 = .ok (.newarray .int, 2) := by decide +kernel
theorem dw_M_init_344 : decode prog_11_method_1_code 344 = .ok (.putfield 130, 3) := by decide +kernel
theorem dw_M_init_347 : decode prog_11_method_1_code 347 = .ok (.aload_n 0, 1) := by decide +kernel
theorem dw_M_init_348 : decode prog_11_method_1_code 348 = .ok (.sipush 1100, 3) := by decide +kernel
theorem dw_M_init_351 : decode prog_11_method_1_code 351 = .ok (.newarray .byte, 2) := by decide +kernel
theorem dw_M_init_353 : decode prog_11_method_1_code 353 = .ok (.putfield 133, 3) := by decide +kernel
theorem dw_M_init_356 : decode prog_11_method_1_code 356 = .ok (.aload_n 0, 1) := by decide +kernel
theorem dw_M_init_357 : decode prog_11_method_1_code 357 = .ok (.sipush 1100, 3) := by decide +kernel
theorem dw_M_init_360 : decode prog_11_method_1_code 360 = .ok (.newarray .boolean, 2) := by decide +kernel
theorem dw_M_init_362 : decode prog_11_method_1_code 362 = .ok (.putfield 136, 3) := by decide +kernel
theorem dw_M_init_365 : decode prog_11_method_1_code 365 = .ok (.aload_n 0, 1) := by decide +kernel
theorem dw_M_init_366 : decode prog_11_method_1_code 366 = .ok (.sipush 1100, 3) := by decide +kernel
theorem dw_M_init_369 : decode prog_11_method_1_code 369 = .ok (.newarray .int, 2) := by decide +kernel
theorem dw_M_init_371 : decode prog_11_method_1_code 371 = .ok (.putfield 139, 3) := by decide +kernel
theorem dw_M_init_374 : decode prog_11_method_1_code 374 = .ok (.aload_n 0, 1) := by decide +kernel
theorem dw_M_init_375 : decode prog_11_method_1_code 375 = .ok (.sipush 24576, 3) := by decide +kernel
theorem dw_M_init_378 : decode prog_11_method_1_code 378 = .ok (.newarray .short, 2) := by decide +kernel
theorem dw_M_init_380 : decode prog_11_method_1_code 380 = .ok (.putfield 142, 3) := by decide +kernel
theorem dw_M_init_383 : decode prog_11_method_1_code 383 = .ok (.aload_n 0, 1) := by decide +kernel
theorem dw_M_init_384 : decode prog_11_method_1_code 384 = .ok (.sipush 1100, 3) := by decide +kernel
theorem dw_M_init_387 : decode prog_11_method_1_code 387 = .ok (.newarray .short, 2) := by decide +kernel
theorem dw_M_init_389 : decode prog_11_method_1_code 389 = .ok (.putfield 145, 3) := by decide +kernel
theorem dw_M_init_392 : decode prog_11_method_1_code 392 = .ok (.aload_n 0, 1) := by decide +kernel
theorem dw_M_init_393 : decode prog_11_method_1_code 393 = .ok (.sipush 128, 3) := by decide +kernel
theorem dw_M_init_396 : decode prog_11_method_1_code 396 = .ok (.newarray .int, 2) := by decide +kernel
theorem dw_M_init_398 : decode prog_11_method_1_code 398 = .ok (.putfield 148, 3) := by decide +kernel
theorem dw_M_init_401 : decode prog_11_method_1_code 401 = .ok (.aload_n 0, 1) := by decide +kernel
theorem dw_M_init_402 : decode prog_11_method_1_code 402 = .ok (.sipush 128, 3) := by decide +kernel
theorem dw_M_init_405 : decode prog_11_method_1_code 405 = .ok (.newarray .int, 2) := by decide +kernel
theorem dw_M_init_407 : decode prog_11_method_1_code 407 = .ok (.putfield 151, 3) := by decide +kernel
theorem dw_M_init_410 : decode prog_11_method_1_code 410 = .ok (.aload_n 0, 1) := by decide +kernel
theorem dw_M_init_411 : decode prog_11_method_1_code 411 = .ok (.sipush 128, 3) := by decide +kernel
theorem dw_M_init_414 : decode prog_11_method_1_code 414 = .ok (.newarray .int, 2) := by decide +kernel
theorem dw_M_init_416 : decode prog_11_method_1_code 416 = .ok (.putfield 154, 3) := by decide +kernel
theorem dw_M_init_419 : decode prog_11_method_1_code 419 = .ok (.aload_n 0, 1) := by decide +kernel
theorem dw_M_init_420 : decode prog_11_method_1_code 420 = .ok (.sipush 128, 3) := by decide +kernel
theorem dw_M_init_423 : decode prog_11_method_1_code 423 = .ok (.newarray .int, 2) := by decide +kernel
theorem dw_M_init_425 : decode prog_11_method_1_code 425 = .ok (.putfield 157, 3) := by decide +kernel
theorem dw_M_init_428 : decode prog_11_method_1_code 428 = .ok (.aload_n 0, 1) := by decide +kernel
theorem dw_M_init_429 : decode prog_11_method_1_code 429 = .ok (.ldc 160, 2) := by decide +kernel
theorem dw_M_init_431 : decode prog_11_method_1_code 431 = .ok (.newarray .short, 2) := by decide +kernel
theorem dw_M_init_433 : decode prog_11_method_1_code 433 = .ok (.putfield 161, 3) := by decide +kernel
theorem dw_M_init_436 : decode prog_11_method_1_code 436 = .ok (.aload_n 0, 1) := by decide +kernel
theorem dw_M_init_437 : decode prog_11_method_1_code 437 = .ok (.sipush 24576, 3) := by decide +kernel
theorem dw_M_init_440 : decode prog_11_method_1_code 440 = .ok (.newarray .byte, 2) := by decide +kernel
theorem dw_M_init_442 : decode prog_11_method_1_code 442 = .ok (.putfield 164, 3) := by decide +kernel
theorem dw_M_init_445 : decode prog_11_method_1_code 445 = .ok (.aload_n 0, 1) := by decide +kernel
theorem dw_M_init_446 : decode prog_11_method_1_code 446 = .ok (.sipush 24576, 3) := by decide +kernel
theorem dw_M_init_449 : decode prog_11_method_1_code 449 = .ok (.newarray .int, 2) := by decide +kernel
theorem dw_M_init_451 : decode prog_11_method_1_code 451 = .ok (.putfield 167, 3) := by decide +kernel
theorem dw_M_init_454 : decode prog_11_method_1_code 454 = .ok (.aload_n 0, 1) := by decide +kernel
theorem dw_M_init_455 : decode prog_11_method_1_code 455 = .ok (.sipush 16385, 3) := by decide +kernel
theorem dw_M_init_458 : decode prog_11_method_1_code 458 = .ok (.newarray .boolean, 2) := by decide +kernel
theorem dw_M_init_460 : decode prog_11_method_1_code 460 = .ok (.putfield 170, 3) := by decide +kernel
theorem dw_M_init_463 : decode prog_11_method_1_code 463 = .ok (.iconst 0, 1) := by decide +kernel
theorem dw_M_init_465 : decode prog_11_method_1_code 465 = .ok (.iload_n 1, 1) := by decide +kernel
theorem dw_M_init_466 : decode prog_11_method_1_code 466 = .ok (.sipush 24576, 3) := by decide +kernel
theorem dw_M_init_469 : decode prog_11_method_1_code 469 = .ok (.if_icmp .ge 16, 3) := by decide +kernel
theorem dw_M_init_485 : decode prog_11_method_1_code 485 = .ok (.return_, 1) := by decide +kernel
theorem dw_M_init_472 : decode prog_11_method_1_code 472 = .ok (.aload_n 0, 1) := by decide +kernel
theorem dw_M_init_473 : decode prog_11_method_1_code 473 = .ok (.getfield 43, 3) := by decide +kernel
theorem dw_M_init_476 : decode prog_11_method_1_code 476 = .ok (.iload_n 1, 1) := by decide +kernel
theorem dw_M_init_477 : decode prog_11_method_1_code 477 = .ok (.iconst (-1), 1) := by decide +kernel
theorem dw_M_init_478 : decode prog_11_method_1_code 478 = .ok (.iastore, 1) := by decide +kernel
theorem dw_M_init_479 : decode prog_11_method_1_code 479 = .ok (.iinc 1 1, 3) := by decide +kernel
theorem dw_M_init_482 : decode prog_11_method_1_code 482 = .ok (.goto (-17), 3) := by decide +kernel
theorem dw_M_init_464 : decode prog_11_method_1_code 464 = .ok (.istore_n 1, 1) := by decide +kernel
section GI2
variable {V : gi_V} {X : gx_X} {cc : ByteArray} {own : String} {nL fr lo mc ms : Nat} {Post : va_W → Prop} {ws : va_W} {cn sn pc : Nat} {lv : List (Nat × Value)} {st : List Value}
theorem gi_istore_n (hX : gi_K V X cc own nL fr lo mc ms) {z : Fin 4} {i : Nat} {x : Int32} (lv' : List (Nat × Value)) (n : Nat) (hd : decode cc pc = .ok (.istore_n z, 1)) (hi : (z : Nat) = i) (hi2 : i < nL) (hl' : (i, Value.int x) :: lv.filter (fun q => !(q.1 == i) && !(q.1 + 1 == i && q.2.category == 2)) = lv') (hn : pc + 1 = n) (k : gi_G V X Post mc ms ws cn sn n lv' st) : gi_G V X Post mc ms ws cn sn pc lv (.int x :: st) := by
  subst hn
  exact gi_lv hX (fun hx hb hl kk => lv_istore_n hx hb hd hi hl hi2 hl' (fun ls' h' => kk ls' h')) k
theorem gi_iinc (hX : gi_K V X cc own nL fr lo mc ms) {i q : Nat} {z : Int} {x : Int32} (v : Int32) (lv' : List (Nat × Value)) (n : Nat) (hd : decode cc pc = .ok (.iinc i z, 3)) (hq : lv[q]? = some (i, .int x)) (hv : x + Int32.ofInt z = v) (hi2 : i < nL) (hl' : (i, Value.int v) :: lv.filter (fun q => !(q.1 == i) && !(q.1 + 1 == i && q.2.category == 2)) = lv') (hn : pc + 3 = n) (k : gi_G V X Post mc ms ws cn sn n lv' st) : gi_G V X Post mc ms ws cn sn pc lv st := by
  subst hn
  exact gi_lv hX (fun hx hb hl kk => lv_iinc hx hb hd hl hq hv hi2 hl' (fun ls' h' => kk ls' h')) k
theorem gi_goto (hX : gi_K V X cc own nL fr lo mc ms) {off : Int} (tgt : Nat) (hd : decode cc pc = .ok (.goto off, 3)) (ht : (pc : Int) + off = (tgt : Int)) (k : gi_G V X Post mc ms ws cn sn tgt lv st) : gi_G V X Post mc ms ws cn sn pc lv st := gi_lv hX (fun hx hb hl kk => lv_goto hx hb hd ht (kk _ hl)) k
theorem gi_icmp_ge (hX : gi_K V X cc own nL fr lo mc ms) {x y : Int32} {off : Int} (tgt n : Nat) (hd : decode cc pc = .ok (.if_icmp .ge off, 3)) (ht : (pc : Int) + off = (tgt : Int)) (hn : pc + 3 = n) (k1 : y ≤ x → gi_G V X Post mc ms ws cn sn tgt lv st) (k2 : ¬ y ≤ x → gi_G V X Post mc ms ws cn sn n lv st) : gi_G V X Post mc ms ws cn sn pc lv (.int y :: .int x :: st) := by
  subst hn
  obtain ⟨⟨p, l, e, R, s, m, args, below, meth, c⟩, A, σ0, vd⟩ := X
  obtain ⟨hx, hb, hml, -⟩ := hX
  intro H locs ls hls hP hD hS
  exact lv_icmp_ge hx hb hd ht (fun h => k1 h H locs ls hls hP hD hS) (fun h => k2 h H locs ls hls hP hD hS)
theorem gi_iast (hX : gi_K V X cc own nL fr lo mc ms) {a N : Nat} {cA : ClassId} {f : Nat → Int32} {i x : Int32} (p t0 n : Nat) (ws' : va_W) (ha : ws[p]? = some (a, .inl (cA, N, .inl f))) (ht : V.2.2[t0]? = some (cA, .int)) (hin : vp_in i N) (hws : ws.set p (a, .inl (cA, N, .inl (upd f i.toNatClampNeg x))) = ws') (hd : decode cc pc = .ok (.iastore, 1)) (hn : pc + 1 = n) (k : gi_G V X Post mc ms ws' cn sn n lv st) : gi_G V X Post mc ms ws cn sn pc lv (.int x :: .int i :: .ref a :: st) := by
  subst hn
  subst hws
  obtain ⟨⟨p', l, e, R, s, m, args, below, meth, c⟩, A, σ0, vd⟩ := X
  obtain ⟨hx, hb, hml, hown, hts, hr, hlocks, hK, hA, hf', hl', hRc, hRs, hin2, hZ⟩ := hX
  intro H locs ls hls hP hD hS
  exact va_iast hx hb hK hP hD hS p t0 ha ht hin hd (fun H1 locs1 hP1 hD1 hS1 => k H1 locs1 ls hls hP1 hD1 hS1)
theorem gi_fin {ws' : va_W} {cn' sn' : Nat} (hw : ws = ws') (hc : cn = cn') (hs : sn = sn') (k : gi_G V X Post mc ms ws' cn' sn' pc lv st) : gi_G V X Post mc ms ws cn sn pc lv st := by
  subst hw
  subst hc
  subst hs
  exact k
end GI2
