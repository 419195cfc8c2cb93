set_option maxRecDepth 20000 in
theorem w_5_236 : (Jvm.Cond.fieldLink "AssembleLinesModel" (335 : Nat) "AssembleLinesModel" "frames" "I") ∈ b_Ws := bw_5 (List.mem_of_getElem? (i := 236) rfl) rfl
set_option maxRecDepth 20000 in
theorem w_6_3 : (Jvm.Cond.fieldLink "AssembleLinesModel" (362 : Nat) "AssembleLinesModel" "argSize" "I") ∈ b_Ws := bw_6 (List.mem_of_getElem? (i := 3) rfl) rfl
set_option maxRecDepth 20000 in
theorem w_7_5 : (Jvm.Cond.methodLink "AssembleLinesModel" (365 : Nat) ({ cls := "AssembleLinesModel", name := "putIn", desc := "(I)V" } : Jvm.MethodName)) ∈ b_Ws := bw_7 (List.mem_of_getElem? (i := 5) rfl) rfl
set_option maxRecDepth 20000 in
theorem w_7_7 : (Jvm.Cond.instanceMethod ({ cls := "AssembleLinesModel", name := "putIn", desc := "(I)V" } : Jvm.MethodName)) ∈ b_Ws := bw_7 (List.mem_of_getElem? (i := 7) rfl) rfl
set_option maxRecDepth 20000 in
theorem w_7_8 : (Jvm.Cond.code ({ cls := "AssembleLinesModel", name := "putIn", desc := "(I)V" } : Jvm.MethodName) prog_15_method_42_code (2 : Nat) (Option.none : Option Jvm.ClassFile.FieldType)) ∈ b_Ws := bw_7 (List.mem_of_getElem? (i := 8) rfl) rfl
theorem dX13_nextLine_0 : decode cX13_nextLine 0 = .ok (.aload_n 0, 1) := by decide +kernel
theorem dX13_nextLine_1 : decode cX13_nextLine 1 = .ok (.getfield 335, 3) := by decide +kernel
theorem dX13_nextLine_4 : decode cX13_nextLine 4 = .ok (.iconst 1, 1) := by decide +kernel
theorem dX13_nextLine_5 : decode cX13_nextLine 5 = .ok (.isub, 1) := by decide +kernel
theorem dX13_nextLine_6 : decode cX13_nextLine 6 = .ok (.istore_n 1, 1) := by decide +kernel
theorem dX13_nextLine_7 : decode cX13_nextLine 7 = .ok (.aload_n 0, 1) := by decide +kernel
theorem dX13_nextLine_8 : decode cX13_nextLine 8 = .ok (.getfield 67, 3) := by decide +kernel
theorem dX13_nextLine_11 : decode cX13_nextLine 11 = .ok (.iload_n 1, 1) := by decide +kernel
theorem dX13_nextLine_12 : decode cX13_nextLine 12 = .ok (.iaload, 1) := by decide +kernel
theorem dX13_nextLine_13 : decode cX13_nextLine 13 = .ok (.istore_n 2, 1) := by decide +kernel
theorem dX13_nextLine_14 : decode cX13_nextLine 14 = .ok (.aload_n 0, 1) := by decide +kernel
theorem dX13_nextLine_15 : decode cX13_nextLine 15 = .ok (.getfield 70, 3) := by decide +kernel
theorem dX13_nextLine_18 : decode cX13_nextLine 18 = .ok (.iload_n 1, 1) := by decide +kernel
theorem dX13_nextLine_19 : decode cX13_nextLine 19 = .ok (.iaload, 1) := by decide +kernel
theorem dX13_nextLine_20 : decode cX13_nextLine 20 = .ok (.aload_n 0, 1) := by decide +kernel
theorem dX13_nextLine_21 : decode cX13_nextLine 21 = .ok (.getfield 58, 3) := by decide +kernel
theorem dX13_nextLine_24 : decode cX13_nextLine 24 = .ok (.iload_n 2, 1) := by decide +kernel
theorem dX13_nextLine_25 : decode cX13_nextLine 25 = .ok (.iaload, 1) := by decide +kernel
theorem dX13_nextLine_26 : decode cX13_nextLine 26 = .ok (.if_icmp .ne 27, 3) := by decide +kernel
theorem dX13_nextLine_29 : decode cX13_nextLine 29 = .ok (.aload_n 0, 1) := by decide +kernel
theorem dX13_nextLine_30 : decode cX13_nextLine 30 = .ok (.dup, 1) := by decide +kernel
theorem dX13_nextLine_31 : decode cX13_nextLine 31 = .ok (.getfield 335, 3) := by decide +kernel
theorem dX13_nextLine_34 : decode cX13_nextLine 34 = .ok (.iconst 1, 1) := by decide +kernel
theorem dX13_nextLine_35 : decode cX13_nextLine 35 = .ok (.isub, 1) := by decide +kernel
theorem dX13_nextLine_36 : decode cX13_nextLine 36 = .ok (.putfield 335, 3) := by decide +kernel
theorem dX13_nextLine_39 : decode cX13_nextLine 39 = .ok (.aload_n 0, 1) := by decide +kernel
theorem dX13_nextLine_40 : decode cX13_nextLine 40 = .ok (.aload_n 0, 1) := by decide +kernel
theorem dX13_nextLine_41 : decode cX13_nextLine 41 = .ok (.getfield 76, 3) := by decide +kernel
theorem dX13_nextLine_44 : decode cX13_nextLine 44 = .ok (.iconst 4, 1) := by decide +kernel
theorem dX13_nextLine_45 : decode cX13_nextLine 45 = .ok (.iload_n 1, 1) := by decide +kernel
theorem dX13_nextLine_46 : decode cX13_nextLine 46 = .ok (.imul, 1) := by decide +kernel
theorem dX13_nextLine_47 : decode cX13_nextLine 47 = .ok (.iaload, 1) := by decide +kernel
theorem dX13_nextLine_48 : decode cX13_nextLine 48 = .ok (.putfield 362, 3) := by decide +kernel
theorem dX13_nextLine_51 : decode cX13_nextLine 51 = .ok (.iconst 0, 1) := by decide +kernel
theorem dX13_nextLine_52 : decode cX13_nextLine 52 = .ok (.ireturn, 1) := by decide +kernel
theorem dX13_nextLine_53 : decode cX13_nextLine 53 = .ok (.aload_n 0, 1) := by decide +kernel
theorem dX13_nextLine_54 : decode cX13_nextLine 54 = .ok (.getfield 55, 3) := by decide +kernel
theorem dX13_nextLine_57 : decode cX13_nextLine 57 = .ok (.iload_n 2, 1) := by decide +kernel
theorem dX13_nextLine_58 : decode cX13_nextLine 58 = .ok (.iaload, 1) := by decide +kernel
theorem dX13_nextLine_59 : decode cX13_nextLine 59 = .ok (.aload_n 0, 1) := by decide +kernel
theorem dX13_nextLine_60 : decode cX13_nextLine 60 = .ok (.getfield 70, 3) := by decide +kernel
theorem dX13_nextLine_63 : decode cX13_nextLine 63 = .ok (.iload_n 1, 1) := by decide +kernel
theorem dX13_nextLine_64 : decode cX13_nextLine 64 = .ok (.iaload, 1) := by decide +kernel
theorem dX13_nextLine_65 : decode cX13_nextLine 65 = .ok (.iadd, 1) := by decide +kernel
theorem dX13_nextLine_66 : decode cX13_nextLine 66 = .ok (.istore_n 3, 1) := by decide +kernel
theorem dX13_nextLine_67 : decode cX13_nextLine 67 = .ok (.aload_n 0, 1) := by decide +kernel
theorem dX13_nextLine_68 : decode cX13_nextLine 68 = .ok (.getfield 70, 3) := by decide +kernel
theorem dX13_nextLine_71 : decode cX13_nextLine 71 = .ok (.iload_n 1, 1) := by decide +kernel
theorem dX13_nextLine_72 : decode cX13_nextLine 72 = .ok (.dup2, 1) := by decide +kernel
theorem dX13_nextLine_73 : decode cX13_nextLine 73 = .ok (.iaload, 1) := by decide +kernel
theorem dX13_nextLine_74 : decode cX13_nextLine 74 = .ok (.iconst 1, 1) := by decide +kernel
theorem dX13_nextLine_75 : decode cX13_nextLine 75 = .ok (.iadd, 1) := by decide +kernel
theorem dX13_nextLine_76 : decode cX13_nextLine 76 = .ok (.iastore, 1) := by decide +kernel
theorem dX13_nextLine_77 : decode cX13_nextLine 77 = .ok (.aload_n 0, 1) := by decide +kernel
theorem dX13_nextLine_78 : decode cX13_nextLine 78 = .ok (.iconst 0, 1) := by decide +kernel
theorem dX13_nextLine_79 : decode cX13_nextLine 79 = .ok (.putfield 192, 3) := by decide +kernel
theorem dX13_nextLine_82 : decode cX13_nextLine 82 = .ok (.aload_n 0, 1) := by decide +kernel
theorem dX13_nextLine_83 : decode cX13_nextLine 83 = .ok (.getfield 61, 3) := by decide +kernel
theorem dX13_nextLine_86 : decode cX13_nextLine 86 = .ok (.iload_n 3, 1) := by decide +kernel
theorem dX13_nextLine_87 : decode cX13_nextLine 87 = .ok (.iaload, 1) := by decide +kernel
theorem dX13_nextLine_88 : decode cX13_nextLine 88 = .ok (.istore 4, 2) := by decide +kernel
theorem dX13_nextLine_90 : decode cX13_nextLine 90 = .ok (.iload 4, 2) := by decide +kernel
theorem dX13_nextLine_92 : decode cX13_nextLine 92 = .ok (.aload_n 0, 1) := by decide +kernel
theorem dX13_nextLine_93 : decode cX13_nextLine 93 = .ok (.getfield 64, 3) := by decide +kernel
theorem dX13_nextLine_96 : decode cX13_nextLine 96 = .ok (.iload_n 3, 1) := by decide +kernel
theorem dX13_nextLine_97 : decode cX13_nextLine 97 = .ok (.iaload, 1) := by decide +kernel
theorem dX13_nextLine_98 : decode cX13_nextLine 98 = .ok (.if_icmp .ge 234, 3) := by decide +kernel
theorem dX13_nextLine_101 : decode cX13_nextLine 101 = .ok (.aload_n 0, 1) := by decide +kernel
theorem dX13_nextLine_102 : decode cX13_nextLine 102 = .ok (.getfield 192, 3) := by decide +kernel
theorem dX13_nextLine_105 : decode cX13_nextLine 105 = .ok (.bipush 100, 2) := by decide +kernel
theorem dX13_nextLine_107 : decode cX13_nextLine 107 = .ok (.if_icmp .gt 225, 3) := by decide +kernel
theorem dX13_nextLine_110 : decode cX13_nextLine 110 = .ok (.iload 4, 2) := by decide +kernel
theorem dX13_nextLine_112 : decode cX13_nextLine 112 = .ok (.iconst 1, 1) := by decide +kernel
theorem dX13_nextLine_113 : decode cX13_nextLine 113 = .ok (.iadd, 1) := by decide +kernel
theorem dX13_nextLine_114 : decode cX13_nextLine 114 = .ok (.aload_n 0, 1) := by decide +kernel
theorem dX13_nextLine_115 : decode cX13_nextLine 115 = .ok (.getfield 64, 3) := by decide +kernel
theorem dX13_nextLine_118 : decode cX13_nextLine 118 = .ok (.iload_n 3, 1) := by decide +kernel
theorem dX13_nextLine_119 : decode cX13_nextLine 119 = .ok (.iaload, 1) := by decide +kernel
theorem dX13_nextLine_120 : decode cX13_nextLine 120 = .ok (.if_icmp .ge 27, 3) := by decide +kernel
theorem dX13_nextLine_123 : decode cX13_nextLine 123 = .ok (.aload_n 0, 1) := by decide +kernel
theorem dX13_nextLine_124 : decode cX13_nextLine 124 = .ok (.getfield 46, 3) := by decide +kernel
theorem dX13_nextLine_127 : decode cX13_nextLine 127 = .ok (.iload 4, 2) := by decide +kernel
theorem dX13_nextLine_129 : decode cX13_nextLine 129 = .ok (.iaload, 1) := by decide +kernel
theorem dX13_nextLine_130 : decode cX13_nextLine 130 = .ok (.bipush 38, 2) := by decide +kernel
theorem dX13_nextLine_132 : decode cX13_nextLine 132 = .ok (.if_icmp .ne 15, 3) := by decide +kernel
theorem dX13_nextLine_135 : decode cX13_nextLine 135 = .ok (.aload_n 0, 1) := by decide +kernel
theorem dX13_nextLine_136 : decode cX13_nextLine 136 = .ok (.getfield 46, 3) := by decide +kernel
theorem dX13_nextLine_139 : decode cX13_nextLine 139 = .ok (.iload 4, 2) := by decide +kernel
theorem dX13_nextLine_141 : decode cX13_nextLine 141 = .ok (.iconst 1, 1) := by decide +kernel
theorem dX13_nextLine_142 : decode cX13_nextLine 142 = .ok (.iadd, 1) := by decide +kernel
theorem dX13_nextLine_143 : decode cX13_nextLine 143 = .ok (.iaload, 1) := by decide +kernel
theorem dX13_nextLine_144 : decode cX13_nextLine 144 = .ok (.goto 4, 3) := by decide +kernel
theorem dX13_nextLine_147 : decode cX13_nextLine 147 = .ok (.iconst (-1), 1) := by decide +kernel
theorem dX13_nextLine_148 : decode cX13_nextLine 148 = .ok (.istore 5, 2) := by decide +kernel
theorem dX13_nextLine_150 : decode cX13_nextLine 150 = .ok (.iload 5, 2) := by decide +kernel
theorem dX13_nextLine_152 : decode cX13_nextLine 152 = .ok (.bipush 48, 2) := by decide +kernel
theorem dX13_nextLine_154 : decode cX13_nextLine 154 = .ok (.bipush 51, 2) := by decide +kernel
theorem dX13_nextLine_156 : decode cX13_nextLine 156 = .ok (.invokestatic 168, 3) := by decide +kernel
theorem dX13_nextLine_159 : decode cX13_nextLine 159 = .ok (.ifCond .eq 70, 3) := by decide +kernel
theorem dX13_nextLine_162 : decode cX13_nextLine 162 = .ok (.aload_n 0, 1) := by decide +kernel
theorem dX13_nextLine_163 : decode cX13_nextLine 163 = .ok (.getfield 76, 3) := by decide +kernel
theorem dX13_nextLine_166 : decode cX13_nextLine 166 = .ok (.iconst 4, 1) := by decide +kernel
theorem dX13_nextLine_167 : decode cX13_nextLine 167 = .ok (.iload_n 1, 1) := by decide +kernel
theorem dX13_nextLine_168 : decode cX13_nextLine 168 = .ok (.imul, 1) := by decide +kernel
theorem dX13_nextLine_169 : decode cX13_nextLine 169 = .ok (.iload 5, 2) := by decide +kernel
theorem dX13_nextLine_171 : decode cX13_nextLine 171 = .ok (.iadd, 1) := by decide +kernel
theorem dX13_nextLine_172 : decode cX13_nextLine 172 = .ok (.bipush 48, 2) := by decide +kernel
theorem dX13_nextLine_174 : decode cX13_nextLine 174 = .ok (.isub, 1) := by decide +kernel
theorem dX13_nextLine_175 : decode cX13_nextLine 175 = .ok (.iaload, 1) := by decide +kernel
theorem dX13_nextLine_176 : decode cX13_nextLine 176 = .ok (.istore 6, 2) := by decide +kernel
theorem dX13_nextLine_178 : decode cX13_nextLine 178 = .ok (.iload 6, 2) := by decide +kernel
theorem dX13_nextLine_180 : decode cX13_nextLine 180 = .ok (.aload_n 0, 1) := by decide +kernel
theorem dX13_nextLine_181 : decode cX13_nextLine 181 = .ok (.getfield 79, 3) := by decide +kernel
theorem dX13_nextLine_184 : decode cX13_nextLine 184 = .ok (.iconst 4, 1) := by decide +kernel
theorem dX13_nextLine_185 : decode cX13_nextLine 185 = .ok (.iload_n 1, 1) := by decide +kernel
theorem dX13_nextLine_186 : decode cX13_nextLine 186 = .ok (.imul, 1) := by decide +kernel
theorem dX13_nextLine_187 : decode cX13_nextLine 187 = .ok (.iload 5, 2) := by decide +kernel
theorem dX13_nextLine_189 : decode cX13_nextLine 189 = .ok (.iadd, 1) := by decide +kernel
theorem dX13_nextLine_190 : decode cX13_nextLine 190 = .ok (.bipush 48, 2) := by decide +kernel
theorem dX13_nextLine_192 : decode cX13_nextLine 192 = .ok (.isub, 1) := by decide +kernel
theorem dX13_nextLine_193 : decode cX13_nextLine 193 = .ok (.iaload, 1) := by decide +kernel
theorem dX13_nextLine_194 : decode cX13_nextLine 194 = .ok (.if_icmp .ge 29, 3) := by decide +kernel
theorem dX13_nextLine_197 : decode cX13_nextLine 197 = .ok (.aload_n 0, 1) := by decide +kernel
theorem dX13_nextLine_198 : decode cX13_nextLine 198 = .ok (.getfield 192, 3) := by decide +kernel
theorem dX13_nextLine_201 : decode cX13_nextLine 201 = .ok (.bipush 100, 2) := by decide +kernel
theorem dX13_nextLine_203 : decode cX13_nextLine 203 = .ok (.if_icmp .gt 20, 3) := by decide +kernel
theorem dX13_nextLine_206 : decode cX13_nextLine 206 = .ok (.aload_n 0, 1) := by decide +kernel
theorem dX13_nextLine_207 : decode cX13_nextLine 207 = .ok (.aload_n 0, 1) := by decide +kernel
theorem dX13_nextLine_208 : decode cX13_nextLine 208 = .ok (.getfield 82, 3) := by decide +kernel
theorem dX13_nextLine_211 : decode cX13_nextLine 211 = .ok (.iload 6, 2) := by decide +kernel
theorem dX13_nextLine_213 : decode cX13_nextLine 213 = .ok (.iaload, 1) := by decide +kernel
theorem dX13_nextLine_214 : decode cX13_nextLine 214 = .ok (.invokevirtual 365, 3) := by decide +kernel
theorem dX13_nextLine_217 : decode cX13_nextLine 217 = .ok (.iinc 6 1, 3) := by decide +kernel
theorem dX13_nextLine_220 : decode cX13_nextLine 220 = .ok (.goto (-42), 3) := by decide +kernel
theorem dX13_nextLine_223 : decode cX13_nextLine 223 = .ok (.iinc 4 2, 3) := by decide +kernel
theorem dX13_nextLine_226 : decode cX13_nextLine 226 = .ok (.goto 103, 3) := by decide +kernel
theorem dX13_nextLine_229 : decode cX13_nextLine 229 = .ok (.iload 5, 2) := by decide +kernel
theorem dX13_nextLine_231 : decode cX13_nextLine 231 = .ok (.bipush 110, 2) := by decide +kernel
theorem dX13_nextLine_233 : decode cX13_nextLine 233 = .ok (.if_icmp .ne 82, 3) := by decide +kernel
theorem dX13_nextLine_236 : decode cX13_nextLine 236 = .ok (.aload_n 0, 1) := by decide +kernel
theorem dX13_nextLine_237 : decode cX13_nextLine 237 = .ok (.getfield 73, 3) := by decide +kernel
theorem dX13_nextLine_240 : decode cX13_nextLine 240 = .ok (.iload_n 1, 1) := by decide +kernel
theorem dX13_nextLine_241 : decode cX13_nextLine 241 = .ok (.iaload, 1) := by decide +kernel
theorem dX13_nextLine_242 : decode cX13_nextLine 242 = .ok (.bipush 99, 2) := by decide +kernel
theorem dX13_nextLine_244 : decode cX13_nextLine 244 = .ok (.if_icmp .le 19, 3) := by decide +kernel
theorem dX13_nextLine_247 : decode cX13_nextLine 247 = .ok (.aload_n 0, 1) := by decide +kernel
theorem dX13_nextLine_248 : decode cX13_nextLine 248 = .ok (.bipush 48, 2) := by decide +kernel
theorem dX13_nextLine_250 : decode cX13_nextLine 250 = .ok (.aload_n 0, 1) := by decide +kernel
theorem dX13_nextLine_251 : decode cX13_nextLine 251 = .ok (.getfield 73, 3) := by decide +kernel
theorem dX13_nextLine_254 : decode cX13_nextLine 254 = .ok (.iload_n 1, 1) := by decide +kernel
theorem dX13_nextLine_255 : decode cX13_nextLine 255 = .ok (.iaload, 1) := by decide +kernel
theorem dX13_nextLine_256 : decode cX13_nextLine 256 = .ok (.bipush 100, 2) := by decide +kernel
theorem dX13_nextLine_258 : decode cX13_nextLine 258 = .ok (.idiv, 1) := by decide +kernel
theorem dX13_nextLine_259 : decode cX13_nextLine 259 = .ok (.iadd, 1) := by decide +kernel
theorem dX13_nextLine_260 : decode cX13_nextLine 260 = .ok (.invokevirtual 365, 3) := by decide +kernel
theorem dX13_nextLine_263 : decode cX13_nextLine 263 = .ok (.aload_n 0, 1) := by decide +kernel
theorem dX13_nextLine_264 : decode cX13_nextLine 264 = .ok (.getfield 73, 3) := by decide +kernel
theorem dX13_nextLine_267 : decode cX13_nextLine 267 = .ok (.iload_n 1, 1) := by decide +kernel
theorem dX13_nextLine_268 : decode cX13_nextLine 268 = .ok (.iaload, 1) := by decide +kernel
theorem dX13_nextLine_269 : decode cX13_nextLine 269 = .ok (.bipush 9, 2) := by decide +kernel
theorem dX13_nextLine_271 : decode cX13_nextLine 271 = .ok (.if_icmp .le 22, 3) := by decide +kernel
theorem dX13_nextLine_274 : decode cX13_nextLine 274 = .ok (.aload_n 0, 1) := by decide +kernel
theorem dX13_nextLine_275 : decode cX13_nextLine 275 = .ok (.bipush 48, 2) := by decide +kernel
theorem dX13_nextLine_277 : decode cX13_nextLine 277 = .ok (.aload_n 0, 1) := by decide +kernel
theorem dX13_nextLine_278 : decode cX13_nextLine 278 = .ok (.getfield 73, 3) := by decide +kernel
theorem dX13_nextLine_281 : decode cX13_nextLine 281 = .ok (.iload_n 1, 1) := by decide +kernel
theorem dX13_nextLine_282 : decode cX13_nextLine 282 = .ok (.iaload, 1) := by decide +kernel
theorem dX13_nextLine_283 : decode cX13_nextLine 283 = .ok (.bipush 10, 2) := by decide +kernel
theorem dX13_nextLine_285 : decode cX13_nextLine 285 = .ok (.idiv, 1) := by decide +kernel
theorem dX13_nextLine_286 : decode cX13_nextLine 286 = .ok (.bipush 10, 2) := by decide +kernel
theorem dX13_nextLine_288 : decode cX13_nextLine 288 = .ok (.irem, 1) := by decide +kernel
theorem dX13_nextLine_289 : decode cX13_nextLine 289 = .ok (.iadd, 1) := by decide +kernel
theorem dX13_nextLine_290 : decode cX13_nextLine 290 = .ok (.invokevirtual 365, 3) := by decide +kernel
theorem dX13_nextLine_293 : decode cX13_nextLine 293 = .ok (.aload_n 0, 1) := by decide +kernel
theorem dX13_nextLine_294 : decode cX13_nextLine 294 = .ok (.bipush 48, 2) := by decide +kernel
theorem dX13_nextLine_296 : decode cX13_nextLine 296 = .ok (.aload_n 0, 1) := by decide +kernel
theorem dX13_nextLine_297 : decode cX13_nextLine 297 = .ok (.getfield 73, 3) := by decide +kernel
theorem dX13_nextLine_300 : decode cX13_nextLine 300 = .ok (.iload_n 1, 1) := by decide +kernel
theorem dX13_nextLine_301 : decode cX13_nextLine 301 = .ok (.iaload, 1) := by decide +kernel
theorem dX13_nextLine_302 : decode cX13_nextLine 302 = .ok (.bipush 10, 2) := by decide +kernel
theorem dX13_nextLine_304 : decode cX13_nextLine 304 = .ok (.irem, 1) := by decide +kernel
theorem dX13_nextLine_305 : decode cX13_nextLine 305 = .ok (.iadd, 1) := by decide +kernel
theorem dX13_nextLine_306 : decode cX13_nextLine 306 = .ok (.invokevirtual 365, 3) := by decide +kernel
theorem dX13_nextLine_309 : decode cX13_nextLine 309 = .ok (.iinc 4 2, 3) := by decide +kernel
theorem dX13_nextLine_312 : decode cX13_nextLine 312 = .ok (.goto 17, 3) := by decide +kernel
theorem dX13_nextLine_315 : decode cX13_nextLine 315 = .ok (.aload_n 0, 1) := by decide +kernel
theorem dX13_nextLine_316 : decode cX13_nextLine 316 = .ok (.aload_n 0, 1) := by decide +kernel
theorem dX13_nextLine_317 : decode cX13_nextLine 317 = .ok (.getfield 46, 3) := by decide +kernel
theorem dX13_nextLine_320 : decode cX13_nextLine 320 = .ok (.iload 4, 2) := by decide +kernel
theorem dX13_nextLine_322 : decode cX13_nextLine 322 = .ok (.iaload, 1) := by decide +kernel
theorem dX13_nextLine_323 : decode cX13_nextLine 323 = .ok (.invokevirtual 365, 3) := by decide +kernel
theorem dX13_nextLine_326 : decode cX13_nextLine 326 = .ok (.iinc 4 1, 3) := by decide +kernel
theorem dX13_nextLine_329 : decode cX13_nextLine 329 = .ok (.goto (-239), 3) := by decide +kernel
theorem dX13_nextLine_332 : decode cX13_nextLine 332 = .ok (.iconst 1, 1) := by decide +kernel
theorem dX13_nextLine_333 : decode cX13_nextLine 333 = .ok (.ireturn, 1) := by decide +kernel

