set_option maxRecDepth 20000 in
theorem w_7_78 : (Jvm.Cond.methodLink "AssembleLinesModel" (356 : Nat) ({ cls := "AssembleLinesModel", name := "takeArguments", desc := "()I" } : Jvm.MethodName)) ∈ b_Ws := bw_7 (List.mem_of_getElem? (i := 78) rfl) rfl
set_option maxRecDepth 20000 in
theorem w_7_80 : (Jvm.Cond.instanceMethod ({ cls := "AssembleLinesModel", name := "takeArguments", desc := "()I" } : Jvm.MethodName)) ∈ b_Ws := bw_7 (List.mem_of_getElem? (i := 80) rfl) rfl
set_option maxRecDepth 20000 in
theorem w_7_81 : (Jvm.Cond.code ({ cls := "AssembleLinesModel", name := "takeArguments", desc := "()I" } : Jvm.MethodName) prog_15_method_39_code (5 : Nat) (Option.some Jvm.ClassFile.FieldType.int)) ∈ b_Ws := bw_7 (List.mem_of_getElem? (i := 81) rfl) rfl
theorem dX13_callLine_0 : decode cX13_callLine 0 = .ok (.aload_n 0, 1) := by decide +kernel
theorem dX13_callLine_1 : decode cX13_callLine 1 = .ok (.invokevirtual 356, 3) := by decide +kernel
theorem dX13_callLine_4 : decode cX13_callLine 4 = .ok (.istore 4, 2) := by decide +kernel
theorem dX13_callLine_6 : decode cX13_callLine 6 = .ok (.aload_n 0, 1) := by decide +kernel
theorem dX13_callLine_7 : decode cX13_callLine 7 = .ok (.getfield 207, 3) := by decide +kernel
theorem dX13_callLine_10 : decode cX13_callLine 10 = .ok (.ifCond .eq 7, 3) := by decide +kernel
theorem dX13_callLine_13 : decode cX13_callLine 13 = .ok (.iconst 1, 1) := by decide +kernel
theorem dX13_callLine_14 : decode cX13_callLine 14 = .ok (.goto 61, 3) := by decide +kernel
theorem dX13_callLine_17 : decode cX13_callLine 17 = .ok (.lload_n 2, 1) := by decide +kernel
theorem dX13_callLine_18 : decode cX13_callLine 18 = .ok (.lconst 0, 1) := by decide +kernel
theorem dX13_callLine_19 : decode cX13_callLine 19 = .ok (.lcmp, 1) := by decide +kernel
theorem dX13_callLine_20 : decode cX13_callLine 20 = .ok (.ifCond .le 15, 3) := by decide +kernel
theorem dX13_callLine_23 : decode cX13_callLine 23 = .ok (.aload_n 0, 1) := by decide +kernel
theorem dX13_callLine_24 : decode cX13_callLine 24 = .ok (.lload_n 2, 1) := by decide +kernel
theorem dX13_callLine_25 : decode cX13_callLine 25 = .ok (.invokevirtual 280, 3) := by decide +kernel
theorem dX13_callLine_28 : decode cX13_callLine 28 = .ok (.ifCond .eq 7, 3) := by decide +kernel
theorem dX13_callLine_31 : decode cX13_callLine 31 = .ok (.iconst 3, 1) := by decide +kernel
theorem dX13_callLine_32 : decode cX13_callLine 32 = .ok (.goto 43, 3) := by decide +kernel
theorem dX13_callLine_35 : decode cX13_callLine 35 = .ok (.aload_n 0, 1) := by decide +kernel
theorem dX13_callLine_36 : decode cX13_callLine 36 = .ok (.getfield 335, 3) := by decide +kernel
theorem dX13_callLine_39 : decode cX13_callLine 39 = .ok (.bipush 6, 2) := by decide +kernel
theorem dX13_callLine_41 : decode cX13_callLine 41 = .ok (.if_icmp .eq 28, 3) := by decide +kernel
theorem dX13_callLine_44 : decode cX13_callLine 44 = .ok (.aload_n 0, 1) := by decide +kernel
theorem dX13_callLine_45 : decode cX13_callLine 45 = .ok (.getfield 359, 3) := by decide +kernel
theorem dX13_callLine_48 : decode cX13_callLine 48 = .ok (.bipush 100, 2) := by decide +kernel
theorem dX13_callLine_50 : decode cX13_callLine 50 = .ok (.if_icmp .eq 19, 3) := by decide +kernel
theorem dX13_callLine_53 : decode cX13_callLine 53 = .ok (.lload_n 2, 1) := by decide +kernel
theorem dX13_callLine_54 : decode cX13_callLine 54 = .ok (.lconst 0, 1) := by decide +kernel
theorem dX13_callLine_55 : decode cX13_callLine 55 = .ok (.lcmp, 1) := by decide +kernel
theorem dX13_callLine_56 : decode cX13_callLine 56 = .ok (.ifCond .le 18, 3) := by decide +kernel
theorem dX13_callLine_59 : decode cX13_callLine 59 = .ok (.aload_n 0, 1) := by decide +kernel
theorem dX13_callLine_60 : decode cX13_callLine 60 = .ok (.getfield 217, 3) := by decide +kernel
theorem dX13_callLine_63 : decode cX13_callLine 63 = .ok (.sipush 400, 3) := by decide +kernel
theorem dX13_callLine_66 : decode cX13_callLine 66 = .ok (.if_icmp .ne 8, 3) := by decide +kernel
theorem dX13_callLine_69 : decode cX13_callLine 69 = .ok (.bipush 6, 2) := by decide +kernel
theorem dX13_callLine_71 : decode cX13_callLine 71 = .ok (.goto 4, 3) := by decide +kernel
theorem dX13_callLine_74 : decode cX13_callLine 74 = .ok (.iconst 0, 1) := by decide +kernel
theorem dX13_callLine_75 : decode cX13_callLine 75 = .ok (.istore 5, 2) := by decide +kernel
theorem dX13_callLine_77 : decode cX13_callLine 77 = .ok (.iload 5, 2) := by decide +kernel
theorem dX13_callLine_79 : decode cX13_callLine 79 = .ok (.ifCond .le 14, 3) := by decide +kernel
theorem dX13_callLine_82 : decode cX13_callLine 82 = .ok (.aload_n 0, 1) := by decide +kernel
theorem dX13_callLine_83 : decode cX13_callLine 83 = .ok (.iload 5, 2) := by decide +kernel
theorem dX13_callLine_85 : decode cX13_callLine 85 = .ok (.aload_n 0, 1) := by decide +kernel
theorem dX13_callLine_86 : decode cX13_callLine 86 = .ok (.getfield 268, 3) := by decide +kernel
theorem dX13_callLine_89 : decode cX13_callLine 89 = .ok (.invokevirtual 312, 3) := by decide +kernel
theorem dX13_callLine_92 : decode cX13_callLine 92 = .ok (.return_, 1) := by decide +kernel
theorem dX13_callLine_93 : decode cX13_callLine 93 = .ok (.lload_n 2, 1) := by decide +kernel
theorem dX13_callLine_94 : decode cX13_callLine 94 = .ok (.lconst 0, 1) := by decide +kernel
theorem dX13_callLine_95 : decode cX13_callLine 95 = .ok (.lcmp, 1) := by decide +kernel
theorem dX13_callLine_96 : decode cX13_callLine 96 = .ok (.ifCond .le 9, 3) := by decide +kernel
theorem dX13_callLine_99 : decode cX13_callLine 99 = .ok (.aload_n 0, 1) := by decide +kernel
theorem dX13_callLine_100 : decode cX13_callLine 100 = .ok (.iconst 0, 1) := by decide +kernel
theorem dX13_callLine_101 : decode cX13_callLine 101 = .ok (.lload_n 2, 1) := by decide +kernel
theorem dX13_callLine_102 : decode cX13_callLine 102 = .ok (.invokevirtual 324, 3) := by decide +kernel
theorem dX13_callLine_105 : decode cX13_callLine 105 = .ok (.aload_n 0, 1) := by decide +kernel
theorem dX13_callLine_106 : decode cX13_callLine 106 = .ok (.dup, 1) := by decide +kernel
theorem dX13_callLine_107 : decode cX13_callLine 107 = .ok (.getfield 359, 3) := by decide +kernel
theorem dX13_callLine_110 : decode cX13_callLine 110 = .ok (.iconst 1, 1) := by decide +kernel
theorem dX13_callLine_111 : decode cX13_callLine 111 = .ok (.iadd, 1) := by decide +kernel
theorem dX13_callLine_112 : decode cX13_callLine 112 = .ok (.putfield 359, 3) := by decide +kernel
theorem dX13_callLine_115 : decode cX13_callLine 115 = .ok (.aload_n 0, 1) := by decide +kernel
theorem dX13_callLine_116 : decode cX13_callLine 116 = .ok (.getfield 335, 3) := by decide +kernel
theorem dX13_callLine_119 : decode cX13_callLine 119 = .ok (.ifCond .ne 8, 3) := by decide +kernel
theorem dX13_callLine_122 : decode cX13_callLine 122 = .ok (.aload_n 0, 1) := by decide +kernel
theorem dX13_callLine_123 : decode cX13_callLine 123 = .ok (.iconst 0, 1) := by decide +kernel
theorem dX13_callLine_124 : decode cX13_callLine 124 = .ok (.putfield 362, 3) := by decide +kernel
theorem dX13_callLine_127 : decode cX13_callLine 127 = .ok (.iconst 0, 1) := by decide +kernel
theorem dX13_callLine_128 : decode cX13_callLine 128 = .ok (.istore 6, 2) := by decide +kernel
theorem dX13_callLine_130 : decode cX13_callLine 130 = .ok (.iload 6, 2) := by decide +kernel
theorem dX13_callLine_132 : decode cX13_callLine 132 = .ok (.iconst 4, 1) := by decide +kernel
theorem dX13_callLine_133 : decode cX13_callLine 133 = .ok (.if_icmp .ge 116, 3) := by decide +kernel
theorem dX13_callLine_136 : decode cX13_callLine 136 = .ok (.aload_n 0, 1) := by decide +kernel
theorem dX13_callLine_137 : decode cX13_callLine 137 = .ok (.getfield 76, 3) := by decide +kernel
theorem dX13_callLine_140 : decode cX13_callLine 140 = .ok (.iconst 4, 1) := by decide +kernel
theorem dX13_callLine_141 : decode cX13_callLine 141 = .ok (.aload_n 0, 1) := by decide +kernel
theorem dX13_callLine_142 : decode cX13_callLine 142 = .ok (.getfield 335, 3) := by decide +kernel
theorem dX13_callLine_145 : decode cX13_callLine 145 = .ok (.imul, 1) := by decide +kernel
theorem dX13_callLine_146 : decode cX13_callLine 146 = .ok (.iload 6, 2) := by decide +kernel
theorem dX13_callLine_148 : decode cX13_callLine 148 = .ok (.iadd, 1) := by decide +kernel
theorem dX13_callLine_149 : decode cX13_callLine 149 = .ok (.aload_n 0, 1) := by decide +kernel
theorem dX13_callLine_150 : decode cX13_callLine 150 = .ok (.getfield 362, 3) := by decide +kernel
theorem dX13_callLine_153 : decode cX13_callLine 153 = .ok (.iastore, 1) := by decide +kernel
theorem dX13_callLine_154 : decode cX13_callLine 154 = .ok (.iload 6, 2) := by decide +kernel
theorem dX13_callLine_156 : decode cX13_callLine 156 = .ok (.iload 4, 2) := by decide +kernel
theorem dX13_callLine_158 : decode cX13_callLine 158 = .ok (.if_icmp .ge 13, 3) := by decide +kernel
theorem dX13_callLine_161 : decode cX13_callLine 161 = .ok (.aload_n 0, 1) := by decide +kernel
theorem dX13_callLine_162 : decode cX13_callLine 162 = .ok (.getfield 126, 3) := by decide +kernel
theorem dX13_callLine_165 : decode cX13_callLine 165 = .ok (.iload 6, 2) := by decide +kernel
theorem dX13_callLine_167 : decode cX13_callLine 167 = .ok (.iaload, 1) := by decide +kernel
theorem dX13_callLine_168 : decode cX13_callLine 168 = .ok (.goto 4, 3) := by decide +kernel
theorem dX13_callLine_171 : decode cX13_callLine 171 = .ok (.iconst 0, 1) := by decide +kernel
theorem dX13_callLine_172 : decode cX13_callLine 172 = .ok (.istore 7, 2) := by decide +kernel
theorem dX13_callLine_174 : decode cX13_callLine 174 = .ok (.iload 6, 2) := by decide +kernel
theorem dX13_callLine_176 : decode cX13_callLine 176 = .ok (.iload 4, 2) := by decide +kernel
theorem dX13_callLine_178 : decode cX13_callLine 178 = .ok (.if_icmp .ge 47, 3) := by decide +kernel
theorem dX13_callLine_181 : decode cX13_callLine 181 = .ok (.iload 7, 2) := by decide +kernel
theorem dX13_callLine_183 : decode cX13_callLine 183 = .ok (.aload_n 0, 1) := by decide +kernel
theorem dX13_callLine_184 : decode cX13_callLine 184 = .ok (.getfield 129, 3) := by decide +kernel
theorem dX13_callLine_187 : decode cX13_callLine 187 = .ok (.iload 6, 2) := by decide +kernel
theorem dX13_callLine_189 : decode cX13_callLine 189 = .ok (.iaload, 1) := by decide +kernel
theorem dX13_callLine_190 : decode cX13_callLine 190 = .ok (.if_icmp .ge 35, 3) := by decide +kernel
theorem dX13_callLine_193 : decode cX13_callLine 193 = .ok (.aload_n 0, 1) := by decide +kernel
theorem dX13_callLine_194 : decode cX13_callLine 194 = .ok (.getfield 82, 3) := by decide +kernel
theorem dX13_callLine_197 : decode cX13_callLine 197 = .ok (.aload_n 0, 1) := by decide +kernel
theorem dX13_callLine_198 : decode cX13_callLine 198 = .ok (.getfield 362, 3) := by decide +kernel
theorem dX13_callLine_201 : decode cX13_callLine 201 = .ok (.aload_n 0, 1) := by decide +kernel
theorem dX13_callLine_202 : decode cX13_callLine 202 = .ok (.getfield 49, 3) := by decide +kernel
theorem dX13_callLine_205 : decode cX13_callLine 205 = .ok (.iload 7, 2) := by decide +kernel
theorem dX13_callLine_207 : decode cX13_callLine 207 = .ok (.iaload, 1) := by decide +kernel
theorem dX13_callLine_208 : decode cX13_callLine 208 = .ok (.iastore, 1) := by decide +kernel
theorem dX13_callLine_209 : decode cX13_callLine 209 = .ok (.aload_n 0, 1) := by decide +kernel
theorem dX13_callLine_210 : decode cX13_callLine 210 = .ok (.dup, 1) := by decide +kernel
theorem dX13_callLine_211 : decode cX13_callLine 211 = .ok (.getfield 362, 3) := by decide +kernel
theorem dX13_callLine_214 : decode cX13_callLine 214 = .ok (.iconst 1, 1) := by decide +kernel
theorem dX13_callLine_215 : decode cX13_callLine 215 = .ok (.iadd, 1) := by decide +kernel
theorem dX13_callLine_216 : decode cX13_callLine 216 = .ok (.putfield 362, 3) := by decide +kernel
theorem dX13_callLine_219 : decode cX13_callLine 219 = .ok (.iinc 7 1, 3) := by decide +kernel
theorem dX13_callLine_222 : decode cX13_callLine 222 = .ok (.goto (-48), 3) := by decide +kernel
theorem dX13_callLine_225 : decode cX13_callLine 225 = .ok (.aload_n 0, 1) := by decide +kernel
theorem dX13_callLine_226 : decode cX13_callLine 226 = .ok (.getfield 79, 3) := by decide +kernel
theorem dX13_callLine_229 : decode cX13_callLine 229 = .ok (.iconst 4, 1) := by decide +kernel
theorem dX13_callLine_230 : decode cX13_callLine 230 = .ok (.aload_n 0, 1) := by decide +kernel
theorem dX13_callLine_231 : decode cX13_callLine 231 = .ok (.getfield 335, 3) := by decide +kernel
theorem dX13_callLine_234 : decode cX13_callLine 234 = .ok (.imul, 1) := by decide +kernel
theorem dX13_callLine_235 : decode cX13_callLine 235 = .ok (.iload 6, 2) := by decide +kernel
theorem dX13_callLine_237 : decode cX13_callLine 237 = .ok (.iadd, 1) := by decide +kernel
theorem dX13_callLine_238 : decode cX13_callLine 238 = .ok (.aload_n 0, 1) := by decide +kernel
theorem dX13_callLine_239 : decode cX13_callLine 239 = .ok (.getfield 362, 3) := by decide +kernel
theorem dX13_callLine_242 : decode cX13_callLine 242 = .ok (.iastore, 1) := by decide +kernel
theorem dX13_callLine_243 : decode cX13_callLine 243 = .ok (.iinc 6 1, 3) := by decide +kernel
theorem dX13_callLine_246 : decode cX13_callLine 246 = .ok (.goto (-116), 3) := by decide +kernel
theorem dX13_callLine_249 : decode cX13_callLine 249 = .ok (.aload_n 0, 1) := by decide +kernel
theorem dX13_callLine_250 : decode cX13_callLine 250 = .ok (.getfield 67, 3) := by decide +kernel
theorem dX13_callLine_253 : decode cX13_callLine 253 = .ok (.aload_n 0, 1) := by decide +kernel
theorem dX13_callLine_254 : decode cX13_callLine 254 = .ok (.getfield 335, 3) := by decide +kernel
theorem dX13_callLine_257 : decode cX13_callLine 257 = .ok (.iload_n 1, 1) := by decide +kernel
theorem dX13_callLine_258 : decode cX13_callLine 258 = .ok (.iastore, 1) := by decide +kernel
theorem dX13_callLine_259 : decode cX13_callLine 259 = .ok (.aload_n 0, 1) := by decide +kernel
theorem dX13_callLine_260 : decode cX13_callLine 260 = .ok (.getfield 70, 3) := by decide +kernel
theorem dX13_callLine_263 : decode cX13_callLine 263 = .ok (.aload_n 0, 1) := by decide +kernel
theorem dX13_callLine_264 : decode cX13_callLine 264 = .ok (.getfield 335, 3) := by decide +kernel
theorem dX13_callLine_267 : decode cX13_callLine 267 = .ok (.iconst 0, 1) := by decide +kernel
theorem dX13_callLine_268 : decode cX13_callLine 268 = .ok (.iastore, 1) := by decide +kernel
theorem dX13_callLine_269 : decode cX13_callLine 269 = .ok (.aload_n 0, 1) := by decide +kernel
theorem dX13_callLine_270 : decode cX13_callLine 270 = .ok (.getfield 73, 3) := by decide +kernel
theorem dX13_callLine_273 : decode cX13_callLine 273 = .ok (.aload_n 0, 1) := by decide +kernel
theorem dX13_callLine_274 : decode cX13_callLine 274 = .ok (.getfield 335, 3) := by decide +kernel
theorem dX13_callLine_277 : decode cX13_callLine 277 = .ok (.aload_n 0, 1) := by decide +kernel
theorem dX13_callLine_278 : decode cX13_callLine 278 = .ok (.getfield 359, 3) := by decide +kernel
theorem dX13_callLine_281 : decode cX13_callLine 281 = .ok (.iastore, 1) := by decide +kernel
theorem dX13_callLine_282 : decode cX13_callLine 282 = .ok (.aload_n 0, 1) := by decide +kernel
theorem dX13_callLine_283 : decode cX13_callLine 283 = .ok (.dup, 1) := by decide +kernel
theorem dX13_callLine_284 : decode cX13_callLine 284 = .ok (.getfield 335, 3) := by decide +kernel
theorem dX13_callLine_287 : decode cX13_callLine 287 = .ok (.iconst 1, 1) := by decide +kernel
theorem dX13_callLine_288 : decode cX13_callLine 288 = .ok (.iadd, 1) := by decide +kernel
theorem dX13_callLine_289 : decode cX13_callLine 289 = .ok (.putfield 335, 3) := by decide +kernel
theorem dX13_callLine_292 : decode cX13_callLine 292 = .ok (.return_, 1) := by decide +kernel

