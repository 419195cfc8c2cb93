set_option maxRecDepth 20000 in
theorem w_6_35 : (Jvm.Cond.fieldLink "AssembleLinesModel" (454 : Nat) "AssembleLinesModel" "longs" "I") ∈ b_Ws := bw_6 (List.mem_of_getElem? (i := 35) rfl) rfl
set_option maxRecDepth 20000 in
theorem w_7_207 : (Jvm.Cond.methodLink "AssembleLinesModel" (447 : Nat) ({ cls := "AssembleLinesModel", name := "sayLong", desc := "(II)V" } : Jvm.MethodName)) ∈ b_Ws := bw_7 (List.mem_of_getElem? (i := 207) rfl) rfl
set_option maxRecDepth 20000 in
theorem w_7_209 : (Jvm.Cond.instanceMethod ({ cls := "AssembleLinesModel", name := "sayLong", desc := "(II)V" } : Jvm.MethodName)) ∈ b_Ws := bw_7 (List.mem_of_getElem? (i := 209) rfl) rfl
set_option maxRecDepth 20000 in
theorem w_7_210 : (Jvm.Cond.code ({ cls := "AssembleLinesModel", name := "sayLong", desc := "(II)V" } : Jvm.MethodName) prog_15_method_63_code (3 : Nat) (Option.none : Option Jvm.ClassFile.FieldType)) ∈ b_Ws := bw_7 (List.mem_of_getElem? (i := 210) rfl) rfl
set_option maxRecDepth 20000 in
theorem w_7_211 : (Jvm.Cond.constant "AssembleLinesModel" (450 : Nat) (36864 : Int32)) ∈ b_Ws := bw_7 (List.mem_of_getElem? (i := 211) rfl) rfl
set_option maxRecDepth 20000 in
theorem w_7_212 : (Jvm.Cond.methodLink "AssembleLinesModel" (451 : Nat) ({ cls := "AssembleLinesModel", name := "sayPool", desc := "(I)V" } : Jvm.MethodName)) ∈ b_Ws := bw_7 (List.mem_of_getElem? (i := 212) rfl) rfl
set_option maxRecDepth 20000 in
theorem w_7_214 : (Jvm.Cond.instanceMethod ({ cls := "AssembleLinesModel", name := "sayPool", desc := "(I)V" } : Jvm.MethodName)) ∈ b_Ws := bw_7 (List.mem_of_getElem? (i := 214) rfl) rfl
set_option maxRecDepth 20000 in
theorem w_7_215 : (Jvm.Cond.code ({ cls := "AssembleLinesModel", name := "sayPool", desc := "(I)V" } : Jvm.MethodName) prog_15_method_64_code (4 : Nat) (Option.none : Option Jvm.ClassFile.FieldType)) ∈ b_Ws := bw_7 (List.mem_of_getElem? (i := 215) rfl) rfl
theorem dX13_sayStatement_0 : decode cX13_sayStatement 0 = .ok (.aload_n 0, 1) := by decide +kernel
theorem dX13_sayStatement_1 : decode cX13_sayStatement 1 = .ok (.getfield 97, 3) := by decide +kernel
theorem dX13_sayStatement_4 : decode cX13_sayStatement 4 = .ok (.iload_n 1, 1) := by decide +kernel
theorem dX13_sayStatement_5 : decode cX13_sayStatement 5 = .ok (.iaload, 1) := by decide +kernel
theorem dX13_sayStatement_6 : decode cX13_sayStatement 6 = .ok (.ifCond .le 12, 3) := by decide +kernel
theorem dX13_sayStatement_9 : decode cX13_sayStatement 9 = .ok (.aload_n 0, 1) := by decide +kernel
theorem dX13_sayStatement_10 : decode cX13_sayStatement 10 = .ok (.iload_n 1, 1) := by decide +kernel
theorem dX13_sayStatement_11 : decode cX13_sayStatement 11 = .ok (.iconst 0, 1) := by decide +kernel
theorem dX13_sayStatement_12 : decode cX13_sayStatement 12 = .ok (.invokevirtual 418, 3) := by decide +kernel
theorem dX13_sayStatement_15 : decode cX13_sayStatement 15 = .ok (.goto 4, 3) := by decide +kernel
theorem dX13_sayStatement_18 : decode cX13_sayStatement 18 = .ok (.iconst 0, 1) := by decide +kernel
theorem dX13_sayStatement_19 : decode cX13_sayStatement 19 = .ok (.istore_n 2, 1) := by decide +kernel
theorem dX13_sayStatement_20 : decode cX13_sayStatement 20 = .ok (.aload_n 0, 1) := by decide +kernel
theorem dX13_sayStatement_21 : decode cX13_sayStatement 21 = .ok (.getfield 91, 3) := by decide +kernel
theorem dX13_sayStatement_24 : decode cX13_sayStatement 24 = .ok (.iload_n 1, 1) := by decide +kernel
theorem dX13_sayStatement_25 : decode cX13_sayStatement 25 = .ok (.iaload, 1) := by decide +kernel
theorem dX13_sayStatement_26 : decode cX13_sayStatement 26 = .ok (.bipush 9, 2) := by decide +kernel
theorem dX13_sayStatement_28 : decode cX13_sayStatement 28 = .ok (.ishl, 1) := by decide +kernel
theorem dX13_sayStatement_29 : decode cX13_sayStatement 29 = .ok (.istore_n 3, 1) := by decide +kernel
theorem dX13_sayStatement_30 : decode cX13_sayStatement 30 = .ok (.iload_n 2, 1) := by decide +kernel
theorem dX13_sayStatement_31 : decode cX13_sayStatement 31 = .ok (.aload_n 0, 1) := by decide +kernel
theorem dX13_sayStatement_32 : decode cX13_sayStatement 32 = .ok (.getfield 113, 3) := by decide +kernel
theorem dX13_sayStatement_35 : decode cX13_sayStatement 35 = .ok (.iload_n 1, 1) := by decide +kernel
theorem dX13_sayStatement_36 : decode cX13_sayStatement 36 = .ok (.iaload, 1) := by decide +kernel
theorem dX13_sayStatement_37 : decode cX13_sayStatement 37 = .ok (.isub, 1) := by decide +kernel
theorem dX13_sayStatement_38 : decode cX13_sayStatement 38 = .ok (.iconst 1, 1) := by decide +kernel
theorem dX13_sayStatement_39 : decode cX13_sayStatement 39 = .ok (.isub, 1) := by decide +kernel
theorem dX13_sayStatement_40 : decode cX13_sayStatement 40 = .ok (.istore 4, 2) := by decide +kernel
theorem dX13_sayStatement_42 : decode cX13_sayStatement 42 = .ok (.aload_n 0, 1) := by decide +kernel
theorem dX13_sayStatement_43 : decode cX13_sayStatement 43 = .ok (.getfield 88, 3) := by decide +kernel
theorem dX13_sayStatement_46 : decode cX13_sayStatement 46 = .ok (.iload_n 1, 1) := by decide +kernel
theorem dX13_sayStatement_47 : decode cX13_sayStatement 47 = .ok (.iaload, 1) := by decide +kernel
theorem dX13_sayStatement_48 : decode cX13_sayStatement 48 = .ok (.tableswitch 313 1 10 #[56, 64, 100, 122, 144, 179, 216, 243, 277, 305], 56) := by decide +kernel
theorem dX13_sayStatement_104 : decode cX13_sayStatement 104 = .ok (.aload_n 0, 1) := by decide +kernel
theorem dX13_sayStatement_105 : decode cX13_sayStatement 105 = .ok (.iconst 0, 1) := by decide +kernel
theorem dX13_sayStatement_106 : decode cX13_sayStatement 106 = .ok (.invokevirtual 444, 3) := by decide +kernel
theorem dX13_sayStatement_109 : decode cX13_sayStatement 109 = .ok (.goto 252, 3) := by decide +kernel
theorem dX13_sayStatement_112 : decode cX13_sayStatement 112 = .ok (.aload_n 0, 1) := by decide +kernel
theorem dX13_sayStatement_113 : decode cX13_sayStatement 113 = .ok (.getfield 109, 3) := by decide +kernel
theorem dX13_sayStatement_116 : decode cX13_sayStatement 116 = .ok (.iload_n 1, 1) := by decide +kernel
theorem dX13_sayStatement_117 : decode cX13_sayStatement 117 = .ok (.baload, 1) := by decide +kernel
theorem dX13_sayStatement_118 : decode cX13_sayStatement 118 = .ok (.ifCond .eq 12, 3) := by decide +kernel
theorem dX13_sayStatement_121 : decode cX13_sayStatement 121 = .ok (.aload_n 0, 1) := by decide +kernel
theorem dX13_sayStatement_122 : decode cX13_sayStatement 122 = .ok (.iconst 2, 1) := by decide +kernel
theorem dX13_sayStatement_123 : decode cX13_sayStatement 123 = .ok (.iload_n 1, 1) := by decide +kernel
theorem dX13_sayStatement_124 : decode cX13_sayStatement 124 = .ok (.invokevirtual 447, 3) := by decide +kernel
theorem dX13_sayStatement_127 : decode cX13_sayStatement 127 = .ok (.goto 234, 3) := by decide +kernel
theorem dX13_sayStatement_130 : decode cX13_sayStatement 130 = .ok (.aload_n 0, 1) := by decide +kernel
theorem dX13_sayStatement_131 : decode cX13_sayStatement 131 = .ok (.sipush 4096, 3) := by decide +kernel
theorem dX13_sayStatement_134 : decode cX13_sayStatement 134 = .ok (.iload_n 3, 1) := by decide +kernel
theorem dX13_sayStatement_135 : decode cX13_sayStatement 135 = .ok (.ior, 1) := by decide +kernel
theorem dX13_sayStatement_136 : decode cX13_sayStatement 136 = .ok (.iload_n 2, 1) := by decide +kernel
theorem dX13_sayStatement_137 : decode cX13_sayStatement 137 = .ok (.sipush 511, 3) := by decide +kernel
theorem dX13_sayStatement_140 : decode cX13_sayStatement 140 = .ok (.iand, 1) := by decide +kernel
theorem dX13_sayStatement_141 : decode cX13_sayStatement 141 = .ok (.ior, 1) := by decide +kernel
theorem dX13_sayStatement_142 : decode cX13_sayStatement 142 = .ok (.invokevirtual 444, 3) := by decide +kernel
theorem dX13_sayStatement_145 : decode cX13_sayStatement 145 = .ok (.goto 216, 3) := by decide +kernel
theorem dX13_sayStatement_148 : decode cX13_sayStatement 148 = .ok (.aload_n 0, 1) := by decide +kernel
theorem dX13_sayStatement_149 : decode cX13_sayStatement 149 = .ok (.sipush 12288, 3) := by decide +kernel
theorem dX13_sayStatement_152 : decode cX13_sayStatement 152 = .ok (.iload_n 3, 1) := by decide +kernel
theorem dX13_sayStatement_153 : decode cX13_sayStatement 153 = .ok (.ior, 1) := by decide +kernel
theorem dX13_sayStatement_154 : decode cX13_sayStatement 154 = .ok (.aload_n 0, 1) := by decide +kernel
theorem dX13_sayStatement_155 : decode cX13_sayStatement 155 = .ok (.getfield 94, 3) := by decide +kernel
theorem dX13_sayStatement_158 : decode cX13_sayStatement 158 = .ok (.iload_n 1, 1) := by decide +kernel
theorem dX13_sayStatement_159 : decode cX13_sayStatement 159 = .ok (.iaload, 1) := by decide +kernel
theorem dX13_sayStatement_160 : decode cX13_sayStatement 160 = .ok (.bipush 6, 2) := by decide +kernel
theorem dX13_sayStatement_162 : decode cX13_sayStatement 162 = .ok (.ishl, 1) := by decide +kernel
theorem dX13_sayStatement_163 : decode cX13_sayStatement 163 = .ok (.ior, 1) := by decide +kernel
theorem dX13_sayStatement_164 : decode cX13_sayStatement 164 = .ok (.invokevirtual 444, 3) := by decide +kernel
theorem dX13_sayStatement_167 : decode cX13_sayStatement 167 = .ok (.goto 194, 3) := by decide +kernel
theorem dX13_sayStatement_170 : decode cX13_sayStatement 170 = .ok (.aload_n 0, 1) := by decide +kernel
theorem dX13_sayStatement_171 : decode cX13_sayStatement 171 = .ok (.sipush 16384, 3) := by decide +kernel
theorem dX13_sayStatement_174 : decode cX13_sayStatement 174 = .ok (.iload_n 3, 1) := by decide +kernel
theorem dX13_sayStatement_175 : decode cX13_sayStatement 175 = .ok (.ior, 1) := by decide +kernel
theorem dX13_sayStatement_176 : decode cX13_sayStatement 176 = .ok (.aload_n 0, 1) := by decide +kernel
theorem dX13_sayStatement_177 : decode cX13_sayStatement 177 = .ok (.getfield 94, 3) := by decide +kernel
theorem dX13_sayStatement_180 : decode cX13_sayStatement 180 = .ok (.iload_n 1, 1) := by decide +kernel
theorem dX13_sayStatement_181 : decode cX13_sayStatement 181 = .ok (.iaload, 1) := by decide +kernel
theorem dX13_sayStatement_182 : decode cX13_sayStatement 182 = .ok (.bipush 6, 2) := by decide +kernel
theorem dX13_sayStatement_184 : decode cX13_sayStatement 184 = .ok (.ishl, 1) := by decide +kernel
theorem dX13_sayStatement_185 : decode cX13_sayStatement 185 = .ok (.ior, 1) := by decide +kernel
theorem dX13_sayStatement_186 : decode cX13_sayStatement 186 = .ok (.invokevirtual 444, 3) := by decide +kernel
theorem dX13_sayStatement_189 : decode cX13_sayStatement 189 = .ok (.goto 172, 3) := by decide +kernel
theorem dX13_sayStatement_192 : decode cX13_sayStatement 192 = .ok (.aload_n 0, 1) := by decide +kernel
theorem dX13_sayStatement_193 : decode cX13_sayStatement 193 = .ok (.getfield 109, 3) := by decide +kernel
theorem dX13_sayStatement_196 : decode cX13_sayStatement 196 = .ok (.iload_n 1, 1) := by decide +kernel
theorem dX13_sayStatement_197 : decode cX13_sayStatement 197 = .ok (.baload, 1) := by decide +kernel
theorem dX13_sayStatement_198 : decode cX13_sayStatement 198 = .ok (.ifCond .eq 13, 3) := by decide +kernel
theorem dX13_sayStatement_201 : decode cX13_sayStatement 201 = .ok (.aload_n 0, 1) := by decide +kernel
theorem dX13_sayStatement_202 : decode cX13_sayStatement 202 = .ok (.bipush 6, 2) := by decide +kernel
theorem dX13_sayStatement_204 : decode cX13_sayStatement 204 = .ok (.iload_n 1, 1) := by decide +kernel
theorem dX13_sayStatement_205 : decode cX13_sayStatement 205 = .ok (.invokevirtual 447, 3) := by decide +kernel
theorem dX13_sayStatement_208 : decode cX13_sayStatement 208 = .ok (.goto 153, 3) := by decide +kernel
theorem dX13_sayStatement_211 : decode cX13_sayStatement 211 = .ok (.aload_n 0, 1) := by decide +kernel
theorem dX13_sayStatement_212 : decode cX13_sayStatement 212 = .ok (.sipush 20480, 3) := by decide +kernel
theorem dX13_sayStatement_215 : decode cX13_sayStatement 215 = .ok (.iload 4, 2) := by decide +kernel
theorem dX13_sayStatement_217 : decode cX13_sayStatement 217 = .ok (.bipush 63, 2) := by decide +kernel
theorem dX13_sayStatement_219 : decode cX13_sayStatement 219 = .ok (.iand, 1) := by decide +kernel
theorem dX13_sayStatement_220 : decode cX13_sayStatement 220 = .ok (.ior, 1) := by decide +kernel
theorem dX13_sayStatement_221 : decode cX13_sayStatement 221 = .ok (.invokevirtual 444, 3) := by decide +kernel
theorem dX13_sayStatement_224 : decode cX13_sayStatement 224 = .ok (.goto 137, 3) := by decide +kernel
theorem dX13_sayStatement_227 : decode cX13_sayStatement 227 = .ok (.aload_n 0, 1) := by decide +kernel
theorem dX13_sayStatement_228 : decode cX13_sayStatement 228 = .ok (.getfield 109, 3) := by decide +kernel
theorem dX13_sayStatement_231 : decode cX13_sayStatement 231 = .ok (.iload_n 1, 1) := by decide +kernel
theorem dX13_sayStatement_232 : decode cX13_sayStatement 232 = .ok (.baload, 1) := by decide +kernel
theorem dX13_sayStatement_233 : decode cX13_sayStatement 233 = .ok (.ifCond .eq 13, 3) := by decide +kernel
theorem dX13_sayStatement_236 : decode cX13_sayStatement 236 = .ok (.aload_n 0, 1) := by decide +kernel
theorem dX13_sayStatement_237 : decode cX13_sayStatement 237 = .ok (.bipush 8, 2) := by decide +kernel
theorem dX13_sayStatement_239 : decode cX13_sayStatement 239 = .ok (.iload_n 1, 1) := by decide +kernel
theorem dX13_sayStatement_240 : decode cX13_sayStatement 240 = .ok (.invokevirtual 447, 3) := by decide +kernel
theorem dX13_sayStatement_243 : decode cX13_sayStatement 243 = .ok (.goto 118, 3) := by decide +kernel
theorem dX13_sayStatement_246 : decode cX13_sayStatement 246 = .ok (.aload_n 0, 1) := by decide +kernel
theorem dX13_sayStatement_247 : decode cX13_sayStatement 247 = .ok (.sipush 28672, 3) := by decide +kernel
theorem dX13_sayStatement_250 : decode cX13_sayStatement 250 = .ok (.iload_n 3, 1) := by decide +kernel
theorem dX13_sayStatement_251 : decode cX13_sayStatement 251 = .ok (.ior, 1) := by decide +kernel
theorem dX13_sayStatement_252 : decode cX13_sayStatement 252 = .ok (.iload 4, 2) := by decide +kernel
theorem dX13_sayStatement_254 : decode cX13_sayStatement 254 = .ok (.bipush 31, 2) := by decide +kernel
theorem dX13_sayStatement_256 : decode cX13_sayStatement 256 = .ok (.iand, 1) := by decide +kernel
theorem dX13_sayStatement_257 : decode cX13_sayStatement 257 = .ok (.ior, 1) := by decide +kernel
theorem dX13_sayStatement_258 : decode cX13_sayStatement 258 = .ok (.invokevirtual 444, 3) := by decide +kernel
theorem dX13_sayStatement_261 : decode cX13_sayStatement 261 = .ok (.goto 100, 3) := by decide +kernel
theorem dX13_sayStatement_264 : decode cX13_sayStatement 264 = .ok (.aload_n 0, 1) := by decide +kernel
theorem dX13_sayStatement_265 : decode cX13_sayStatement 265 = .ok (.ldc_w 450, 3) := by decide +kernel
theorem dX13_sayStatement_268 : decode cX13_sayStatement 268 = .ok (.iload_n 3, 1) := by decide +kernel
theorem dX13_sayStatement_269 : decode cX13_sayStatement 269 = .ok (.ior, 1) := by decide +kernel
theorem dX13_sayStatement_270 : decode cX13_sayStatement 270 = .ok (.aload_n 0, 1) := by decide +kernel
theorem dX13_sayStatement_271 : decode cX13_sayStatement 271 = .ok (.iload_n 1, 1) := by decide +kernel
theorem dX13_sayStatement_272 : decode cX13_sayStatement 272 = .ok (.invokevirtual 435, 3) := by decide +kernel
theorem dX13_sayStatement_275 : decode cX13_sayStatement 275 = .ok (.aload_n 0, 1) := by decide +kernel
theorem dX13_sayStatement_276 : decode cX13_sayStatement 276 = .ok (.getfield 113, 3) := by decide +kernel
theorem dX13_sayStatement_279 : decode cX13_sayStatement 279 = .ok (.iload_n 1, 1) := by decide +kernel
theorem dX13_sayStatement_280 : decode cX13_sayStatement 280 = .ok (.iaload, 1) := by decide +kernel
theorem dX13_sayStatement_281 : decode cX13_sayStatement 281 = .ok (.isub, 1) := by decide +kernel
theorem dX13_sayStatement_282 : decode cX13_sayStatement 282 = .ok (.iconst 1, 1) := by decide +kernel
theorem dX13_sayStatement_283 : decode cX13_sayStatement 283 = .ok (.isub, 1) := by decide +kernel
theorem dX13_sayStatement_284 : decode cX13_sayStatement 284 = .ok (.ior, 1) := by decide +kernel
theorem dX13_sayStatement_285 : decode cX13_sayStatement 285 = .ok (.invokevirtual 444, 3) := by decide +kernel
theorem dX13_sayStatement_288 : decode cX13_sayStatement 288 = .ok (.goto 73, 3) := by decide +kernel
theorem dX13_sayStatement_291 : decode cX13_sayStatement 291 = .ok (.iconst 0, 1) := by decide +kernel
theorem dX13_sayStatement_292 : decode cX13_sayStatement 292 = .ok (.istore 5, 2) := by decide +kernel
theorem dX13_sayStatement_294 : decode cX13_sayStatement 294 = .ok (.iload 5, 2) := by decide +kernel
theorem dX13_sayStatement_296 : decode cX13_sayStatement 296 = .ok (.aload_n 0, 1) := by decide +kernel
theorem dX13_sayStatement_297 : decode cX13_sayStatement 297 = .ok (.getfield 97, 3) := by decide +kernel
theorem dX13_sayStatement_300 : decode cX13_sayStatement 300 = .ok (.iload_n 1, 1) := by decide +kernel
theorem dX13_sayStatement_301 : decode cX13_sayStatement 301 = .ok (.iaload, 1) := by decide +kernel
theorem dX13_sayStatement_302 : decode cX13_sayStatement 302 = .ok (.if_icmp .ge 20, 3) := by decide +kernel
theorem dX13_sayStatement_305 : decode cX13_sayStatement 305 = .ok (.aload_n 0, 1) := by decide +kernel
theorem dX13_sayStatement_306 : decode cX13_sayStatement 306 = .ok (.aload_n 0, 1) := by decide +kernel
theorem dX13_sayStatement_307 : decode cX13_sayStatement 307 = .ok (.iload_n 1, 1) := by decide +kernel
theorem dX13_sayStatement_308 : decode cX13_sayStatement 308 = .ok (.iload 5, 2) := by decide +kernel
theorem dX13_sayStatement_310 : decode cX13_sayStatement 310 = .ok (.invokevirtual 418, 3) := by decide +kernel
theorem dX13_sayStatement_313 : decode cX13_sayStatement 313 = .ok (.invokevirtual 444, 3) := by decide +kernel
theorem dX13_sayStatement_316 : decode cX13_sayStatement 316 = .ok (.iinc 5 1, 3) := by decide +kernel
theorem dX13_sayStatement_319 : decode cX13_sayStatement 319 = .ok (.goto (-25), 3) := by decide +kernel
theorem dX13_sayStatement_322 : decode cX13_sayStatement 322 = .ok (.goto 39, 3) := by decide +kernel
theorem dX13_sayStatement_325 : decode cX13_sayStatement 325 = .ok (.iconst 0, 1) := by decide +kernel
theorem dX13_sayStatement_326 : decode cX13_sayStatement 326 = .ok (.istore 5, 2) := by decide +kernel
theorem dX13_sayStatement_328 : decode cX13_sayStatement 328 = .ok (.iload 5, 2) := by decide +kernel
theorem dX13_sayStatement_330 : decode cX13_sayStatement 330 = .ok (.aload_n 0, 1) := by decide +kernel
theorem dX13_sayStatement_331 : decode cX13_sayStatement 331 = .ok (.getfield 103, 3) := by decide +kernel
theorem dX13_sayStatement_334 : decode cX13_sayStatement 334 = .ok (.iload_n 1, 1) := by decide +kernel
theorem dX13_sayStatement_335 : decode cX13_sayStatement 335 = .ok (.iaload, 1) := by decide +kernel
theorem dX13_sayStatement_336 : decode cX13_sayStatement 336 = .ok (.if_icmp .ge 14, 3) := by decide +kernel
theorem dX13_sayStatement_339 : decode cX13_sayStatement 339 = .ok (.aload_n 0, 1) := by decide +kernel
theorem dX13_sayStatement_340 : decode cX13_sayStatement 340 = .ok (.iconst 0, 1) := by decide +kernel
theorem dX13_sayStatement_341 : decode cX13_sayStatement 341 = .ok (.invokevirtual 444, 3) := by decide +kernel
theorem dX13_sayStatement_344 : decode cX13_sayStatement 344 = .ok (.iinc 5 1, 3) := by decide +kernel
theorem dX13_sayStatement_347 : decode cX13_sayStatement 347 = .ok (.goto (-19), 3) := by decide +kernel
theorem dX13_sayStatement_350 : decode cX13_sayStatement 350 = .ok (.goto 11, 3) := by decide +kernel
theorem dX13_sayStatement_353 : decode cX13_sayStatement 353 = .ok (.aload_n 0, 1) := by decide +kernel
theorem dX13_sayStatement_354 : decode cX13_sayStatement 354 = .ok (.iload_n 1, 1) := by decide +kernel
theorem dX13_sayStatement_355 : decode cX13_sayStatement 355 = .ok (.invokevirtual 451, 3) := by decide +kernel
theorem dX13_sayStatement_358 : decode cX13_sayStatement 358 = .ok (.goto 3, 3) := by decide +kernel
theorem dX13_sayStatement_361 : decode cX13_sayStatement 361 = .ok (.aload_n 0, 1) := by decide +kernel
theorem dX13_sayStatement_362 : decode cX13_sayStatement 362 = .ok (.dup, 1) := by decide +kernel
theorem dX13_sayStatement_363 : decode cX13_sayStatement 363 = .ok (.getfield 454, 3) := by decide +kernel
theorem dX13_sayStatement_366 : decode cX13_sayStatement 366 = .ok (.aload_n 0, 1) := by decide +kernel
theorem dX13_sayStatement_367 : decode cX13_sayStatement 367 = .ok (.getfield 109, 3) := by decide +kernel
theorem dX13_sayStatement_370 : decode cX13_sayStatement 370 = .ok (.iload_n 1, 1) := by decide +kernel
theorem dX13_sayStatement_371 : decode cX13_sayStatement 371 = .ok (.baload, 1) := by decide +kernel
theorem dX13_sayStatement_372 : decode cX13_sayStatement 372 = .ok (.ifCond .eq 7, 3) := by decide +kernel
theorem dX13_sayStatement_375 : decode cX13_sayStatement 375 = .ok (.iconst 1, 1) := by decide +kernel
theorem dX13_sayStatement_376 : decode cX13_sayStatement 376 = .ok (.goto 4, 3) := by decide +kernel
theorem dX13_sayStatement_379 : decode cX13_sayStatement 379 = .ok (.iconst 0, 1) := by decide +kernel
theorem dX13_sayStatement_380 : decode cX13_sayStatement 380 = .ok (.iadd, 1) := by decide +kernel
theorem dX13_sayStatement_381 : decode cX13_sayStatement 381 = .ok (.putfield 454, 3) := by decide +kernel
theorem dX13_sayStatement_384 : decode cX13_sayStatement 384 = .ok (.return_, 1) := by decide +kernel

