set_option maxRecDepth 20000 in
theorem w_6_41 : (Jvm.Cond.fieldLink "AssembleLinesModel" (292 : Nat) "AssembleLinesModel" "operandName" "J") ∈ b_Ws := bw_6 (List.mem_of_getElem? (i := 41) rfl) rfl
set_option maxRecDepth 20000 in
theorem w_6_42 : (Jvm.Cond.fieldLink "AssembleLinesModel" (286 : Nat) "AssembleLinesModel" "operandOne" "I") ∈ b_Ws := bw_6 (List.mem_of_getElem? (i := 42) rfl) rfl
set_option maxRecDepth 20000 in
theorem w_6_43 : (Jvm.Cond.fieldLink "AssembleLinesModel" (289 : Nat) "AssembleLinesModel" "operandTwo" "I") ∈ b_Ws := bw_6 (List.mem_of_getElem? (i := 43) rfl) rfl
set_option maxRecDepth 20000 in
theorem w_7_66 : (Jvm.Cond.methodLink "AssembleLinesModel" (306 : Nat) ({ cls := "AssembleLinesModel", name := "isDone", desc := "()V" } : Jvm.MethodName)) ∈ b_Ws := bw_7 (List.mem_of_getElem? (i := 66) rfl) rfl
set_option maxRecDepth 20000 in
theorem w_7_68 : (Jvm.Cond.instanceMethod ({ cls := "AssembleLinesModel", name := "isDone", desc := "()V" } : Jvm.MethodName)) ∈ b_Ws := bw_7 (List.mem_of_getElem? (i := 68) rfl) rfl
set_option maxRecDepth 20000 in
theorem w_7_69 : (Jvm.Cond.code ({ cls := "AssembleLinesModel", name := "isDone", desc := "()V" } : Jvm.MethodName) prog_15_method_28_code (1 : Nat) (Option.none : Option Jvm.ClassFile.FieldType)) ∈ b_Ws := bw_7 (List.mem_of_getElem? (i := 69) rfl) rfl
set_option maxRecDepth 20000 in
theorem w_7_110 : (Jvm.Cond.methodLink "AssembleLinesModel" (296 : Nat) ({ cls := "AssembleLinesModel", name := "takeRegister", desc := "()I" } : Jvm.MethodName)) ∈ b_Ws := bw_7 (List.mem_of_getElem? (i := 110) rfl) rfl
set_option maxRecDepth 20000 in
theorem w_7_112 : (Jvm.Cond.instanceMethod ({ cls := "AssembleLinesModel", name := "takeRegister", desc := "()I" } : Jvm.MethodName)) ∈ b_Ws := bw_7 (List.mem_of_getElem? (i := 112) rfl) rfl
set_option maxRecDepth 20000 in
theorem w_7_113 : (Jvm.Cond.code ({ cls := "AssembleLinesModel", name := "takeRegister", desc := "()I" } : Jvm.MethodName) prog_15_method_23_code (3 : Nat) (Option.some Jvm.ClassFile.FieldType.int)) ∈ b_Ws := bw_7 (List.mem_of_getElem? (i := 113) rfl) rfl
set_option maxRecDepth 20000 in
theorem w_7_114 : (Jvm.Cond.methodLink "AssembleLinesModel" (299 : Nat) ({ cls := "AssembleLinesModel", name := "wants", desc := "(I)V" } : Jvm.MethodName)) ∈ b_Ws := bw_7 (List.mem_of_getElem? (i := 114) rfl) rfl
set_option maxRecDepth 20000 in
theorem w_7_116 : (Jvm.Cond.instanceMethod ({ cls := "AssembleLinesModel", name := "wants", desc := "(I)V" } : Jvm.MethodName)) ∈ b_Ws := bw_7 (List.mem_of_getElem? (i := 116) rfl) rfl
set_option maxRecDepth 20000 in
theorem w_7_117 : (Jvm.Cond.code ({ cls := "AssembleLinesModel", name := "wants", desc := "(I)V" } : Jvm.MethodName) prog_15_method_22_code (2 : Nat) (Option.none : Option Jvm.ClassFile.FieldType)) ∈ b_Ws := bw_7 (List.mem_of_getElem? (i := 117) rfl) rfl
set_option maxRecDepth 20000 in
theorem w_7_118 : (Jvm.Cond.methodLink "AssembleLinesModel" (303 : Nat) ({ cls := "AssembleLinesModel", name := "takeExpression", desc := "()V" } : Jvm.MethodName)) ∈ b_Ws := bw_7 (List.mem_of_getElem? (i := 118) rfl) rfl
set_option maxRecDepth 20000 in
theorem w_7_120 : (Jvm.Cond.instanceMethod ({ cls := "AssembleLinesModel", name := "takeExpression", desc := "()V" } : Jvm.MethodName)) ∈ b_Ws := bw_7 (List.mem_of_getElem? (i := 120) rfl) rfl
set_option maxRecDepth 20000 in
theorem w_7_121 : (Jvm.Cond.code ({ cls := "AssembleLinesModel", name := "takeExpression", desc := "()V" } : Jvm.MethodName) prog_15_method_27_code (2 : Nat) (Option.none : Option Jvm.ClassFile.FieldType)) ∈ b_Ws := bw_7 (List.mem_of_getElem? (i := 121) rfl) rfl
theorem dX13_takeOperands_0 : decode cX13_takeOperands 0 = .ok (.aload_n 0, 1) := by decide +kernel
theorem dX13_takeOperands_1 : decode cX13_takeOperands 1 = .ok (.iconst 0, 1) := by decide +kernel
theorem dX13_takeOperands_2 : decode cX13_takeOperands 2 = .ok (.putfield 253, 3) := by decide +kernel
theorem dX13_takeOperands_5 : decode cX13_takeOperands 5 = .ok (.aload_n 0, 1) := by decide +kernel
theorem dX13_takeOperands_6 : decode cX13_takeOperands 6 = .ok (.iconst 0, 1) := by decide +kernel
theorem dX13_takeOperands_7 : decode cX13_takeOperands 7 = .ok (.putfield 286, 3) := by decide +kernel
theorem dX13_takeOperands_10 : decode cX13_takeOperands 10 = .ok (.aload_n 0, 1) := by decide +kernel
theorem dX13_takeOperands_11 : decode cX13_takeOperands 11 = .ok (.iconst 0, 1) := by decide +kernel
theorem dX13_takeOperands_12 : decode cX13_takeOperands 12 = .ok (.putfield 289, 3) := by decide +kernel
theorem dX13_takeOperands_15 : decode cX13_takeOperands 15 = .ok (.aload_n 0, 1) := by decide +kernel
theorem dX13_takeOperands_16 : decode cX13_takeOperands 16 = .ok (.lconst 0, 1) := by decide +kernel
theorem dX13_takeOperands_17 : decode cX13_takeOperands 17 = .ok (.putfield 292, 3) := by decide +kernel
theorem dX13_takeOperands_20 : decode cX13_takeOperands 20 = .ok (.aload_n 0, 1) := by decide +kernel
theorem dX13_takeOperands_21 : decode cX13_takeOperands 21 = .ok (.invokevirtual 232, 3) := by decide +kernel
theorem dX13_takeOperands_24 : decode cX13_takeOperands 24 = .ok (.iload_n 1, 1) := by decide +kernel
theorem dX13_takeOperands_25 : decode cX13_takeOperands 25 = .ok (.iconst 2, 1) := by decide +kernel
theorem dX13_takeOperands_26 : decode cX13_takeOperands 26 = .ok (.if_icmp .eq 25, 3) := by decide +kernel
theorem dX13_takeOperands_29 : decode cX13_takeOperands 29 = .ok (.iload_n 1, 1) := by decide +kernel
theorem dX13_takeOperands_30 : decode cX13_takeOperands 30 = .ok (.iconst 3, 1) := by decide +kernel
theorem dX13_takeOperands_31 : decode cX13_takeOperands 31 = .ok (.if_icmp .eq 20, 3) := by decide +kernel
theorem dX13_takeOperands_34 : decode cX13_takeOperands 34 = .ok (.iload_n 1, 1) := by decide +kernel
theorem dX13_takeOperands_35 : decode cX13_takeOperands 35 = .ok (.iconst 4, 1) := by decide +kernel
theorem dX13_takeOperands_36 : decode cX13_takeOperands 36 = .ok (.if_icmp .eq 15, 3) := by decide +kernel
theorem dX13_takeOperands_39 : decode cX13_takeOperands 39 = .ok (.iload_n 1, 1) := by decide +kernel
theorem dX13_takeOperands_40 : decode cX13_takeOperands 40 = .ok (.bipush 6, 2) := by decide +kernel
theorem dX13_takeOperands_42 : decode cX13_takeOperands 42 = .ok (.if_icmp .eq 9, 3) := by decide +kernel
theorem dX13_takeOperands_45 : decode cX13_takeOperands 45 = .ok (.iload_n 1, 1) := by decide +kernel
theorem dX13_takeOperands_46 : decode cX13_takeOperands 46 = .ok (.bipush 7, 2) := by decide +kernel
theorem dX13_takeOperands_48 : decode cX13_takeOperands 48 = .ok (.if_icmp .ne 17, 3) := by decide +kernel
theorem dX13_takeOperands_51 : decode cX13_takeOperands 51 = .ok (.aload_n 0, 1) := by decide +kernel
theorem dX13_takeOperands_52 : decode cX13_takeOperands 52 = .ok (.aload_n 0, 1) := by decide +kernel
theorem dX13_takeOperands_53 : decode cX13_takeOperands 53 = .ok (.invokevirtual 296, 3) := by decide +kernel
theorem dX13_takeOperands_56 : decode cX13_takeOperands 56 = .ok (.putfield 286, 3) := by decide +kernel
theorem dX13_takeOperands_59 : decode cX13_takeOperands 59 = .ok (.aload_n 0, 1) := by decide +kernel
theorem dX13_takeOperands_60 : decode cX13_takeOperands 60 = .ok (.bipush 44, 2) := by decide +kernel
theorem dX13_takeOperands_62 : decode cX13_takeOperands 62 = .ok (.invokevirtual 299, 3) := by decide +kernel
theorem dX13_takeOperands_65 : decode cX13_takeOperands 65 = .ok (.iload_n 1, 1) := by decide +kernel
theorem dX13_takeOperands_66 : decode cX13_takeOperands 66 = .ok (.iconst 3, 1) := by decide +kernel
theorem dX13_takeOperands_67 : decode cX13_takeOperands 67 = .ok (.if_icmp .eq 8, 3) := by decide +kernel
theorem dX13_takeOperands_70 : decode cX13_takeOperands 70 = .ok (.iload_n 1, 1) := by decide +kernel
theorem dX13_takeOperands_71 : decode cX13_takeOperands 71 = .ok (.iconst 4, 1) := by decide +kernel
theorem dX13_takeOperands_72 : decode cX13_takeOperands 72 = .ok (.if_icmp .ne 11, 3) := by decide +kernel
theorem dX13_takeOperands_75 : decode cX13_takeOperands 75 = .ok (.aload_n 0, 1) := by decide +kernel
theorem dX13_takeOperands_76 : decode cX13_takeOperands 76 = .ok (.aload_n 0, 1) := by decide +kernel
theorem dX13_takeOperands_77 : decode cX13_takeOperands 77 = .ok (.invokevirtual 296, 3) := by decide +kernel
theorem dX13_takeOperands_80 : decode cX13_takeOperands 80 = .ok (.putfield 289, 3) := by decide +kernel
theorem dX13_takeOperands_83 : decode cX13_takeOperands 83 = .ok (.iload_n 1, 1) := by decide +kernel
theorem dX13_takeOperands_84 : decode cX13_takeOperands 84 = .ok (.bipush 7, 2) := by decide +kernel
theorem dX13_takeOperands_86 : decode cX13_takeOperands 86 = .ok (.if_icmp .ne 9, 3) := by decide +kernel
theorem dX13_takeOperands_89 : decode cX13_takeOperands 89 = .ok (.aload_n 0, 1) := by decide +kernel
theorem dX13_takeOperands_90 : decode cX13_takeOperands 90 = .ok (.bipush 61, 2) := by decide +kernel
theorem dX13_takeOperands_92 : decode cX13_takeOperands 92 = .ok (.invokevirtual 299, 3) := by decide +kernel
theorem dX13_takeOperands_95 : decode cX13_takeOperands 95 = .ok (.iload_n 1, 1) := by decide +kernel
theorem dX13_takeOperands_96 : decode cX13_takeOperands 96 = .ok (.bipush 11, 2) := by decide +kernel
theorem dX13_takeOperands_98 : decode cX13_takeOperands 98 = .ok (.if_icmp .ne 66, 3) := by decide +kernel
theorem dX13_takeOperands_101 : decode cX13_takeOperands 101 = .ok (.aload_n 0, 1) := by decide +kernel
theorem dX13_takeOperands_102 : decode cX13_takeOperands 102 = .ok (.aload_n 0, 1) := by decide +kernel
theorem dX13_takeOperands_103 : decode cX13_takeOperands 103 = .ok (.invokevirtual 195, 3) := by decide +kernel
theorem dX13_takeOperands_106 : decode cX13_takeOperands 106 = .ok (.invokestatic 183, 3) := by decide +kernel
theorem dX13_takeOperands_109 : decode cX13_takeOperands 109 = .ok (.ifCond .eq 10, 3) := by decide +kernel
theorem dX13_takeOperands_112 : decode cX13_takeOperands 112 = .ok (.aload_n 0, 1) := by decide +kernel
theorem dX13_takeOperands_113 : decode cX13_takeOperands 113 = .ok (.invokevirtual 235, 3) := by decide +kernel
theorem dX13_takeOperands_116 : decode cX13_takeOperands 116 = .ok (.goto 4, 3) := by decide +kernel
theorem dX13_takeOperands_119 : decode cX13_takeOperands 119 = .ok (.lconst 0, 1) := by decide +kernel
theorem dX13_takeOperands_120 : decode cX13_takeOperands 120 = .ok (.putfield 292, 3) := by decide +kernel
theorem dX13_takeOperands_123 : decode cX13_takeOperands 123 = .ok (.aload_n 0, 1) := by decide +kernel
theorem dX13_takeOperands_124 : decode cX13_takeOperands 124 = .ok (.aload_n 0, 1) := by decide +kernel
theorem dX13_takeOperands_125 : decode cX13_takeOperands 125 = .ok (.getfield 207, 3) := by decide +kernel
theorem dX13_takeOperands_128 : decode cX13_takeOperands 128 = .ok (.ifCond .ne 22, 3) := by decide +kernel
theorem dX13_takeOperands_131 : decode cX13_takeOperands 131 = .ok (.aload_n 0, 1) := by decide +kernel
theorem dX13_takeOperands_132 : decode cX13_takeOperands 132 = .ok (.getfield 292, 3) := by decide +kernel
theorem dX13_takeOperands_135 : decode cX13_takeOperands 135 = .ok (.lconst 0, 1) := by decide +kernel
theorem dX13_takeOperands_136 : decode cX13_takeOperands 136 = .ok (.lcmp, 1) := by decide +kernel
theorem dX13_takeOperands_137 : decode cX13_takeOperands 137 = .ok (.ifCond .eq 13, 3) := by decide +kernel
theorem dX13_takeOperands_140 : decode cX13_takeOperands 140 = .ok (.aload_n 0, 1) := by decide +kernel
theorem dX13_takeOperands_141 : decode cX13_takeOperands 141 = .ok (.getfield 292, 3) := by decide +kernel
theorem dX13_takeOperands_144 : decode cX13_takeOperands 144 = .ok (.invokestatic 239, 3) := by decide +kernel
theorem dX13_takeOperands_147 : decode cX13_takeOperands 147 = .ok (.ifCond .eq 7, 3) := by decide +kernel
theorem dX13_takeOperands_150 : decode cX13_takeOperands 150 = .ok (.iconst 1, 1) := by decide +kernel
theorem dX13_takeOperands_151 : decode cX13_takeOperands 151 = .ok (.goto 4, 3) := by decide +kernel
theorem dX13_takeOperands_154 : decode cX13_takeOperands 154 = .ok (.iconst 0, 1) := by decide +kernel
theorem dX13_takeOperands_155 : decode cX13_takeOperands 155 = .ok (.putfield 207, 3) := by decide +kernel
theorem dX13_takeOperands_158 : decode cX13_takeOperands 158 = .ok (.aload_n 0, 1) := by decide +kernel
theorem dX13_takeOperands_159 : decode cX13_takeOperands 159 = .ok (.bipush 44, 2) := by decide +kernel
theorem dX13_takeOperands_161 : decode cX13_takeOperands 161 = .ok (.invokevirtual 299, 3) := by decide +kernel
theorem dX13_takeOperands_164 : decode cX13_takeOperands 164 = .ok (.aload_n 0, 1) := by decide +kernel
theorem dX13_takeOperands_165 : decode cX13_takeOperands 165 = .ok (.getfield 207, 3) := by decide +kernel
theorem dX13_takeOperands_168 : decode cX13_takeOperands 168 = .ok (.ifCond .ne 47, 3) := by decide +kernel
theorem dX13_takeOperands_171 : decode cX13_takeOperands 171 = .ok (.iload_n 1, 1) := by decide +kernel
theorem dX13_takeOperands_172 : decode cX13_takeOperands 172 = .ok (.iconst 2, 1) := by decide +kernel
theorem dX13_takeOperands_173 : decode cX13_takeOperands 173 = .ok (.if_icmp .eq 38, 3) := by decide +kernel
theorem dX13_takeOperands_176 : decode cX13_takeOperands 176 = .ok (.iload_n 1, 1) := by decide +kernel
theorem dX13_takeOperands_177 : decode cX13_takeOperands 177 = .ok (.iconst 5, 1) := by decide +kernel
theorem dX13_takeOperands_178 : decode cX13_takeOperands 178 = .ok (.if_icmp .eq 33, 3) := by decide +kernel
theorem dX13_takeOperands_181 : decode cX13_takeOperands 181 = .ok (.iload_n 1, 1) := by decide +kernel
theorem dX13_takeOperands_182 : decode cX13_takeOperands 182 = .ok (.bipush 6, 2) := by decide +kernel
theorem dX13_takeOperands_184 : decode cX13_takeOperands 184 = .ok (.if_icmp .eq 27, 3) := by decide +kernel
theorem dX13_takeOperands_187 : decode cX13_takeOperands 187 = .ok (.iload_n 1, 1) := by decide +kernel
theorem dX13_takeOperands_188 : decode cX13_takeOperands 188 = .ok (.bipush 7, 2) := by decide +kernel
theorem dX13_takeOperands_190 : decode cX13_takeOperands 190 = .ok (.if_icmp .eq 21, 3) := by decide +kernel
theorem dX13_takeOperands_193 : decode cX13_takeOperands 193 = .ok (.iload_n 1, 1) := by decide +kernel
theorem dX13_takeOperands_194 : decode cX13_takeOperands 194 = .ok (.bipush 8, 2) := by decide +kernel
theorem dX13_takeOperands_196 : decode cX13_takeOperands 196 = .ok (.if_icmp .eq 15, 3) := by decide +kernel
theorem dX13_takeOperands_199 : decode cX13_takeOperands 199 = .ok (.iload_n 1, 1) := by decide +kernel
theorem dX13_takeOperands_200 : decode cX13_takeOperands 200 = .ok (.bipush 9, 2) := by decide +kernel
theorem dX13_takeOperands_202 : decode cX13_takeOperands 202 = .ok (.if_icmp .eq 9, 3) := by decide +kernel
theorem dX13_takeOperands_205 : decode cX13_takeOperands 205 = .ok (.iload_n 1, 1) := by decide +kernel
theorem dX13_takeOperands_206 : decode cX13_takeOperands 206 = .ok (.bipush 11, 2) := by decide +kernel
theorem dX13_takeOperands_208 : decode cX13_takeOperands 208 = .ok (.if_icmp .ne 7, 3) := by decide +kernel
theorem dX13_takeOperands_211 : decode cX13_takeOperands 211 = .ok (.aload_n 0, 1) := by decide +kernel
theorem dX13_takeOperands_212 : decode cX13_takeOperands 212 = .ok (.invokevirtual 303, 3) := by decide +kernel
theorem dX13_takeOperands_215 : decode cX13_takeOperands 215 = .ok (.aload_n 0, 1) := by decide +kernel
theorem dX13_takeOperands_216 : decode cX13_takeOperands 216 = .ok (.getfield 207, 3) := by decide +kernel
theorem dX13_takeOperands_219 : decode cX13_takeOperands 219 = .ok (.ifCond .ne 39, 3) := by decide +kernel
theorem dX13_takeOperands_222 : decode cX13_takeOperands 222 = .ok (.iload_n 1, 1) := by decide +kernel
theorem dX13_takeOperands_223 : decode cX13_takeOperands 223 = .ok (.bipush 8, 2) := by decide +kernel
theorem dX13_takeOperands_225 : decode cX13_takeOperands 225 = .ok (.if_icmp .ne 33, 3) := by decide +kernel
theorem dX13_takeOperands_228 : decode cX13_takeOperands 228 = .ok (.aload_n 0, 1) := by decide +kernel
theorem dX13_takeOperands_229 : decode cX13_takeOperands 229 = .ok (.invokevirtual 195, 3) := by decide +kernel
theorem dX13_takeOperands_232 : decode cX13_takeOperands 232 = .ok (.bipush 44, 2) := by decide +kernel
theorem dX13_takeOperands_234 : decode cX13_takeOperands 234 = .ok (.if_icmp .ne 24, 3) := by decide +kernel
theorem dX13_takeOperands_237 : decode cX13_takeOperands 237 = .ok (.aload_n 0, 1) := by decide +kernel
theorem dX13_takeOperands_238 : decode cX13_takeOperands 238 = .ok (.dup, 1) := by decide +kernel
theorem dX13_takeOperands_239 : decode cX13_takeOperands 239 = .ok (.getfield 189, 3) := by decide +kernel
theorem dX13_takeOperands_242 : decode cX13_takeOperands 242 = .ok (.iconst 1, 1) := by decide +kernel
theorem dX13_takeOperands_243 : decode cX13_takeOperands 243 = .ok (.iadd, 1) := by decide +kernel
theorem dX13_takeOperands_244 : decode cX13_takeOperands 244 = .ok (.putfield 189, 3) := by decide +kernel
theorem dX13_takeOperands_247 : decode cX13_takeOperands 247 = .ok (.aload_n 0, 1) := by decide +kernel
theorem dX13_takeOperands_248 : decode cX13_takeOperands 248 = .ok (.invokevirtual 232, 3) := by decide +kernel
theorem dX13_takeOperands_251 : decode cX13_takeOperands 251 = .ok (.aload_n 0, 1) := by decide +kernel
theorem dX13_takeOperands_252 : decode cX13_takeOperands 252 = .ok (.invokevirtual 303, 3) := by decide +kernel
theorem dX13_takeOperands_255 : decode cX13_takeOperands 255 = .ok (.goto (-40), 3) := by decide +kernel
theorem dX13_takeOperands_258 : decode cX13_takeOperands 258 = .ok (.aload_n 0, 1) := by decide +kernel
theorem dX13_takeOperands_259 : decode cX13_takeOperands 259 = .ok (.invokevirtual 306, 3) := by decide +kernel
theorem dX13_takeOperands_262 : decode cX13_takeOperands 262 = .ok (.aload_n 0, 1) := by decide +kernel
theorem dX13_takeOperands_263 : decode cX13_takeOperands 263 = .ok (.aload_n 0, 1) := by decide +kernel
theorem dX13_takeOperands_264 : decode cX13_takeOperands 264 = .ok (.getfield 207, 3) := by decide +kernel
theorem dX13_takeOperands_267 : decode cX13_takeOperands 267 = .ok (.ifCond .ne 18, 3) := by decide +kernel
theorem dX13_takeOperands_270 : decode cX13_takeOperands 270 = .ok (.iload_n 1, 1) := by decide +kernel
theorem dX13_takeOperands_271 : decode cX13_takeOperands 271 = .ok (.bipush 8, 2) := by decide +kernel
theorem dX13_takeOperands_273 : decode cX13_takeOperands 273 = .ok (.if_icmp .ne 16, 3) := by decide +kernel
theorem dX13_takeOperands_276 : decode cX13_takeOperands 276 = .ok (.aload_n 0, 1) := by decide +kernel
theorem dX13_takeOperands_277 : decode cX13_takeOperands 277 = .ok (.getfield 253, 3) := by decide +kernel
theorem dX13_takeOperands_280 : decode cX13_takeOperands 280 = .ok (.bipush 8, 2) := by decide +kernel
theorem dX13_takeOperands_282 : decode cX13_takeOperands 282 = .ok (.if_icmp .le 7, 3) := by decide +kernel
theorem dX13_takeOperands_285 : decode cX13_takeOperands 285 = .ok (.iconst 1, 1) := by decide +kernel
theorem dX13_takeOperands_286 : decode cX13_takeOperands 286 = .ok (.goto 4, 3) := by decide +kernel
theorem dX13_takeOperands_289 : decode cX13_takeOperands 289 = .ok (.iconst 0, 1) := by decide +kernel
theorem dX13_takeOperands_290 : decode cX13_takeOperands 290 = .ok (.putfield 207, 3) := by decide +kernel
theorem dX13_takeOperands_293 : decode cX13_takeOperands 293 = .ok (.return_, 1) := by decide +kernel

