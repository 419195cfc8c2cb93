set_option maxRecDepth 20000 in
theorem w_7_13 : (Jvm.Cond.methodLink "AssembleLinesModel" (368 : Nat) ({ cls := "AssembleLinesModel", name := "cutComment", desc := "()V" } : Jvm.MethodName)) ∈ b_Ws := bw_7 (List.mem_of_getElem? (i := 13) rfl) rfl
set_option maxRecDepth 20000 in
theorem w_7_15 : (Jvm.Cond.instanceMethod ({ cls := "AssembleLinesModel", name := "cutComment", desc := "()V" } : Jvm.MethodName)) ∈ b_Ws := bw_7 (List.mem_of_getElem? (i := 15) rfl) rfl
set_option maxRecDepth 20000 in
theorem w_7_16 : (Jvm.Cond.code ({ cls := "AssembleLinesModel", name := "cutComment", desc := "()V" } : Jvm.MethodName) prog_15_method_44_code (2 : Nat) (Option.none : Option Jvm.ClassFile.FieldType)) ∈ b_Ws := bw_7 (List.mem_of_getElem? (i := 16) rfl) rfl
set_option maxRecDepth 20000 in
theorem w_7_17 : (Jvm.Cond.methodLink "AssembleLinesModel" (371 : Nat) ({ cls := "AssembleLinesModel", name := "isPlain", desc := "()Z" } : Jvm.MethodName)) ∈ b_Ws := bw_7 (List.mem_of_getElem? (i := 17) rfl) rfl
set_option maxRecDepth 20000 in
theorem w_7_19 : (Jvm.Cond.instanceMethod ({ cls := "AssembleLinesModel", name := "isPlain", desc := "()Z" } : Jvm.MethodName)) ∈ b_Ws := bw_7 (List.mem_of_getElem? (i := 19) rfl) rfl
set_option maxRecDepth 20000 in
theorem w_7_20 : (Jvm.Cond.code ({ cls := "AssembleLinesModel", name := "isPlain", desc := "()Z" } : Jvm.MethodName) prog_15_method_43_code (2 : Nat) (Option.some Jvm.ClassFile.FieldType.boolean)) ∈ b_Ws := bw_7 (List.mem_of_getElem? (i := 20) rfl) rfl
set_option maxRecDepth 20000 in
theorem w_7_33 : (Jvm.Cond.methodLink "AssembleLinesModel" (374 : Nat) ({ cls := "AssembleLinesModel", name := "takeLabel", desc := "()J" } : Jvm.MethodName)) ∈ b_Ws := bw_7 (List.mem_of_getElem? (i := 33) rfl) rfl
set_option maxRecDepth 20000 in
theorem w_7_35 : (Jvm.Cond.instanceMethod ({ cls := "AssembleLinesModel", name := "takeLabel", desc := "()J" } : Jvm.MethodName)) ∈ b_Ws := bw_7 (List.mem_of_getElem? (i := 35) rfl) rfl
set_option maxRecDepth 20000 in
theorem w_7_36 : (Jvm.Cond.code ({ cls := "AssembleLinesModel", name := "takeLabel", desc := "()J" } : Jvm.MethodName) prog_15_method_45_code (4 : Nat) (Option.some Jvm.ClassFile.FieldType.long)) ∈ b_Ws := bw_7 (List.mem_of_getElem? (i := 36) rfl) rfl
set_option maxRecDepth 20000 in
theorem w_7_50 : (Jvm.Cond.methodLink "AssembleLinesModel" (377 : Nat) ({ cls := "AssembleLinesModel", name := "plainOperation", desc := "(J)I" } : Jvm.MethodName)) ∈ b_Ws := bw_7 (List.mem_of_getElem? (i := 50) rfl) rfl
set_option maxRecDepth 20000 in
theorem w_7_52 : (Jvm.Cond.instanceMethod ({ cls := "AssembleLinesModel", name := "plainOperation", desc := "(J)I" } : Jvm.MethodName)) ∈ b_Ws := bw_7 (List.mem_of_getElem? (i := 52) rfl) rfl
set_option maxRecDepth 20000 in
theorem w_7_53 : (Jvm.Cond.code ({ cls := "AssembleLinesModel", name := "plainOperation", desc := "(J)I" } : Jvm.MethodName) prog_15_method_46_code (4 : Nat) (Option.some Jvm.ClassFile.FieldType.int)) ∈ b_Ws := bw_7 (List.mem_of_getElem? (i := 53) rfl) rfl
set_option maxRecDepth 20000 in
theorem w_7_58 : (Jvm.Cond.methodLink "AssembleLinesModel" (380 : Nat) ({ cls := "AssembleLinesModel", name := "dotOperation", desc := "()I" } : Jvm.MethodName)) ∈ b_Ws := bw_7 (List.mem_of_getElem? (i := 58) rfl) rfl
set_option maxRecDepth 20000 in
theorem w_7_60 : (Jvm.Cond.instanceMethod ({ cls := "AssembleLinesModel", name := "dotOperation", desc := "()I" } : Jvm.MethodName)) ∈ b_Ws := bw_7 (List.mem_of_getElem? (i := 60) rfl) rfl
set_option maxRecDepth 20000 in
theorem w_7_61 : (Jvm.Cond.code ({ cls := "AssembleLinesModel", name := "dotOperation", desc := "()I" } : Jvm.MethodName) prog_15_method_47_code (5 : Nat) (Option.some Jvm.ClassFile.FieldType.int)) ∈ b_Ws := bw_7 (List.mem_of_getElem? (i := 61) rfl) rfl
set_option maxRecDepth 20000 in
theorem w_7_62 : (Jvm.Cond.methodLink "AssembleLinesModel" (383 : Nat) ({ cls := "AssembleLinesModel", name := "macroLine", desc := "(Z)V" } : Jvm.MethodName)) ∈ b_Ws := bw_7 (List.mem_of_getElem? (i := 62) rfl) rfl
set_option maxRecDepth 20000 in
theorem w_7_64 : (Jvm.Cond.instanceMethod ({ cls := "AssembleLinesModel", name := "macroLine", desc := "(Z)V" } : Jvm.MethodName)) ∈ b_Ws := bw_7 (List.mem_of_getElem? (i := 64) rfl) rfl
set_option maxRecDepth 20000 in
theorem w_7_65 : (Jvm.Cond.code ({ cls := "AssembleLinesModel", name := "macroLine", desc := "(Z)V" } : Jvm.MethodName) prog_15_method_38_code (5 : Nat) (Option.none : Option Jvm.ClassFile.FieldType)) ∈ b_Ws := bw_7 (List.mem_of_getElem? (i := 65) rfl) rfl
set_option maxRecDepth 20000 in
theorem w_7_74 : (Jvm.Cond.methodLink "AssembleLinesModel" (387 : Nat) ({ cls := "AssembleLinesModel", name := "callLine", desc := "(IJ)V" } : Jvm.MethodName)) ∈ b_Ws := bw_7 (List.mem_of_getElem? (i := 74) rfl) rfl
set_option maxRecDepth 20000 in
theorem w_7_76 : (Jvm.Cond.instanceMethod ({ cls := "AssembleLinesModel", name := "callLine", desc := "(IJ)V" } : Jvm.MethodName)) ∈ b_Ws := bw_7 (List.mem_of_getElem? (i := 76) rfl) rfl
set_option maxRecDepth 20000 in
theorem w_7_77 : (Jvm.Cond.code ({ cls := "AssembleLinesModel", name := "callLine", desc := "(IJ)V" } : Jvm.MethodName) prog_15_method_40_code (8 : Nat) (Option.none : Option Jvm.ClassFile.FieldType)) ∈ b_Ws := bw_7 (List.mem_of_getElem? (i := 77) rfl) rfl
set_option maxRecDepth 20000 in
theorem w_7_102 : (Jvm.Cond.methodLink "AssembleLinesModel" (390 : Nat) ({ cls := "AssembleLinesModel", name := "plainLine", desc := "(IJ)V" } : Jvm.MethodName)) ∈ b_Ws := bw_7 (List.mem_of_getElem? (i := 102) rfl) rfl
set_option maxRecDepth 20000 in
theorem w_7_104 : (Jvm.Cond.instanceMethod ({ cls := "AssembleLinesModel", name := "plainLine", desc := "(IJ)V" } : Jvm.MethodName)) ∈ b_Ws := bw_7 (List.mem_of_getElem? (i := 104) rfl) rfl
set_option maxRecDepth 20000 in
theorem w_7_105 : (Jvm.Cond.code ({ cls := "AssembleLinesModel", name := "plainLine", desc := "(IJ)V" } : Jvm.MethodName) prog_15_method_36_code (6 : Nat) (Option.none : Option Jvm.ClassFile.FieldType)) ∈ b_Ws := bw_7 (List.mem_of_getElem? (i := 105) rfl) rfl
theorem dX13_lookAt_0 : decode cX13_lookAt 0 = .ok (.aload_n 0, 1) := by decide +kernel
theorem dX13_lookAt_1 : decode cX13_lookAt 1 = .ok (.iconst 0, 1) := by decide +kernel
theorem dX13_lookAt_2 : decode cX13_lookAt 2 = .ok (.putfield 189, 3) := by decide +kernel
theorem dX13_lookAt_5 : decode cX13_lookAt 5 = .ok (.aload_n 0, 1) := by decide +kernel
theorem dX13_lookAt_6 : decode cX13_lookAt 6 = .ok (.iconst 0, 1) := by decide +kernel
theorem dX13_lookAt_7 : decode cX13_lookAt 7 = .ok (.putfield 207, 3) := by decide +kernel
theorem dX13_lookAt_10 : decode cX13_lookAt 10 = .ok (.aload_n 0, 1) := by decide +kernel
theorem dX13_lookAt_11 : decode cX13_lookAt 11 = .ok (.invokevirtual 368, 3) := by decide +kernel
theorem dX13_lookAt_14 : decode cX13_lookAt 14 = .ok (.aload_n 0, 1) := by decide +kernel
theorem dX13_lookAt_15 : decode cX13_lookAt 15 = .ok (.invokevirtual 371, 3) := by decide +kernel
theorem dX13_lookAt_18 : decode cX13_lookAt 18 = .ok (.ifCond .ne 13, 3) := by decide +kernel
theorem dX13_lookAt_21 : decode cX13_lookAt 21 = .ok (.aload_n 0, 1) := by decide +kernel
theorem dX13_lookAt_22 : decode cX13_lookAt 22 = .ok (.iconst 1, 1) := by decide +kernel
theorem dX13_lookAt_23 : decode cX13_lookAt 23 = .ok (.aload_n 0, 1) := by decide +kernel
theorem dX13_lookAt_24 : decode cX13_lookAt 24 = .ok (.getfield 268, 3) := by decide +kernel
theorem dX13_lookAt_27 : decode cX13_lookAt 27 = .ok (.invokevirtual 312, 3) := by decide +kernel
theorem dX13_lookAt_30 : decode cX13_lookAt 30 = .ok (.return_, 1) := by decide +kernel
theorem dX13_lookAt_31 : decode cX13_lookAt 31 = .ok (.aload_n 0, 1) := by decide +kernel
theorem dX13_lookAt_32 : decode cX13_lookAt 32 = .ok (.invokevirtual 232, 3) := by decide +kernel
theorem dX13_lookAt_35 : decode cX13_lookAt 35 = .ok (.aload_n 0, 1) := by decide +kernel
theorem dX13_lookAt_36 : decode cX13_lookAt 36 = .ok (.getfield 189, 3) := by decide +kernel
theorem dX13_lookAt_39 : decode cX13_lookAt 39 = .ok (.aload_n 0, 1) := by decide +kernel
theorem dX13_lookAt_40 : decode cX13_lookAt 40 = .ok (.getfield 192, 3) := by decide +kernel
theorem dX13_lookAt_43 : decode cX13_lookAt 43 = .ok (.if_icmp .ne 4, 3) := by decide +kernel
theorem dX13_lookAt_46 : decode cX13_lookAt 46 = .ok (.return_, 1) := by decide +kernel
theorem dX13_lookAt_47 : decode cX13_lookAt 47 = .ok (.aload_n 0, 1) := by decide +kernel
theorem dX13_lookAt_48 : decode cX13_lookAt 48 = .ok (.invokevirtual 374, 3) := by decide +kernel
theorem dX13_lookAt_51 : decode cX13_lookAt 51 = .ok (.lstore_n 1, 1) := by decide +kernel
theorem dX13_lookAt_52 : decode cX13_lookAt 52 = .ok (.iconst 0, 1) := by decide +kernel
theorem dX13_lookAt_53 : decode cX13_lookAt 53 = .ok (.istore_n 3, 1) := by decide +kernel
theorem dX13_lookAt_54 : decode cX13_lookAt 54 = .ok (.aload_n 0, 1) := by decide +kernel
theorem dX13_lookAt_55 : decode cX13_lookAt 55 = .ok (.getfield 207, 3) := by decide +kernel
theorem dX13_lookAt_58 : decode cX13_lookAt 58 = .ok (.ifCond .ne 94, 3) := by decide +kernel
theorem dX13_lookAt_61 : decode cX13_lookAt 61 = .ok (.aload_n 0, 1) := by decide +kernel
theorem dX13_lookAt_62 : decode cX13_lookAt 62 = .ok (.getfield 189, 3) := by decide +kernel
theorem dX13_lookAt_65 : decode cX13_lookAt 65 = .ok (.aload_n 0, 1) := by decide +kernel
theorem dX13_lookAt_66 : decode cX13_lookAt 66 = .ok (.getfield 192, 3) := by decide +kernel
theorem dX13_lookAt_69 : decode cX13_lookAt 69 = .ok (.if_icmp .ge 83, 3) := by decide +kernel
theorem dX13_lookAt_72 : decode cX13_lookAt 72 = .ok (.aload_n 0, 1) := by decide +kernel
theorem dX13_lookAt_73 : decode cX13_lookAt 73 = .ok (.invokevirtual 195, 3) := by decide +kernel
theorem dX13_lookAt_76 : decode cX13_lookAt 76 = .ok (.invokestatic 183, 3) := by decide +kernel
theorem dX13_lookAt_79 : decode cX13_lookAt 79 = .ok (.ifCond .eq 15, 3) := by decide +kernel
theorem dX13_lookAt_82 : decode cX13_lookAt 82 = .ok (.aload_n 0, 1) := by decide +kernel
theorem dX13_lookAt_83 : decode cX13_lookAt 83 = .ok (.aload_n 0, 1) := by decide +kernel
theorem dX13_lookAt_84 : decode cX13_lookAt 84 = .ok (.invokevirtual 235, 3) := by decide +kernel
theorem dX13_lookAt_87 : decode cX13_lookAt 87 = .ok (.invokevirtual 377, 3) := by decide +kernel
theorem dX13_lookAt_90 : decode cX13_lookAt 90 = .ok (.istore_n 3, 1) := by decide +kernel
theorem dX13_lookAt_91 : decode cX13_lookAt 91 = .ok (.goto 25, 3) := by decide +kernel
theorem dX13_lookAt_94 : decode cX13_lookAt 94 = .ok (.aload_n 0, 1) := by decide +kernel
theorem dX13_lookAt_95 : decode cX13_lookAt 95 = .ok (.invokevirtual 195, 3) := by decide +kernel
theorem dX13_lookAt_98 : decode cX13_lookAt 98 = .ok (.bipush 46, 2) := by decide +kernel
theorem dX13_lookAt_100 : decode cX13_lookAt 100 = .ok (.if_icmp .ne 11, 3) := by decide +kernel
theorem dX13_lookAt_103 : decode cX13_lookAt 103 = .ok (.aload_n 0, 1) := by decide +kernel
theorem dX13_lookAt_104 : decode cX13_lookAt 104 = .ok (.invokevirtual 380, 3) := by decide +kernel
theorem dX13_lookAt_107 : decode cX13_lookAt 107 = .ok (.istore_n 3, 1) := by decide +kernel
theorem dX13_lookAt_108 : decode cX13_lookAt 108 = .ok (.goto 8, 3) := by decide +kernel
theorem dX13_lookAt_111 : decode cX13_lookAt 111 = .ok (.aload_n 0, 1) := by decide +kernel
theorem dX13_lookAt_112 : decode cX13_lookAt 112 = .ok (.iconst 1, 1) := by decide +kernel
theorem dX13_lookAt_113 : decode cX13_lookAt 113 = .ok (.putfield 207, 3) := by decide +kernel
theorem dX13_lookAt_116 : decode cX13_lookAt 116 = .ok (.aload_n 0, 1) := by decide +kernel
theorem dX13_lookAt_117 : decode cX13_lookAt 117 = .ok (.aload_n 0, 1) := by decide +kernel
theorem dX13_lookAt_118 : decode cX13_lookAt 118 = .ok (.getfield 207, 3) := by decide +kernel
theorem dX13_lookAt_121 : decode cX13_lookAt 121 = .ok (.ifCond .ne 23, 3) := by decide +kernel
theorem dX13_lookAt_124 : decode cX13_lookAt 124 = .ok (.aload_n 0, 1) := by decide +kernel
theorem dX13_lookAt_125 : decode cX13_lookAt 125 = .ok (.getfield 189, 3) := by decide +kernel
theorem dX13_lookAt_128 : decode cX13_lookAt 128 = .ok (.aload_n 0, 1) := by decide +kernel
theorem dX13_lookAt_129 : decode cX13_lookAt 129 = .ok (.getfield 192, 3) := by decide +kernel
theorem dX13_lookAt_132 : decode cX13_lookAt 132 = .ok (.if_icmp .ge 16, 3) := by decide +kernel
theorem dX13_lookAt_135 : decode cX13_lookAt 135 = .ok (.aload_n 0, 1) := by decide +kernel
theorem dX13_lookAt_136 : decode cX13_lookAt 136 = .ok (.invokevirtual 195, 3) := by decide +kernel
theorem dX13_lookAt_139 : decode cX13_lookAt 139 = .ok (.bipush 32, 2) := by decide +kernel
theorem dX13_lookAt_141 : decode cX13_lookAt 141 = .ok (.if_icmp .eq 7, 3) := by decide +kernel
theorem dX13_lookAt_144 : decode cX13_lookAt 144 = .ok (.iconst 1, 1) := by decide +kernel
theorem dX13_lookAt_145 : decode cX13_lookAt 145 = .ok (.goto 4, 3) := by decide +kernel
theorem dX13_lookAt_148 : decode cX13_lookAt 148 = .ok (.iconst 0, 1) := by decide +kernel
theorem dX13_lookAt_149 : decode cX13_lookAt 149 = .ok (.putfield 207, 3) := by decide +kernel
theorem dX13_lookAt_152 : decode cX13_lookAt 152 = .ok (.aload_n 0, 1) := by decide +kernel
theorem dX13_lookAt_153 : decode cX13_lookAt 153 = .ok (.getfield 207, 3) := by decide +kernel
theorem dX13_lookAt_156 : decode cX13_lookAt 156 = .ok (.ifCond .ne 9, 3) := by decide +kernel
theorem dX13_lookAt_159 : decode cX13_lookAt 159 = .ok (.iload_n 3, 1) := by decide +kernel
theorem dX13_lookAt_160 : decode cX13_lookAt 160 = .ok (.bipush 13, 2) := by decide +kernel
theorem dX13_lookAt_162 : decode cX13_lookAt 162 = .ok (.if_icmp .ne 15, 3) := by decide +kernel
theorem dX13_lookAt_165 : decode cX13_lookAt 165 = .ok (.aload_n 0, 1) := by decide +kernel
theorem dX13_lookAt_166 : decode cX13_lookAt 166 = .ok (.iconst 1, 1) := by decide +kernel
theorem dX13_lookAt_167 : decode cX13_lookAt 167 = .ok (.aload_n 0, 1) := by decide +kernel
theorem dX13_lookAt_168 : decode cX13_lookAt 168 = .ok (.getfield 268, 3) := by decide +kernel
theorem dX13_lookAt_171 : decode cX13_lookAt 171 = .ok (.invokevirtual 312, 3) := by decide +kernel
theorem dX13_lookAt_174 : decode cX13_lookAt 174 = .ok (.goto 68, 3) := by decide +kernel
theorem dX13_lookAt_177 : decode cX13_lookAt 177 = .ok (.iload_n 3, 1) := by decide +kernel
theorem dX13_lookAt_178 : decode cX13_lookAt 178 = .ok (.iconst (-1), 1) := by decide +kernel
theorem dX13_lookAt_179 : decode cX13_lookAt 179 = .ok (.if_icmp .ne 15, 3) := by decide +kernel
theorem dX13_lookAt_182 : decode cX13_lookAt 182 = .ok (.aload_n 0, 1) := by decide +kernel
theorem dX13_lookAt_183 : decode cX13_lookAt 183 = .ok (.iconst 2, 1) := by decide +kernel
theorem dX13_lookAt_184 : decode cX13_lookAt 184 = .ok (.aload_n 0, 1) := by decide +kernel
theorem dX13_lookAt_185 : decode cX13_lookAt 185 = .ok (.getfield 268, 3) := by decide +kernel
theorem dX13_lookAt_188 : decode cX13_lookAt 188 = .ok (.invokevirtual 312, 3) := by decide +kernel
theorem dX13_lookAt_191 : decode cX13_lookAt 191 = .ok (.goto 51, 3) := by decide +kernel
theorem dX13_lookAt_194 : decode cX13_lookAt 194 = .ok (.iload_n 3, 1) := by decide +kernel
theorem dX13_lookAt_195 : decode cX13_lookAt 195 = .ok (.bipush 12, 2) := by decide +kernel
theorem dX13_lookAt_197 : decode cX13_lookAt 197 = .ok (.if_icmp .ne 21, 3) := by decide +kernel
theorem dX13_lookAt_200 : decode cX13_lookAt 200 = .ok (.aload_n 0, 1) := by decide +kernel
theorem dX13_lookAt_201 : decode cX13_lookAt 201 = .ok (.lload_n 1, 1) := by decide +kernel
theorem dX13_lookAt_202 : decode cX13_lookAt 202 = .ok (.lconst 0, 1) := by decide +kernel
theorem dX13_lookAt_203 : decode cX13_lookAt 203 = .ok (.lcmp, 1) := by decide +kernel
theorem dX13_lookAt_204 : decode cX13_lookAt 204 = .ok (.ifCond .le 7, 3) := by decide +kernel
theorem dX13_lookAt_207 : decode cX13_lookAt 207 = .ok (.iconst 1, 1) := by decide +kernel
theorem dX13_lookAt_208 : decode cX13_lookAt 208 = .ok (.goto 4, 3) := by decide +kernel
theorem dX13_lookAt_211 : decode cX13_lookAt 211 = .ok (.iconst 0, 1) := by decide +kernel
theorem dX13_lookAt_212 : decode cX13_lookAt 212 = .ok (.invokevirtual 383, 3) := by decide +kernel
theorem dX13_lookAt_215 : decode cX13_lookAt 215 = .ok (.goto 27, 3) := by decide +kernel
theorem dX13_lookAt_218 : decode cX13_lookAt 218 = .ok (.iload_n 3, 1) := by decide +kernel
theorem dX13_lookAt_219 : decode cX13_lookAt 219 = .ok (.bipush 14, 2) := by decide +kernel
theorem dX13_lookAt_221 : decode cX13_lookAt 221 = .ok (.if_icmp .lt 15, 3) := by decide +kernel
theorem dX13_lookAt_224 : decode cX13_lookAt 224 = .ok (.aload_n 0, 1) := by decide +kernel
theorem dX13_lookAt_225 : decode cX13_lookAt 225 = .ok (.iload_n 3, 1) := by decide +kernel
theorem dX13_lookAt_226 : decode cX13_lookAt 226 = .ok (.bipush 14, 2) := by decide +kernel
theorem dX13_lookAt_228 : decode cX13_lookAt 228 = .ok (.isub, 1) := by decide +kernel
theorem dX13_lookAt_229 : decode cX13_lookAt 229 = .ok (.lload_n 1, 1) := by decide +kernel
theorem dX13_lookAt_230 : decode cX13_lookAt 230 = .ok (.invokevirtual 387, 3) := by decide +kernel
theorem dX13_lookAt_233 : decode cX13_lookAt 233 = .ok (.goto 9, 3) := by decide +kernel
theorem dX13_lookAt_236 : decode cX13_lookAt 236 = .ok (.aload_n 0, 1) := by decide +kernel
theorem dX13_lookAt_237 : decode cX13_lookAt 237 = .ok (.iload_n 3, 1) := by decide +kernel
theorem dX13_lookAt_238 : decode cX13_lookAt 238 = .ok (.lload_n 1, 1) := by decide +kernel
theorem dX13_lookAt_239 : decode cX13_lookAt 239 = .ok (.invokevirtual 390, 3) := by decide +kernel
theorem dX13_lookAt_242 : decode cX13_lookAt 242 = .ok (.return_, 1) := by decide +kernel

