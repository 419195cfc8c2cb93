set_option maxRecDepth 20000 in
theorem w_7_98 : (Jvm.Cond.methodLink "AssembleLinesModel" (324 : Nat) ({ cls := "AssembleLinesModel", name := "add", desc := "(IJ)V" } : Jvm.MethodName)) ∈ b_Ws := bw_7 (List.mem_of_getElem? (i := 98) rfl) rfl
set_option maxRecDepth 20000 in
theorem w_7_100 : (Jvm.Cond.instanceMethod ({ cls := "AssembleLinesModel", name := "add", desc := "(IJ)V" } : Jvm.MethodName)) ∈ b_Ws := bw_7 (List.mem_of_getElem? (i := 100) rfl) rfl
set_option maxRecDepth 20000 in
theorem w_7_101 : (Jvm.Cond.code ({ cls := "AssembleLinesModel", name := "add", desc := "(IJ)V" } : Jvm.MethodName) prog_15_method_31_code (4 : Nat) (Option.none : Option Jvm.ClassFile.FieldType)) ∈ b_Ws := bw_7 (List.mem_of_getElem? (i := 101) rfl) rfl
set_option maxRecDepth 20000 in
theorem w_7_106 : (Jvm.Cond.methodLink "AssembleLinesModel" (309 : Nat) ({ cls := "AssembleLinesModel", name := "takeOperands", desc := "(I)V" } : Jvm.MethodName)) ∈ b_Ws := bw_7 (List.mem_of_getElem? (i := 106) rfl) rfl
set_option maxRecDepth 20000 in
theorem w_7_108 : (Jvm.Cond.instanceMethod ({ cls := "AssembleLinesModel", name := "takeOperands", desc := "(I)V" } : Jvm.MethodName)) ∈ b_Ws := bw_7 (List.mem_of_getElem? (i := 108) rfl) rfl
set_option maxRecDepth 20000 in
theorem w_7_109 : (Jvm.Cond.code ({ cls := "AssembleLinesModel", name := "takeOperands", desc := "(I)V" } : Jvm.MethodName) prog_15_method_35_code (2 : Nat) (Option.none : Option Jvm.ClassFile.FieldType)) ∈ b_Ws := bw_7 (List.mem_of_getElem? (i := 109) rfl) rfl
set_option maxRecDepth 20000 in
theorem w_7_142 : (Jvm.Cond.methodLink "AssembleLinesModel" (320 : Nat) ({ cls := "AssembleLinesModel", name := "troubleOf", desc := "(IJJI)I" } : Jvm.MethodName)) ∈ b_Ws := bw_7 (List.mem_of_getElem? (i := 142) rfl) rfl
set_option maxRecDepth 20000 in
theorem w_7_144 : (Jvm.Cond.instanceMethod ({ cls := "AssembleLinesModel", name := "troubleOf", desc := "(IJJI)I" } : Jvm.MethodName)) ∈ b_Ws := bw_7 (List.mem_of_getElem? (i := 144) rfl) rfl
set_option maxRecDepth 20000 in
theorem w_7_145 : (Jvm.Cond.code ({ cls := "AssembleLinesModel", name := "troubleOf", desc := "(IJJI)I" } : Jvm.MethodName) prog_15_method_33_code (7 : Nat) (Option.some Jvm.ClassFile.FieldType.int)) ∈ b_Ws := bw_7 (List.mem_of_getElem? (i := 145) rfl) rfl
set_option maxRecDepth 20000 in
theorem w_7_146 : (Jvm.Cond.methodLink "AssembleLinesModel" (328 : Nat) ({ cls := "AssembleLinesModel", name := "addSet", desc := "(JI)V" } : Jvm.MethodName)) ∈ b_Ws := bw_7 (List.mem_of_getElem? (i := 146) rfl) rfl
set_option maxRecDepth 20000 in
theorem w_7_148 : (Jvm.Cond.instanceMethod ({ cls := "AssembleLinesModel", name := "addSet", desc := "(JI)V" } : Jvm.MethodName)) ∈ b_Ws := bw_7 (List.mem_of_getElem? (i := 148) rfl) rfl
set_option maxRecDepth 20000 in
theorem w_7_149 : (Jvm.Cond.code ({ cls := "AssembleLinesModel", name := "addSet", desc := "(JI)V" } : Jvm.MethodName) prog_15_method_34_code (5 : Nat) (Option.none : Option Jvm.ClassFile.FieldType)) ∈ b_Ws := bw_7 (List.mem_of_getElem? (i := 149) rfl) rfl
set_option maxRecDepth 20000 in
theorem w_7_150 : (Jvm.Cond.methodLink "AssembleLinesModel" (332 : Nat) ({ cls := "AssembleLinesModel", name := "keepExpressions", desc := "(I)V" } : Jvm.MethodName)) ∈ b_Ws := bw_7 (List.mem_of_getElem? (i := 150) rfl) rfl
set_option maxRecDepth 20000 in
theorem w_7_152 : (Jvm.Cond.instanceMethod ({ cls := "AssembleLinesModel", name := "keepExpressions", desc := "(I)V" } : Jvm.MethodName)) ∈ b_Ws := bw_7 (List.mem_of_getElem? (i := 152) rfl) rfl
set_option maxRecDepth 20000 in
theorem w_7_153 : (Jvm.Cond.code ({ cls := "AssembleLinesModel", name := "keepExpressions", desc := "(I)V" } : Jvm.MethodName) prog_15_method_32_code (4 : Nat) (Option.none : Option Jvm.ClassFile.FieldType)) ∈ b_Ws := bw_7 (List.mem_of_getElem? (i := 153) rfl) rfl
theorem dX13_plainLine_0 : decode cX13_plainLine 0 = .ok (.aload_n 0, 1) := by decide +kernel
theorem dX13_plainLine_1 : decode cX13_plainLine 1 = .ok (.iload_n 1, 1) := by decide +kernel
theorem dX13_plainLine_2 : decode cX13_plainLine 2 = .ok (.invokevirtual 309, 3) := by decide +kernel
theorem dX13_plainLine_5 : decode cX13_plainLine 5 = .ok (.aload_n 0, 1) := by decide +kernel
theorem dX13_plainLine_6 : decode cX13_plainLine 6 = .ok (.getfield 207, 3) := by decide +kernel
theorem dX13_plainLine_9 : decode cX13_plainLine 9 = .ok (.ifCond .eq 13, 3) := by decide +kernel
theorem dX13_plainLine_12 : decode cX13_plainLine 12 = .ok (.aload_n 0, 1) := by decide +kernel
theorem dX13_plainLine_13 : decode cX13_plainLine 13 = .ok (.iconst 1, 1) := by decide +kernel
theorem dX13_plainLine_14 : decode cX13_plainLine 14 = .ok (.aload_n 0, 1) := by decide +kernel
theorem dX13_plainLine_15 : decode cX13_plainLine 15 = .ok (.getfield 268, 3) := by decide +kernel
theorem dX13_plainLine_18 : decode cX13_plainLine 18 = .ok (.invokevirtual 312, 3) := by decide +kernel
theorem dX13_plainLine_21 : decode cX13_plainLine 21 = .ok (.return_, 1) := by decide +kernel
theorem dX13_plainLine_22 : decode cX13_plainLine 22 = .ok (.aload_n 0, 1) := by decide +kernel
theorem dX13_plainLine_23 : decode cX13_plainLine 23 = .ok (.iconst 1, 1) := by decide +kernel
theorem dX13_plainLine_24 : decode cX13_plainLine 24 = .ok (.putfield 256, 3) := by decide +kernel
theorem dX13_plainLine_27 : decode cX13_plainLine 27 = .ok (.aload_n 0, 1) := by decide +kernel
theorem dX13_plainLine_28 : decode cX13_plainLine 28 = .ok (.iconst 0, 1) := by decide +kernel
theorem dX13_plainLine_29 : decode cX13_plainLine 29 = .ok (.putfield 265, 3) := by decide +kernel
theorem dX13_plainLine_32 : decode cX13_plainLine 32 = .ok (.aload_n 0, 1) := by decide +kernel
theorem dX13_plainLine_33 : decode cX13_plainLine 33 = .ok (.iconst 0, 1) := by decide +kernel
theorem dX13_plainLine_34 : decode cX13_plainLine 34 = .ok (.putfield 259, 3) := by decide +kernel
theorem dX13_plainLine_37 : decode cX13_plainLine 37 = .ok (.iload_n 1, 1) := by decide +kernel
theorem dX13_plainLine_38 : decode cX13_plainLine 38 = .ok (.bipush 11, 2) := by decide +kernel
theorem dX13_plainLine_40 : decode cX13_plainLine 40 = .ok (.if_icmp .eq 9, 3) := by decide +kernel
theorem dX13_plainLine_43 : decode cX13_plainLine 43 = .ok (.iload_n 1, 1) := by decide +kernel
theorem dX13_plainLine_44 : decode cX13_plainLine 44 = .ok (.bipush 9, 2) := by decide +kernel
theorem dX13_plainLine_46 : decode cX13_plainLine 46 = .ok (.if_icmp .ne 26, 3) := by decide +kernel
theorem dX13_plainLine_49 : decode cX13_plainLine 49 = .ok (.aload_n 0, 1) := by decide +kernel
theorem dX13_plainLine_50 : decode cX13_plainLine 50 = .ok (.aload_n 0, 1) := by decide +kernel
theorem dX13_plainLine_51 : decode cX13_plainLine 51 = .ok (.getfield 49, 3) := by decide +kernel
theorem dX13_plainLine_54 : decode cX13_plainLine 54 = .ok (.aload_n 0, 1) := by decide +kernel
theorem dX13_plainLine_55 : decode cX13_plainLine 55 = .ok (.getfield 126, 3) := by decide +kernel
theorem dX13_plainLine_58 : decode cX13_plainLine 58 = .ok (.iconst 0, 1) := by decide +kernel
theorem dX13_plainLine_59 : decode cX13_plainLine 59 = .ok (.iaload, 1) := by decide +kernel
theorem dX13_plainLine_60 : decode cX13_plainLine 60 = .ok (.aload_n 0, 1) := by decide +kernel
theorem dX13_plainLine_61 : decode cX13_plainLine 61 = .ok (.getfield 129, 3) := by decide +kernel
theorem dX13_plainLine_64 : decode cX13_plainLine 64 = .ok (.iconst 0, 1) := by decide +kernel
theorem dX13_plainLine_65 : decode cX13_plainLine 65 = .ok (.iaload, 1) := by decide +kernel
theorem dX13_plainLine_66 : decode cX13_plainLine 66 = .ok (.invokevirtual 316, 3) := by decide +kernel
theorem dX13_plainLine_69 : decode cX13_plainLine 69 = .ok (.goto 4, 3) := by decide +kernel
theorem dX13_plainLine_72 : decode cX13_plainLine 72 = .ok (.iconst 0, 1) := by decide +kernel
theorem dX13_plainLine_73 : decode cX13_plainLine 73 = .ok (.istore 4, 2) := by decide +kernel
theorem dX13_plainLine_75 : decode cX13_plainLine 75 = .ok (.aload_n 0, 1) := by decide +kernel
theorem dX13_plainLine_76 : decode cX13_plainLine 76 = .ok (.iconst 0, 1) := by decide +kernel
theorem dX13_plainLine_77 : decode cX13_plainLine 77 = .ok (.putfield 256, 3) := by decide +kernel
theorem dX13_plainLine_80 : decode cX13_plainLine 80 = .ok (.aload_n 0, 1) := by decide +kernel
theorem dX13_plainLine_81 : decode cX13_plainLine 81 = .ok (.iload_n 1, 1) := by decide +kernel
theorem dX13_plainLine_82 : decode cX13_plainLine 82 = .ok (.lload_n 2, 1) := by decide +kernel
theorem dX13_plainLine_83 : decode cX13_plainLine 83 = .ok (.aload_n 0, 1) := by decide +kernel
theorem dX13_plainLine_84 : decode cX13_plainLine 84 = .ok (.getfield 292, 3) := by decide +kernel
theorem dX13_plainLine_87 : decode cX13_plainLine 87 = .ok (.iload 4, 2) := by decide +kernel
theorem dX13_plainLine_89 : decode cX13_plainLine 89 = .ok (.invokevirtual 320, 3) := by decide +kernel
theorem dX13_plainLine_92 : decode cX13_plainLine 92 = .ok (.istore 5, 2) := by decide +kernel
theorem dX13_plainLine_94 : decode cX13_plainLine 94 = .ok (.iload 5, 2) := by decide +kernel
theorem dX13_plainLine_96 : decode cX13_plainLine 96 = .ok (.ifCond .le 14, 3) := by decide +kernel
theorem dX13_plainLine_99 : decode cX13_plainLine 99 = .ok (.aload_n 0, 1) := by decide +kernel
theorem dX13_plainLine_100 : decode cX13_plainLine 100 = .ok (.iload 5, 2) := by decide +kernel
theorem dX13_plainLine_102 : decode cX13_plainLine 102 = .ok (.aload_n 0, 1) := by decide +kernel
theorem dX13_plainLine_103 : decode cX13_plainLine 103 = .ok (.getfield 268, 3) := by decide +kernel
theorem dX13_plainLine_106 : decode cX13_plainLine 106 = .ok (.invokevirtual 312, 3) := by decide +kernel
theorem dX13_plainLine_109 : decode cX13_plainLine 109 = .ok (.return_, 1) := by decide +kernel
theorem dX13_plainLine_110 : decode cX13_plainLine 110 = .ok (.iload_n 1, 1) := by decide +kernel
theorem dX13_plainLine_111 : decode cX13_plainLine 111 = .ok (.bipush 11, 2) := by decide +kernel
theorem dX13_plainLine_113 : decode cX13_plainLine 113 = .ok (.if_icmp .ne 26, 3) := by decide +kernel
theorem dX13_plainLine_116 : decode cX13_plainLine 116 = .ok (.lload_n 2, 1) := by decide +kernel
theorem dX13_plainLine_117 : decode cX13_plainLine 117 = .ok (.lconst 0, 1) := by decide +kernel
theorem dX13_plainLine_118 : decode cX13_plainLine 118 = .ok (.lcmp, 1) := by decide +kernel
theorem dX13_plainLine_119 : decode cX13_plainLine 119 = .ok (.ifCond .le 9, 3) := by decide +kernel
theorem dX13_plainLine_122 : decode cX13_plainLine 122 = .ok (.aload_n 0, 1) := by decide +kernel
theorem dX13_plainLine_123 : decode cX13_plainLine 123 = .ok (.iconst 0, 1) := by decide +kernel
theorem dX13_plainLine_124 : decode cX13_plainLine 124 = .ok (.lload_n 2, 1) := by decide +kernel
theorem dX13_plainLine_125 : decode cX13_plainLine 125 = .ok (.invokevirtual 324, 3) := by decide +kernel
theorem dX13_plainLine_128 : decode cX13_plainLine 128 = .ok (.aload_n 0, 1) := by decide +kernel
theorem dX13_plainLine_129 : decode cX13_plainLine 129 = .ok (.aload_n 0, 1) := by decide +kernel
theorem dX13_plainLine_130 : decode cX13_plainLine 130 = .ok (.getfield 292, 3) := by decide +kernel
theorem dX13_plainLine_133 : decode cX13_plainLine 133 = .ok (.iload 4, 2) := by decide +kernel
theorem dX13_plainLine_135 : decode cX13_plainLine 135 = .ok (.invokevirtual 328, 3) := by decide +kernel
theorem dX13_plainLine_138 : decode cX13_plainLine 138 = .ok (.return_, 1) := by decide +kernel
theorem dX13_plainLine_139 : decode cX13_plainLine 139 = .ok (.aload_n 0, 1) := by decide +kernel
theorem dX13_plainLine_140 : decode cX13_plainLine 140 = .ok (.iload_n 1, 1) := by decide +kernel
theorem dX13_plainLine_141 : decode cX13_plainLine 141 = .ok (.lload_n 2, 1) := by decide +kernel
theorem dX13_plainLine_142 : decode cX13_plainLine 142 = .ok (.invokevirtual 324, 3) := by decide +kernel
theorem dX13_plainLine_145 : decode cX13_plainLine 145 = .ok (.aload_n 0, 1) := by decide +kernel
theorem dX13_plainLine_146 : decode cX13_plainLine 146 = .ok (.getfield 91, 3) := by decide +kernel
theorem dX13_plainLine_149 : decode cX13_plainLine 149 = .ok (.aload_n 0, 1) := by decide +kernel
theorem dX13_plainLine_150 : decode cX13_plainLine 150 = .ok (.getfield 217, 3) := by decide +kernel
theorem dX13_plainLine_153 : decode cX13_plainLine 153 = .ok (.iconst 1, 1) := by decide +kernel
theorem dX13_plainLine_154 : decode cX13_plainLine 154 = .ok (.isub, 1) := by decide +kernel
theorem dX13_plainLine_155 : decode cX13_plainLine 155 = .ok (.aload_n 0, 1) := by decide +kernel
theorem dX13_plainLine_156 : decode cX13_plainLine 156 = .ok (.getfield 286, 3) := by decide +kernel
theorem dX13_plainLine_159 : decode cX13_plainLine 159 = .ok (.iastore, 1) := by decide +kernel
theorem dX13_plainLine_160 : decode cX13_plainLine 160 = .ok (.aload_n 0, 1) := by decide +kernel
theorem dX13_plainLine_161 : decode cX13_plainLine 161 = .ok (.getfield 94, 3) := by decide +kernel
theorem dX13_plainLine_164 : decode cX13_plainLine 164 = .ok (.aload_n 0, 1) := by decide +kernel
theorem dX13_plainLine_165 : decode cX13_plainLine 165 = .ok (.getfield 217, 3) := by decide +kernel
theorem dX13_plainLine_168 : decode cX13_plainLine 168 = .ok (.iconst 1, 1) := by decide +kernel
theorem dX13_plainLine_169 : decode cX13_plainLine 169 = .ok (.isub, 1) := by decide +kernel
theorem dX13_plainLine_170 : decode cX13_plainLine 170 = .ok (.aload_n 0, 1) := by decide +kernel
theorem dX13_plainLine_171 : decode cX13_plainLine 171 = .ok (.getfield 289, 3) := by decide +kernel
theorem dX13_plainLine_174 : decode cX13_plainLine 174 = .ok (.iastore, 1) := by decide +kernel
theorem dX13_plainLine_175 : decode cX13_plainLine 175 = .ok (.aload_n 0, 1) := by decide +kernel
theorem dX13_plainLine_176 : decode cX13_plainLine 176 = .ok (.getfield 103, 3) := by decide +kernel
theorem dX13_plainLine_179 : decode cX13_plainLine 179 = .ok (.aload_n 0, 1) := by decide +kernel
theorem dX13_plainLine_180 : decode cX13_plainLine 180 = .ok (.getfield 217, 3) := by decide +kernel
theorem dX13_plainLine_183 : decode cX13_plainLine 183 = .ok (.iconst 1, 1) := by decide +kernel
theorem dX13_plainLine_184 : decode cX13_plainLine 184 = .ok (.isub, 1) := by decide +kernel
theorem dX13_plainLine_185 : decode cX13_plainLine 185 = .ok (.iload_n 1, 1) := by decide +kernel
theorem dX13_plainLine_186 : decode cX13_plainLine 186 = .ok (.bipush 9, 2) := by decide +kernel
theorem dX13_plainLine_188 : decode cX13_plainLine 188 = .ok (.if_icmp .ne 8, 3) := by decide +kernel
theorem dX13_plainLine_191 : decode cX13_plainLine 191 = .ok (.iload 4, 2) := by decide +kernel
theorem dX13_plainLine_193 : decode cX13_plainLine 193 = .ok (.goto 4, 3) := by decide +kernel
theorem dX13_plainLine_196 : decode cX13_plainLine 196 = .ok (.iconst 0, 1) := by decide +kernel
theorem dX13_plainLine_197 : decode cX13_plainLine 197 = .ok (.iastore, 1) := by decide +kernel
theorem dX13_plainLine_198 : decode cX13_plainLine 198 = .ok (.iload_n 1, 1) := by decide +kernel
theorem dX13_plainLine_199 : decode cX13_plainLine 199 = .ok (.bipush 9, 2) := by decide +kernel
theorem dX13_plainLine_201 : decode cX13_plainLine 201 = .ok (.if_icmp .eq 13, 3) := by decide +kernel
theorem dX13_plainLine_204 : decode cX13_plainLine 204 = .ok (.aload_n 0, 1) := by decide +kernel
theorem dX13_plainLine_205 : decode cX13_plainLine 205 = .ok (.aload_n 0, 1) := by decide +kernel
theorem dX13_plainLine_206 : decode cX13_plainLine 206 = .ok (.getfield 217, 3) := by decide +kernel
theorem dX13_plainLine_209 : decode cX13_plainLine 209 = .ok (.iconst 1, 1) := by decide +kernel
theorem dX13_plainLine_210 : decode cX13_plainLine 210 = .ok (.isub, 1) := by decide +kernel
theorem dX13_plainLine_211 : decode cX13_plainLine 211 = .ok (.invokevirtual 332, 3) := by decide +kernel
theorem dX13_plainLine_214 : decode cX13_plainLine 214 = .ok (.return_, 1) := by decide +kernel

