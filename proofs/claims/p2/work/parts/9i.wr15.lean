set_option maxRecDepth 20000 in
theorem w_5_229 : (Jvm.Cond.fieldLink "AssembleLinesModel" (347 : Nat) "AssembleLinesModel" "bodies" "I") ∈ b_Ws := bw_5 (List.mem_of_getElem? (i := 229) rfl) rfl
set_option maxRecDepth 20000 in
theorem w_6_44 : (Jvm.Cond.fieldLink "AssembleLinesModel" (350 : Nat) "AssembleLinesModel" "isOpen" "Z") ∈ b_Ws := bw_6 (List.mem_of_getElem? (i := 44) rfl) rfl
set_option maxRecDepth 20000 in
theorem w_6_45 : (Jvm.Cond.fieldLink "AssembleLinesModel" (344 : Nat) "AssembleLinesModel" "isPassing" "Z") ∈ b_Ws := bw_6 (List.mem_of_getElem? (i := 45) rfl) rfl
set_option maxRecDepth 20000 in
theorem w_6_46 : (Jvm.Cond.fieldLink "AssembleLinesModel" (353 : Nat) "AssembleLinesModel" "openLine" "I") ∈ b_Ws := bw_6 (List.mem_of_getElem? (i := 46) rfl) rfl
set_option maxRecDepth 20000 in
theorem w_7_70 : (Jvm.Cond.methodLink "AssembleLinesModel" (341 : Nat) ({ cls := "AssembleLinesModel", name := "isPlainName", desc := "(J)Z" } : Jvm.MethodName)) ∈ b_Ws := bw_7 (List.mem_of_getElem? (i := 70) rfl) rfl
set_option maxRecDepth 20000 in
theorem w_7_72 : (Jvm.Cond.instanceMethod ({ cls := "AssembleLinesModel", name := "isPlainName", desc := "(J)Z" } : Jvm.MethodName)) ∈ b_Ws := bw_7 (List.mem_of_getElem? (i := 72) rfl) rfl
set_option maxRecDepth 20000 in
theorem w_7_73 : (Jvm.Cond.code ({ cls := "AssembleLinesModel", name := "isPlainName", desc := "(J)Z" } : Jvm.MethodName) prog_15_method_37_code (5 : Nat) (Option.some Jvm.ClassFile.FieldType.boolean)) ∈ b_Ws := bw_7 (List.mem_of_getElem? (i := 73) rfl) rfl
theorem dX13_macroLine_0 : decode cX13_macroLine 0 = .ok (.aload_n 0, 1) := by decide +kernel
theorem dX13_macroLine_1 : decode cX13_macroLine 1 = .ok (.invokevirtual 232, 3) := by decide +kernel
theorem dX13_macroLine_4 : decode cX13_macroLine 4 = .ok (.aload_n 0, 1) := by decide +kernel
theorem dX13_macroLine_5 : decode cX13_macroLine 5 = .ok (.invokevirtual 195, 3) := by decide +kernel
theorem dX13_macroLine_8 : decode cX13_macroLine 8 = .ok (.invokestatic 183, 3) := by decide +kernel
theorem dX13_macroLine_11 : decode cX13_macroLine 11 = .ok (.ifCond .eq 10, 3) := by decide +kernel
theorem dX13_macroLine_14 : decode cX13_macroLine 14 = .ok (.aload_n 0, 1) := by decide +kernel
theorem dX13_macroLine_15 : decode cX13_macroLine 15 = .ok (.invokevirtual 235, 3) := by decide +kernel
theorem dX13_macroLine_18 : decode cX13_macroLine 18 = .ok (.goto 4, 3) := by decide +kernel
theorem dX13_macroLine_21 : decode cX13_macroLine 21 = .ok (.lconst 0, 1) := by decide +kernel
theorem dX13_macroLine_22 : decode cX13_macroLine 22 = .ok (.lstore_n 2, 1) := by decide +kernel
theorem dX13_macroLine_23 : decode cX13_macroLine 23 = .ok (.aload_n 0, 1) := by decide +kernel
theorem dX13_macroLine_24 : decode cX13_macroLine 24 = .ok (.invokevirtual 306, 3) := by decide +kernel
theorem dX13_macroLine_27 : decode cX13_macroLine 27 = .ok (.aload_n 0, 1) := by decide +kernel
theorem dX13_macroLine_28 : decode cX13_macroLine 28 = .ok (.aload_n 0, 1) := by decide +kernel
theorem dX13_macroLine_29 : decode cX13_macroLine 29 = .ok (.getfield 207, 3) := by decide +kernel
theorem dX13_macroLine_32 : decode cX13_macroLine 32 = .ok (.ifCond .ne 20, 3) := by decide +kernel
theorem dX13_macroLine_35 : decode cX13_macroLine 35 = .ok (.lload_n 2, 1) := by decide +kernel
theorem dX13_macroLine_36 : decode cX13_macroLine 36 = .ok (.lconst 0, 1) := by decide +kernel
theorem dX13_macroLine_37 : decode cX13_macroLine 37 = .ok (.lcmp, 1) := by decide +kernel
theorem dX13_macroLine_38 : decode cX13_macroLine 38 = .ok (.ifCond .eq 14, 3) := by decide +kernel
theorem dX13_macroLine_41 : decode cX13_macroLine 41 = .ok (.iload_n 1, 1) := by decide +kernel
theorem dX13_macroLine_42 : decode cX13_macroLine 42 = .ok (.ifCond .ne 10, 3) := by decide +kernel
theorem dX13_macroLine_45 : decode cX13_macroLine 45 = .ok (.aload_n 0, 1) := by decide +kernel
theorem dX13_macroLine_46 : decode cX13_macroLine 46 = .ok (.getfield 335, 3) := by decide +kernel
theorem dX13_macroLine_49 : decode cX13_macroLine 49 = .ok (.ifCond .le 7, 3) := by decide +kernel
theorem dX13_macroLine_52 : decode cX13_macroLine 52 = .ok (.iconst 1, 1) := by decide +kernel
theorem dX13_macroLine_53 : decode cX13_macroLine 53 = .ok (.goto 4, 3) := by decide +kernel
theorem dX13_macroLine_56 : decode cX13_macroLine 56 = .ok (.iconst 0, 1) := by decide +kernel
theorem dX13_macroLine_57 : decode cX13_macroLine 57 = .ok (.putfield 207, 3) := by decide +kernel
theorem dX13_macroLine_60 : decode cX13_macroLine 60 = .ok (.aload_n 0, 1) := by decide +kernel
theorem dX13_macroLine_61 : decode cX13_macroLine 61 = .ok (.getfield 207, 3) := by decide +kernel
theorem dX13_macroLine_64 : decode cX13_macroLine 64 = .ok (.ifCond .eq 7, 3) := by decide +kernel
theorem dX13_macroLine_67 : decode cX13_macroLine 67 = .ok (.iconst 1, 1) := by decide +kernel
theorem dX13_macroLine_68 : decode cX13_macroLine 68 = .ok (.goto 38, 3) := by decide +kernel
theorem dX13_macroLine_71 : decode cX13_macroLine 71 = .ok (.aload_n 0, 1) := by decide +kernel
theorem dX13_macroLine_72 : decode cX13_macroLine 72 = .ok (.lload_n 2, 1) := by decide +kernel
theorem dX13_macroLine_73 : decode cX13_macroLine 73 = .ok (.invokevirtual 338, 3) := by decide +kernel
theorem dX13_macroLine_76 : decode cX13_macroLine 76 = .ok (.ifCond .ge 11, 3) := by decide +kernel
theorem dX13_macroLine_79 : decode cX13_macroLine 79 = .ok (.aload_n 0, 1) := by decide +kernel
theorem dX13_macroLine_80 : decode cX13_macroLine 80 = .ok (.lload_n 2, 1) := by decide +kernel
theorem dX13_macroLine_81 : decode cX13_macroLine 81 = .ok (.invokevirtual 341, 3) := by decide +kernel
theorem dX13_macroLine_84 : decode cX13_macroLine 84 = .ok (.ifCond .eq 7, 3) := by decide +kernel
theorem dX13_macroLine_87 : decode cX13_macroLine 87 = .ok (.iconst 3, 1) := by decide +kernel
theorem dX13_macroLine_88 : decode cX13_macroLine 88 = .ok (.goto 18, 3) := by decide +kernel
theorem dX13_macroLine_91 : decode cX13_macroLine 91 = .ok (.aload_n 0, 1) := by decide +kernel
theorem dX13_macroLine_92 : decode cX13_macroLine 92 = .ok (.getfield 214, 3) := by decide +kernel
theorem dX13_macroLine_95 : decode cX13_macroLine 95 = .ok (.bipush 12, 2) := by decide +kernel
theorem dX13_macroLine_97 : decode cX13_macroLine 97 = .ok (.if_icmp .ne 8, 3) := by decide +kernel
theorem dX13_macroLine_100 : decode cX13_macroLine 100 = .ok (.bipush 6, 2) := by decide +kernel
theorem dX13_macroLine_102 : decode cX13_macroLine 102 = .ok (.goto 4, 3) := by decide +kernel
theorem dX13_macroLine_105 : decode cX13_macroLine 105 = .ok (.iconst 0, 1) := by decide +kernel
theorem dX13_macroLine_106 : decode cX13_macroLine 106 = .ok (.istore 4, 2) := by decide +kernel
theorem dX13_macroLine_108 : decode cX13_macroLine 108 = .ok (.iload 4, 2) := by decide +kernel
theorem dX13_macroLine_110 : decode cX13_macroLine 110 = .ok (.ifCond .le 30, 3) := by decide +kernel
theorem dX13_macroLine_113 : decode cX13_macroLine 113 = .ok (.aload_n 0, 1) := by decide +kernel
theorem dX13_macroLine_114 : decode cX13_macroLine 114 = .ok (.iload 4, 2) := by decide +kernel
theorem dX13_macroLine_116 : decode cX13_macroLine 116 = .ok (.aload_n 0, 1) := by decide +kernel
theorem dX13_macroLine_117 : decode cX13_macroLine 117 = .ok (.getfield 268, 3) := by decide +kernel
theorem dX13_macroLine_120 : decode cX13_macroLine 120 = .ok (.invokevirtual 312, 3) := by decide +kernel
theorem dX13_macroLine_123 : decode cX13_macroLine 123 = .ok (.aload_n 0, 1) := by decide +kernel
theorem dX13_macroLine_124 : decode cX13_macroLine 124 = .ok (.aload_n 0, 1) := by decide +kernel
theorem dX13_macroLine_125 : decode cX13_macroLine 125 = .ok (.getfield 335, 3) := by decide +kernel
theorem dX13_macroLine_128 : decode cX13_macroLine 128 = .ok (.ifCond .ne 7, 3) := by decide +kernel
theorem dX13_macroLine_131 : decode cX13_macroLine 131 = .ok (.iconst 1, 1) := by decide +kernel
theorem dX13_macroLine_132 : decode cX13_macroLine 132 = .ok (.goto 4, 3) := by decide +kernel
theorem dX13_macroLine_135 : decode cX13_macroLine 135 = .ok (.iconst 0, 1) := by decide +kernel
theorem dX13_macroLine_136 : decode cX13_macroLine 136 = .ok (.putfield 344, 3) := by decide +kernel
theorem dX13_macroLine_139 : decode cX13_macroLine 139 = .ok (.return_, 1) := by decide +kernel
theorem dX13_macroLine_140 : decode cX13_macroLine 140 = .ok (.aload_n 0, 1) := by decide +kernel
theorem dX13_macroLine_141 : decode cX13_macroLine 141 = .ok (.getfield 52, 3) := by decide +kernel
theorem dX13_macroLine_144 : decode cX13_macroLine 144 = .ok (.aload_n 0, 1) := by decide +kernel
theorem dX13_macroLine_145 : decode cX13_macroLine 145 = .ok (.getfield 214, 3) := by decide +kernel
theorem dX13_macroLine_148 : decode cX13_macroLine 148 = .ok (.lload_n 2, 1) := by decide +kernel
theorem dX13_macroLine_149 : decode cX13_macroLine 149 = .ok (.lastore, 1) := by decide +kernel
theorem dX13_macroLine_150 : decode cX13_macroLine 150 = .ok (.aload_n 0, 1) := by decide +kernel
theorem dX13_macroLine_151 : decode cX13_macroLine 151 = .ok (.getfield 55, 3) := by decide +kernel
theorem dX13_macroLine_154 : decode cX13_macroLine 154 = .ok (.aload_n 0, 1) := by decide +kernel
theorem dX13_macroLine_155 : decode cX13_macroLine 155 = .ok (.getfield 214, 3) := by decide +kernel
theorem dX13_macroLine_158 : decode cX13_macroLine 158 = .ok (.aload_n 0, 1) := by decide +kernel
theorem dX13_macroLine_159 : decode cX13_macroLine 159 = .ok (.getfield 347, 3) := by decide +kernel
theorem dX13_macroLine_162 : decode cX13_macroLine 162 = .ok (.iastore, 1) := by decide +kernel
theorem dX13_macroLine_163 : decode cX13_macroLine 163 = .ok (.aload_n 0, 1) := by decide +kernel
theorem dX13_macroLine_164 : decode cX13_macroLine 164 = .ok (.getfield 58, 3) := by decide +kernel
theorem dX13_macroLine_167 : decode cX13_macroLine 167 = .ok (.aload_n 0, 1) := by decide +kernel
theorem dX13_macroLine_168 : decode cX13_macroLine 168 = .ok (.getfield 214, 3) := by decide +kernel
theorem dX13_macroLine_171 : decode cX13_macroLine 171 = .ok (.iconst 0, 1) := by decide +kernel
theorem dX13_macroLine_172 : decode cX13_macroLine 172 = .ok (.iastore, 1) := by decide +kernel
theorem dX13_macroLine_173 : decode cX13_macroLine 173 = .ok (.aload_n 0, 1) := by decide +kernel
theorem dX13_macroLine_174 : decode cX13_macroLine 174 = .ok (.dup, 1) := by decide +kernel
theorem dX13_macroLine_175 : decode cX13_macroLine 175 = .ok (.getfield 214, 3) := by decide +kernel
theorem dX13_macroLine_178 : decode cX13_macroLine 178 = .ok (.iconst 1, 1) := by decide +kernel
theorem dX13_macroLine_179 : decode cX13_macroLine 179 = .ok (.iadd, 1) := by decide +kernel
theorem dX13_macroLine_180 : decode cX13_macroLine 180 = .ok (.putfield 214, 3) := by decide +kernel
theorem dX13_macroLine_183 : decode cX13_macroLine 183 = .ok (.aload_n 0, 1) := by decide +kernel
theorem dX13_macroLine_184 : decode cX13_macroLine 184 = .ok (.iconst 1, 1) := by decide +kernel
theorem dX13_macroLine_185 : decode cX13_macroLine 185 = .ok (.putfield 350, 3) := by decide +kernel
theorem dX13_macroLine_188 : decode cX13_macroLine 188 = .ok (.aload_n 0, 1) := by decide +kernel
theorem dX13_macroLine_189 : decode cX13_macroLine 189 = .ok (.aload_n 0, 1) := by decide +kernel
theorem dX13_macroLine_190 : decode cX13_macroLine 190 = .ok (.getfield 268, 3) := by decide +kernel
theorem dX13_macroLine_193 : decode cX13_macroLine 193 = .ok (.putfield 353, 3) := by decide +kernel
theorem dX13_macroLine_196 : decode cX13_macroLine 196 = .ok (.return_, 1) := by decide +kernel

