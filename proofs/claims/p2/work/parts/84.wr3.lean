set_option maxRecDepth 20000 in
theorem w_6_38 : (Jvm.Cond.fieldLink "AssembleLinesModel" (259 : Nat) "AssembleLinesModel" "isUnknown" "Z") ∈ b_Ws := bw_6 (List.mem_of_getElem? (i := 38) rfl) rfl
set_option maxRecDepth 20000 in
theorem w_6_39 : (Jvm.Cond.fieldLink "AssembleLinesModel" (256 : Nat) "AssembleLinesModel" "isWithout" "Z") ∈ b_Ws := bw_6 (List.mem_of_getElem? (i := 39) rfl) rfl
set_option maxRecDepth 20000 in
theorem w_6_40 : (Jvm.Cond.fieldLink "AssembleLinesModel" (265 : Nat) "AssembleLinesModel" "here" "I") ∈ b_Ws := bw_6 (List.mem_of_getElem? (i := 40) rfl) rfl
set_option maxRecDepth 20000 in
theorem w_7_86 : (Jvm.Cond.methodLink "AssembleLinesModel" (226 : Nat) ({ cls := "AssembleLinesModel", name := "findLabel", desc := "(J)I" } : Jvm.MethodName)) ∈ b_Ws := bw_7 (List.mem_of_getElem? (i := 86) rfl) rfl
set_option maxRecDepth 20000 in
theorem w_7_88 : (Jvm.Cond.instanceMethod ({ cls := "AssembleLinesModel", name := "findLabel", desc := "(J)I" } : Jvm.MethodName)) ∈ b_Ws := bw_7 (List.mem_of_getElem? (i := 88) rfl) rfl
set_option maxRecDepth 20000 in
theorem w_7_89 : (Jvm.Cond.code ({ cls := "AssembleLinesModel", name := "findLabel", desc := "(J)I" } : Jvm.MethodName) prog_15_method_18_code (4 : Nat) (Option.some Jvm.ClassFile.FieldType.int)) ∈ b_Ws := bw_7 (List.mem_of_getElem? (i := 89) rfl) rfl
set_option maxRecDepth 20000 in
theorem w_7_90 : (Jvm.Cond.methodLink "AssembleLinesModel" (229 : Nat) ({ cls := "AssembleLinesModel", name := "findSet", desc := "(J)I" } : Jvm.MethodName)) ∈ b_Ws := bw_7 (List.mem_of_getElem? (i := 90) rfl) rfl
set_option maxRecDepth 20000 in
theorem w_7_92 : (Jvm.Cond.instanceMethod ({ cls := "AssembleLinesModel", name := "findSet", desc := "(J)I" } : Jvm.MethodName)) ∈ b_Ws := bw_7 (List.mem_of_getElem? (i := 92) rfl) rfl
set_option maxRecDepth 20000 in
theorem w_7_93 : (Jvm.Cond.code ({ cls := "AssembleLinesModel", name := "findSet", desc := "(J)I" } : Jvm.MethodName) prog_15_method_20_code (4 : Nat) (Option.some Jvm.ClassFile.FieldType.int)) ∈ b_Ws := bw_7 (List.mem_of_getElem? (i := 93) rfl) rfl
set_option maxRecDepth 20000 in
theorem w_7_94 : (Jvm.Cond.methodLink "AssembleLinesModel" (222 : Nat) ({ cls := "AssembleLinesModel", name := "chainOf", desc := "(J)I" } : Jvm.MethodName)) ∈ b_Ws := bw_7 (List.mem_of_getElem? (i := 94) rfl) rfl
set_option maxRecDepth 20000 in
theorem w_7_95 : (Jvm.Cond.static ({ cls := "AssembleLinesModel", name := "chainOf", desc := "(J)I" } : Jvm.MethodName)) ∈ b_Ws := bw_7 (List.mem_of_getElem? (i := 95) rfl) rfl
set_option maxRecDepth 20000 in
theorem w_7_96 : (Jvm.Cond.code ({ cls := "AssembleLinesModel", name := "chainOf", desc := "(J)I" } : Jvm.MethodName) prog_15_method_19_code (2 : Nat) (Option.some Jvm.ClassFile.FieldType.int)) ∈ b_Ws := bw_7 (List.mem_of_getElem? (i := 96) rfl) rfl
set_option maxRecDepth 20000 in
theorem w_7_138 : (Jvm.Cond.methodLink "AssembleLinesModel" (262 : Nat) ({ cls := "AssembleLinesModel", name := "valueOfName", desc := "(J)I" } : Jvm.MethodName)) ∈ b_Ws := bw_7 (List.mem_of_getElem? (i := 138) rfl) rfl
set_option maxRecDepth 20000 in
theorem w_7_140 : (Jvm.Cond.instanceMethod ({ cls := "AssembleLinesModel", name := "valueOfName", desc := "(J)I" } : Jvm.MethodName)) ∈ b_Ws := bw_7 (List.mem_of_getElem? (i := 140) rfl) rfl
set_option maxRecDepth 20000 in
theorem w_7_141 : (Jvm.Cond.code ({ cls := "AssembleLinesModel", name := "valueOfName", desc := "(J)I" } : Jvm.MethodName) prog_15_method_29_code (5 : Nat) (Option.some Jvm.ClassFile.FieldType.int)) ∈ b_Ws := bw_7 (List.mem_of_getElem? (i := 141) rfl) rfl
theorem dX13_findSet_0 : decode cX13_findSet 0 = .ok (.aload_n 0, 1) := by decide +kernel
theorem dX13_findSet_1 : decode cX13_findSet 1 = .ok (.getfield 141, 3) := by decide +kernel
theorem dX13_findSet_4 : decode cX13_findSet 4 = .ok (.lload_n 1, 1) := by decide +kernel
theorem dX13_findSet_5 : decode cX13_findSet 5 = .ok (.invokestatic 222, 3) := by decide +kernel
theorem dX13_findSet_8 : decode cX13_findSet 8 = .ok (.iaload, 1) := by decide +kernel
theorem dX13_findSet_9 : decode cX13_findSet 9 = .ok (.istore_n 3, 1) := by decide +kernel
theorem dX13_findSet_10 : decode cX13_findSet 10 = .ok (.iload_n 3, 1) := by decide +kernel
theorem dX13_findSet_11 : decode cX13_findSet 11 = .ok (.ifCond .lt 24, 3) := by decide +kernel
theorem dX13_findSet_14 : decode cX13_findSet 14 = .ok (.aload_n 0, 1) := by decide +kernel
theorem dX13_findSet_15 : decode cX13_findSet 15 = .ok (.getfield 132, 3) := by decide +kernel
theorem dX13_findSet_18 : decode cX13_findSet 18 = .ok (.iload_n 3, 1) := by decide +kernel
theorem dX13_findSet_19 : decode cX13_findSet 19 = .ok (.laload, 1) := by decide +kernel
theorem dX13_findSet_20 : decode cX13_findSet 20 = .ok (.lload_n 1, 1) := by decide +kernel
theorem dX13_findSet_21 : decode cX13_findSet 21 = .ok (.lcmp, 1) := by decide +kernel
theorem dX13_findSet_22 : decode cX13_findSet 22 = .ok (.ifCond .eq 13, 3) := by decide +kernel
theorem dX13_findSet_25 : decode cX13_findSet 25 = .ok (.aload_n 0, 1) := by decide +kernel
theorem dX13_findSet_26 : decode cX13_findSet 26 = .ok (.getfield 138, 3) := by decide +kernel
theorem dX13_findSet_29 : decode cX13_findSet 29 = .ok (.iload_n 3, 1) := by decide +kernel
theorem dX13_findSet_30 : decode cX13_findSet 30 = .ok (.iaload, 1) := by decide +kernel
theorem dX13_findSet_31 : decode cX13_findSet 31 = .ok (.istore_n 3, 1) := by decide +kernel
theorem dX13_findSet_32 : decode cX13_findSet 32 = .ok (.goto (-22), 3) := by decide +kernel
theorem dX13_findSet_35 : decode cX13_findSet 35 = .ok (.iload_n 3, 1) := by decide +kernel
theorem dX13_findSet_36 : decode cX13_findSet 36 = .ok (.ireturn, 1) := by decide +kernel
theorem dX13_isThere_0 : decode cX13_isThere 0 = .ok (.aload_n 0, 1) := by decide +kernel
theorem dX13_isThere_1 : decode cX13_isThere 1 = .ok (.lload_n 1, 1) := by decide +kernel
theorem dX13_isThere_2 : decode cX13_isThere 2 = .ok (.invokevirtual 226, 3) := by decide +kernel
theorem dX13_isThere_5 : decode cX13_isThere 5 = .ok (.ifCond .ge 11, 3) := by decide +kernel
theorem dX13_isThere_8 : decode cX13_isThere 8 = .ok (.aload_n 0, 1) := by decide +kernel
theorem dX13_isThere_9 : decode cX13_isThere 9 = .ok (.lload_n 1, 1) := by decide +kernel
theorem dX13_isThere_10 : decode cX13_isThere 10 = .ok (.invokevirtual 229, 3) := by decide +kernel
theorem dX13_isThere_13 : decode cX13_isThere 13 = .ok (.ifCond .lt 7, 3) := by decide +kernel
theorem dX13_isThere_16 : decode cX13_isThere 16 = .ok (.iconst 1, 1) := by decide +kernel
theorem dX13_isThere_17 : decode cX13_isThere 17 = .ok (.goto 4, 3) := by decide +kernel
theorem dX13_isThere_20 : decode cX13_isThere 20 = .ok (.iconst 0, 1) := by decide +kernel
theorem dX13_isThere_21 : decode cX13_isThere 21 = .ok (.ireturn, 1) := by decide +kernel
theorem dX13_valueOfName_0 : decode cX13_valueOfName 0 = .ok (.aload_n 0, 1) := by decide +kernel
theorem dX13_valueOfName_1 : decode cX13_valueOfName 1 = .ok (.lload_n 1, 1) := by decide +kernel
theorem dX13_valueOfName_2 : decode cX13_valueOfName 2 = .ok (.invokevirtual 229, 3) := by decide +kernel
theorem dX13_valueOfName_5 : decode cX13_valueOfName 5 = .ok (.istore_n 3, 1) := by decide +kernel
theorem dX13_valueOfName_6 : decode cX13_valueOfName 6 = .ok (.iload_n 3, 1) := by decide +kernel
theorem dX13_valueOfName_7 : decode cX13_valueOfName 7 = .ok (.ifCond .lt 10, 3) := by decide +kernel
theorem dX13_valueOfName_10 : decode cX13_valueOfName 10 = .ok (.aload_n 0, 1) := by decide +kernel
theorem dX13_valueOfName_11 : decode cX13_valueOfName 11 = .ok (.getfield 135, 3) := by decide +kernel
theorem dX13_valueOfName_14 : decode cX13_valueOfName 14 = .ok (.iload_n 3, 1) := by decide +kernel
theorem dX13_valueOfName_15 : decode cX13_valueOfName 15 = .ok (.iaload, 1) := by decide +kernel
theorem dX13_valueOfName_16 : decode cX13_valueOfName 16 = .ok (.ireturn, 1) := by decide +kernel
theorem dX13_valueOfName_17 : decode cX13_valueOfName 17 = .ok (.aload_n 0, 1) := by decide +kernel
theorem dX13_valueOfName_18 : decode cX13_valueOfName 18 = .ok (.getfield 256, 3) := by decide +kernel
theorem dX13_valueOfName_21 : decode cX13_valueOfName 21 = .ok (.ifCond .eq 7, 3) := by decide +kernel
theorem dX13_valueOfName_24 : decode cX13_valueOfName 24 = .ok (.iconst (-1), 1) := by decide +kernel
theorem dX13_valueOfName_25 : decode cX13_valueOfName 25 = .ok (.goto 8, 3) := by decide +kernel
theorem dX13_valueOfName_28 : decode cX13_valueOfName 28 = .ok (.aload_n 0, 1) := by decide +kernel
theorem dX13_valueOfName_29 : decode cX13_valueOfName 29 = .ok (.lload_n 1, 1) := by decide +kernel
theorem dX13_valueOfName_30 : decode cX13_valueOfName 30 = .ok (.invokevirtual 226, 3) := by decide +kernel
theorem dX13_valueOfName_33 : decode cX13_valueOfName 33 = .ok (.istore 4, 2) := by decide +kernel
theorem dX13_valueOfName_35 : decode cX13_valueOfName 35 = .ok (.aload_n 0, 1) := by decide +kernel
theorem dX13_valueOfName_36 : decode cX13_valueOfName 36 = .ok (.aload_n 0, 1) := by decide +kernel
theorem dX13_valueOfName_37 : decode cX13_valueOfName 37 = .ok (.getfield 259, 3) := by decide +kernel
theorem dX13_valueOfName_40 : decode cX13_valueOfName 40 = .ok (.ifCond .ne 8, 3) := by decide +kernel
theorem dX13_valueOfName_43 : decode cX13_valueOfName 43 = .ok (.iload 4, 2) := by decide +kernel
theorem dX13_valueOfName_45 : decode cX13_valueOfName 45 = .ok (.ifCond .ge 7, 3) := by decide +kernel
theorem dX13_valueOfName_48 : decode cX13_valueOfName 48 = .ok (.iconst 1, 1) := by decide +kernel
theorem dX13_valueOfName_49 : decode cX13_valueOfName 49 = .ok (.goto 4, 3) := by decide +kernel
theorem dX13_valueOfName_52 : decode cX13_valueOfName 52 = .ok (.iconst 0, 1) := by decide +kernel
theorem dX13_valueOfName_53 : decode cX13_valueOfName 53 = .ok (.putfield 259, 3) := by decide +kernel
theorem dX13_valueOfName_56 : decode cX13_valueOfName 56 = .ok (.iload 4, 2) := by decide +kernel
theorem dX13_valueOfName_58 : decode cX13_valueOfName 58 = .ok (.ifCond .ge 7, 3) := by decide +kernel
theorem dX13_valueOfName_61 : decode cX13_valueOfName 61 = .ok (.iconst 0, 1) := by decide +kernel
theorem dX13_valueOfName_62 : decode cX13_valueOfName 62 = .ok (.goto 10, 3) := by decide +kernel
theorem dX13_valueOfName_65 : decode cX13_valueOfName 65 = .ok (.aload_n 0, 1) := by decide +kernel
theorem dX13_valueOfName_66 : decode cX13_valueOfName 66 = .ok (.getfield 113, 3) := by decide +kernel
theorem dX13_valueOfName_69 : decode cX13_valueOfName 69 = .ok (.iload 4, 2) := by decide +kernel
theorem dX13_valueOfName_71 : decode cX13_valueOfName 71 = .ok (.iaload, 1) := by decide +kernel
theorem dX13_valueOfName_72 : decode cX13_valueOfName 72 = .ok (.ireturn, 1) := by decide +kernel
theorem dX13_valueOf_0 : decode cX13_valueOf 0 = .ok (.iconst 0, 1) := by decide +kernel
theorem dX13_valueOf_1 : decode cX13_valueOf 1 = .ok (.istore 4, 2) := by decide +kernel
theorem dX13_valueOf_3 : decode cX13_valueOf 3 = .ok (.iconst 1, 1) := by decide +kernel
theorem dX13_valueOf_4 : decode cX13_valueOf 4 = .ok (.istore 5, 2) := by decide +kernel
theorem dX13_valueOf_6 : decode cX13_valueOf 6 = .ok (.iload_n 2, 1) := by decide +kernel
theorem dX13_valueOf_7 : decode cX13_valueOf 7 = .ok (.istore 6, 2) := by decide +kernel
theorem dX13_valueOf_9 : decode cX13_valueOf 9 = .ok (.aload_n 0, 1) := by decide +kernel
theorem dX13_valueOf_10 : decode cX13_valueOf 10 = .ok (.iconst 0, 1) := by decide +kernel
theorem dX13_valueOf_11 : decode cX13_valueOf 11 = .ok (.putfield 259, 3) := by decide +kernel
theorem dX13_valueOf_14 : decode cX13_valueOf 14 = .ok (.iload 6, 2) := by decide +kernel
theorem dX13_valueOf_16 : decode cX13_valueOf 16 = .ok (.iload_n 3, 1) := by decide +kernel
theorem dX13_valueOf_17 : decode cX13_valueOf 17 = .ok (.if_icmp .ge 301, 3) := by decide +kernel
theorem dX13_valueOf_20 : decode cX13_valueOf 20 = .ok (.aload_n 1, 1) := by decide +kernel
theorem dX13_valueOf_21 : decode cX13_valueOf 21 = .ok (.iload 6, 2) := by decide +kernel
theorem dX13_valueOf_23 : decode cX13_valueOf 23 = .ok (.iaload, 1) := by decide +kernel
theorem dX13_valueOf_24 : decode cX13_valueOf 24 = .ok (.istore 7, 2) := by decide +kernel
theorem dX13_valueOf_26 : decode cX13_valueOf 26 = .ok (.iload 7, 2) := by decide +kernel
theorem dX13_valueOf_28 : decode cX13_valueOf 28 = .ok (.bipush 43, 2) := by decide +kernel
theorem dX13_valueOf_30 : decode cX13_valueOf 30 = .ok (.if_icmp .eq 10, 3) := by decide +kernel
theorem dX13_valueOf_33 : decode cX13_valueOf 33 = .ok (.iload 7, 2) := by decide +kernel
theorem dX13_valueOf_35 : decode cX13_valueOf 35 = .ok (.bipush 45, 2) := by decide +kernel
theorem dX13_valueOf_37 : decode cX13_valueOf 37 = .ok (.if_icmp .ne 17, 3) := by decide +kernel
theorem dX13_valueOf_40 : decode cX13_valueOf 40 = .ok (.iload 7, 2) := by decide +kernel
theorem dX13_valueOf_42 : decode cX13_valueOf 42 = .ok (.bipush 45, 2) := by decide +kernel
theorem dX13_valueOf_44 : decode cX13_valueOf 44 = .ok (.if_icmp .ne 7, 3) := by decide +kernel
theorem dX13_valueOf_47 : decode cX13_valueOf 47 = .ok (.iconst (-1), 1) := by decide +kernel
theorem dX13_valueOf_48 : decode cX13_valueOf 48 = .ok (.goto 4, 3) := by decide +kernel
theorem dX13_valueOf_51 : decode cX13_valueOf 51 = .ok (.iconst 1, 1) := by decide +kernel
theorem dX13_valueOf_52 : decode cX13_valueOf 52 = .ok (.istore 5, 2) := by decide +kernel
theorem dX13_valueOf_54 : decode cX13_valueOf 54 = .ok (.iload 7, 2) := by decide +kernel
theorem dX13_valueOf_56 : decode cX13_valueOf 56 = .ok (.invokestatic 183, 3) := by decide +kernel
theorem dX13_valueOf_59 : decode cX13_valueOf 59 = .ok (.ifCond .eq 62, 3) := by decide +kernel
theorem dX13_valueOf_62 : decode cX13_valueOf 62 = .ok (.lconst 0, 1) := by decide +kernel
theorem dX13_valueOf_63 : decode cX13_valueOf 63 = .ok (.lstore 8, 2) := by decide +kernel
theorem dX13_valueOf_65 : decode cX13_valueOf 65 = .ok (.iload 6, 2) := by decide +kernel
theorem dX13_valueOf_67 : decode cX13_valueOf 67 = .ok (.iload_n 3, 1) := by decide +kernel
theorem dX13_valueOf_68 : decode cX13_valueOf 68 = .ok (.if_icmp .ge 36, 3) := by decide +kernel
theorem dX13_valueOf_71 : decode cX13_valueOf 71 = .ok (.aload_n 1, 1) := by decide +kernel
theorem dX13_valueOf_72 : decode cX13_valueOf 72 = .ok (.iload 6, 2) := by decide +kernel
theorem dX13_valueOf_74 : decode cX13_valueOf 74 = .ok (.iaload, 1) := by decide +kernel
theorem dX13_valueOf_75 : decode cX13_valueOf 75 = .ok (.invokestatic 199, 3) := by decide +kernel
theorem dX13_valueOf_78 : decode cX13_valueOf 78 = .ok (.ifCond .eq 26, 3) := by decide +kernel
theorem dX13_valueOf_81 : decode cX13_valueOf 81 = .ok (.ldc2_w 202, 3) := by decide +kernel
theorem dX13_valueOf_84 : decode cX13_valueOf 84 = .ok (.lload 8, 2) := by decide +kernel
theorem dX13_valueOf_86 : decode cX13_valueOf 86 = .ok (.lmul, 1) := by decide +kernel
theorem dX13_valueOf_87 : decode cX13_valueOf 87 = .ok (.aload_n 1, 1) := by decide +kernel
theorem dX13_valueOf_88 : decode cX13_valueOf 88 = .ok (.iload 6, 2) := by decide +kernel
theorem dX13_valueOf_90 : decode cX13_valueOf 90 = .ok (.iaload, 1) := by decide +kernel
theorem dX13_valueOf_91 : decode cX13_valueOf 91 = .ok (.invokestatic 204, 3) := by decide +kernel
theorem dX13_valueOf_94 : decode cX13_valueOf 94 = .ok (.i2l, 1) := by decide +kernel
theorem dX13_valueOf_95 : decode cX13_valueOf 95 = .ok (.ladd, 1) := by decide +kernel
theorem dX13_valueOf_96 : decode cX13_valueOf 96 = .ok (.lstore 8, 2) := by decide +kernel
theorem dX13_valueOf_98 : decode cX13_valueOf 98 = .ok (.iinc 6 1, 3) := by decide +kernel
theorem dX13_valueOf_101 : decode cX13_valueOf 101 = .ok (.goto (-36), 3) := by decide +kernel
theorem dX13_valueOf_104 : decode cX13_valueOf 104 = .ok (.iload 4, 2) := by decide +kernel
theorem dX13_valueOf_106 : decode cX13_valueOf 106 = .ok (.iload 5, 2) := by decide +kernel
theorem dX13_valueOf_108 : decode cX13_valueOf 108 = .ok (.aload_n 0, 1) := by decide +kernel
theorem dX13_valueOf_109 : decode cX13_valueOf 109 = .ok (.lload 8, 2) := by decide +kernel
theorem dX13_valueOf_111 : decode cX13_valueOf 111 = .ok (.invokevirtual 262, 3) := by decide +kernel
theorem dX13_valueOf_114 : decode cX13_valueOf 114 = .ok (.imul, 1) := by decide +kernel
theorem dX13_valueOf_115 : decode cX13_valueOf 115 = .ok (.iadd, 1) := by decide +kernel
theorem dX13_valueOf_116 : decode cX13_valueOf 116 = .ok (.istore 4, 2) := by decide +kernel
theorem dX13_valueOf_118 : decode cX13_valueOf 118 = .ok (.goto 197, 3) := by decide +kernel
theorem dX13_valueOf_121 : decode cX13_valueOf 121 = .ok (.iload 7, 2) := by decide +kernel
theorem dX13_valueOf_123 : decode cX13_valueOf 123 = .ok (.invokestatic 186, 3) := by decide +kernel
theorem dX13_valueOf_126 : decode cX13_valueOf 126 = .ok (.ifCond .eq 144, 3) := by decide +kernel
theorem dX13_valueOf_129 : decode cX13_valueOf 129 = .ok (.iload 6, 2) := by decide +kernel
theorem dX13_valueOf_131 : decode cX13_valueOf 131 = .ok (.iconst 1, 1) := by decide +kernel
theorem dX13_valueOf_132 : decode cX13_valueOf 132 = .ok (.iadd, 1) := by decide +kernel
theorem dX13_valueOf_133 : decode cX13_valueOf 133 = .ok (.iload_n 3, 1) := by decide +kernel
theorem dX13_valueOf_134 : decode cX13_valueOf 134 = .ok (.if_icmp .ge 18, 3) := by decide +kernel
theorem dX13_valueOf_137 : decode cX13_valueOf 137 = .ok (.aload_n 1, 1) := by decide +kernel
theorem dX13_valueOf_138 : decode cX13_valueOf 138 = .ok (.iload 6, 2) := by decide +kernel
theorem dX13_valueOf_140 : decode cX13_valueOf 140 = .ok (.iconst 1, 1) := by decide +kernel
theorem dX13_valueOf_141 : decode cX13_valueOf 141 = .ok (.iadd, 1) := by decide +kernel
theorem dX13_valueOf_142 : decode cX13_valueOf 142 = .ok (.iaload, 1) := by decide +kernel
theorem dX13_valueOf_143 : decode cX13_valueOf 143 = .ok (.bipush 120, 2) := by decide +kernel
theorem dX13_valueOf_145 : decode cX13_valueOf 145 = .ok (.if_icmp .ne 7, 3) := by decide +kernel
theorem dX13_valueOf_148 : decode cX13_valueOf 148 = .ok (.iconst 1, 1) := by decide +kernel
theorem dX13_valueOf_149 : decode cX13_valueOf 149 = .ok (.goto 4, 3) := by decide +kernel
theorem dX13_valueOf_152 : decode cX13_valueOf 152 = .ok (.iconst 0, 1) := by decide +kernel
theorem dX13_valueOf_153 : decode cX13_valueOf 153 = .ok (.istore 8, 2) := by decide +kernel
theorem dX13_valueOf_155 : decode cX13_valueOf 155 = .ok (.iconst 0, 1) := by decide +kernel
theorem dX13_valueOf_156 : decode cX13_valueOf 156 = .ok (.istore 9, 2) := by decide +kernel
theorem dX13_valueOf_158 : decode cX13_valueOf 158 = .ok (.iload 8, 2) := by decide +kernel
theorem dX13_valueOf_160 : decode cX13_valueOf 160 = .ok (.ifCond .eq 10, 3) := by decide +kernel
theorem dX13_valueOf_163 : decode cX13_valueOf 163 = .ok (.iload 6, 2) := by decide +kernel
theorem dX13_valueOf_165 : decode cX13_valueOf 165 = .ok (.iconst 2, 1) := by decide +kernel
theorem dX13_valueOf_166 : decode cX13_valueOf 166 = .ok (.iadd, 1) := by decide +kernel
theorem dX13_valueOf_167 : decode cX13_valueOf 167 = .ok (.goto 5, 3) := by decide +kernel
theorem dX13_valueOf_170 : decode cX13_valueOf 170 = .ok (.iload 6, 2) := by decide +kernel
theorem dX13_valueOf_172 : decode cX13_valueOf 172 = .ok (.istore 6, 2) := by decide +kernel
theorem dX13_valueOf_174 : decode cX13_valueOf 174 = .ok (.iload 6, 2) := by decide +kernel
theorem dX13_valueOf_176 : decode cX13_valueOf 176 = .ok (.iload_n 3, 1) := by decide +kernel
theorem dX13_valueOf_177 : decode cX13_valueOf 177 = .ok (.if_icmp .ge 80, 3) := by decide +kernel
theorem dX13_valueOf_180 : decode cX13_valueOf 180 = .ok (.aload_n 1, 1) := by decide +kernel
theorem dX13_valueOf_181 : decode cX13_valueOf 181 = .ok (.iload 6, 2) := by decide +kernel
theorem dX13_valueOf_183 : decode cX13_valueOf 183 = .ok (.iaload, 1) := by decide +kernel
theorem dX13_valueOf_184 : decode cX13_valueOf 184 = .ok (.invokestatic 186, 3) := by decide +kernel
theorem dX13_valueOf_187 : decode cX13_valueOf 187 = .ok (.ifCond .ne 19, 3) := by decide +kernel
theorem dX13_valueOf_190 : decode cX13_valueOf 190 = .ok (.iload 8, 2) := by decide +kernel
theorem dX13_valueOf_192 : decode cX13_valueOf 192 = .ok (.ifCond .eq 65, 3) := by decide +kernel
theorem dX13_valueOf_195 : decode cX13_valueOf 195 = .ok (.aload_n 0, 1) := by decide +kernel
theorem dX13_valueOf_196 : decode cX13_valueOf 196 = .ok (.aload_n 1, 1) := by decide +kernel
theorem dX13_valueOf_197 : decode cX13_valueOf 197 = .ok (.iload 6, 2) := by decide +kernel
theorem dX13_valueOf_199 : decode cX13_valueOf 199 = .ok (.iaload, 1) := by decide +kernel
theorem dX13_valueOf_200 : decode cX13_valueOf 200 = .ok (.invokevirtual 243, 3) := by decide +kernel
theorem dX13_valueOf_203 : decode cX13_valueOf 203 = .ok (.ifCond .eq 54, 3) := by decide +kernel
theorem dX13_valueOf_206 : decode cX13_valueOf 206 = .ok (.iload 8, 2) := by decide +kernel
theorem dX13_valueOf_208 : decode cX13_valueOf 208 = .ok (.ifCond .eq 8, 3) := by decide +kernel
theorem dX13_valueOf_211 : decode cX13_valueOf 211 = .ok (.bipush 16, 2) := by decide +kernel
theorem dX13_valueOf_213 : decode cX13_valueOf 213 = .ok (.goto 5, 3) := by decide +kernel
theorem dX13_valueOf_216 : decode cX13_valueOf 216 = .ok (.bipush 10, 2) := by decide +kernel
theorem dX13_valueOf_218 : decode cX13_valueOf 218 = .ok (.iload 9, 2) := by decide +kernel
theorem dX13_valueOf_220 : decode cX13_valueOf 220 = .ok (.imul, 1) := by decide +kernel
theorem dX13_valueOf_221 : decode cX13_valueOf 221 = .ok (.aload_n 1, 1) := by decide +kernel
theorem dX13_valueOf_222 : decode cX13_valueOf 222 = .ok (.iload 6, 2) := by decide +kernel
theorem dX13_valueOf_224 : decode cX13_valueOf 224 = .ok (.iaload, 1) := by decide +kernel
theorem dX13_valueOf_225 : decode cX13_valueOf 225 = .ok (.invokestatic 186, 3) := by decide +kernel
theorem dX13_valueOf_228 : decode cX13_valueOf 228 = .ok (.ifCond .eq 13, 3) := by decide +kernel
theorem dX13_valueOf_231 : decode cX13_valueOf 231 = .ok (.aload_n 1, 1) := by decide +kernel
theorem dX13_valueOf_232 : decode cX13_valueOf 232 = .ok (.iload 6, 2) := by decide +kernel
theorem dX13_valueOf_234 : decode cX13_valueOf 234 = .ok (.iaload, 1) := by decide +kernel
theorem dX13_valueOf_235 : decode cX13_valueOf 235 = .ok (.bipush 48, 2) := by decide +kernel
theorem dX13_valueOf_237 : decode cX13_valueOf 237 = .ok (.isub, 1) := by decide +kernel
theorem dX13_valueOf_238 : decode cX13_valueOf 238 = .ok (.goto 10, 3) := by decide +kernel
theorem dX13_valueOf_241 : decode cX13_valueOf 241 = .ok (.aload_n 1, 1) := by decide +kernel
theorem dX13_valueOf_242 : decode cX13_valueOf 242 = .ok (.iload 6, 2) := by decide +kernel
theorem dX13_valueOf_244 : decode cX13_valueOf 244 = .ok (.iaload, 1) := by decide +kernel
theorem dX13_valueOf_245 : decode cX13_valueOf 245 = .ok (.bipush 87, 2) := by decide +kernel
theorem dX13_valueOf_247 : decode cX13_valueOf 247 = .ok (.isub, 1) := by decide +kernel
theorem dX13_valueOf_248 : decode cX13_valueOf 248 = .ok (.iadd, 1) := by decide +kernel
theorem dX13_valueOf_249 : decode cX13_valueOf 249 = .ok (.istore 9, 2) := by decide +kernel
theorem dX13_valueOf_251 : decode cX13_valueOf 251 = .ok (.iinc 6 1, 3) := by decide +kernel
theorem dX13_valueOf_254 : decode cX13_valueOf 254 = .ok (.goto (-80), 3) := by decide +kernel
theorem dX13_valueOf_257 : decode cX13_valueOf 257 = .ok (.iload 4, 2) := by decide +kernel
theorem dX13_valueOf_259 : decode cX13_valueOf 259 = .ok (.iload 5, 2) := by decide +kernel
theorem dX13_valueOf_261 : decode cX13_valueOf 261 = .ok (.iload 9, 2) := by decide +kernel
theorem dX13_valueOf_263 : decode cX13_valueOf 263 = .ok (.imul, 1) := by decide +kernel
theorem dX13_valueOf_264 : decode cX13_valueOf 264 = .ok (.iadd, 1) := by decide +kernel
theorem dX13_valueOf_265 : decode cX13_valueOf 265 = .ok (.istore 4, 2) := by decide +kernel
theorem dX13_valueOf_267 : decode cX13_valueOf 267 = .ok (.goto 48, 3) := by decide +kernel
theorem dX13_valueOf_270 : decode cX13_valueOf 270 = .ok (.iload 7, 2) := by decide +kernel
theorem dX13_valueOf_272 : decode cX13_valueOf 272 = .ok (.bipush 46, 2) := by decide +kernel
theorem dX13_valueOf_274 : decode cX13_valueOf 274 = .ok (.if_icmp .ne 38, 3) := by decide +kernel
theorem dX13_valueOf_277 : decode cX13_valueOf 277 = .ok (.aload_n 0, 1) := by decide +kernel
theorem dX13_valueOf_278 : decode cX13_valueOf 278 = .ok (.aload_n 0, 1) := by decide +kernel
theorem dX13_valueOf_279 : decode cX13_valueOf 279 = .ok (.getfield 259, 3) := by decide +kernel
theorem dX13_valueOf_282 : decode cX13_valueOf 282 = .ok (.ifCond .ne 10, 3) := by decide +kernel
theorem dX13_valueOf_285 : decode cX13_valueOf 285 = .ok (.aload_n 0, 1) := by decide +kernel
theorem dX13_valueOf_286 : decode cX13_valueOf 286 = .ok (.getfield 256, 3) := by decide +kernel
theorem dX13_valueOf_289 : decode cX13_valueOf 289 = .ok (.ifCond .eq 7, 3) := by decide +kernel
theorem dX13_valueOf_292 : decode cX13_valueOf 292 = .ok (.iconst 1, 1) := by decide +kernel
theorem dX13_valueOf_293 : decode cX13_valueOf 293 = .ok (.goto 4, 3) := by decide +kernel
theorem dX13_valueOf_296 : decode cX13_valueOf 296 = .ok (.iconst 0, 1) := by decide +kernel
theorem dX13_valueOf_297 : decode cX13_valueOf 297 = .ok (.putfield 259, 3) := by decide +kernel
theorem dX13_valueOf_300 : decode cX13_valueOf 300 = .ok (.iload 4, 2) := by decide +kernel
theorem dX13_valueOf_302 : decode cX13_valueOf 302 = .ok (.iload 5, 2) := by decide +kernel
theorem dX13_valueOf_304 : decode cX13_valueOf 304 = .ok (.aload_n 0, 1) := by decide +kernel
theorem dX13_valueOf_305 : decode cX13_valueOf 305 = .ok (.getfield 265, 3) := by decide +kernel
theorem dX13_valueOf_308 : decode cX13_valueOf 308 = .ok (.imul, 1) := by decide +kernel
theorem dX13_valueOf_309 : decode cX13_valueOf 309 = .ok (.iadd, 1) := by decide +kernel
theorem dX13_valueOf_310 : decode cX13_valueOf 310 = .ok (.istore 4, 2) := by decide +kernel
theorem dX13_valueOf_312 : decode cX13_valueOf 312 = .ok (.iinc 6 1, 3) := by decide +kernel
theorem dX13_valueOf_315 : decode cX13_valueOf 315 = .ok (.goto (-301), 3) := by decide +kernel
theorem dX13_valueOf_318 : decode cX13_valueOf 318 = .ok (.iload 4, 2) := by decide +kernel
theorem dX13_valueOf_320 : decode cX13_valueOf 320 = .ok (.ireturn, 1) := by decide +kernel

