set_option maxRecDepth 20000 in
theorem w_6_21 : (Jvm.Cond.fieldLink "AssembleLinesModel" (253 : Nat) "AssembleLinesModel" "found" "I") ∈ b_Ws := bw_6 (List.mem_of_getElem? (i := 21) rfl) rfl
set_option maxRecDepth 20000 in
theorem w_7_37 : (Jvm.Cond.methodLink "AssembleLinesModel" (235 : Nat) ({ cls := "AssembleLinesModel", name := "takeName", desc := "()J" } : Jvm.MethodName)) ∈ b_Ws := bw_7 (List.mem_of_getElem? (i := 37) rfl) rfl
set_option maxRecDepth 20000 in
theorem w_7_39 : (Jvm.Cond.instanceMethod ({ cls := "AssembleLinesModel", name := "takeName", desc := "()J" } : Jvm.MethodName)) ∈ b_Ws := bw_7 (List.mem_of_getElem? (i := 39) rfl) rfl
set_option maxRecDepth 20000 in
theorem w_7_40 : (Jvm.Cond.code ({ cls := "AssembleLinesModel", name := "takeName", desc := "()J" } : Jvm.MethodName) prog_15_method_15_code (4 : Nat) (Option.some Jvm.ClassFile.FieldType.long)) ∈ b_Ws := bw_7 (List.mem_of_getElem? (i := 40) rfl) rfl
set_option maxRecDepth 20000 in
theorem w_7_45 : (Jvm.Cond.methodLink "AssembleLinesModel" (239 : Nat) ({ cls := "AssembleLinesModel", name := "isRegisterName", desc := "(J)Z" } : Jvm.MethodName)) ∈ b_Ws := bw_7 (List.mem_of_getElem? (i := 45) rfl) rfl
set_option maxRecDepth 20000 in
theorem w_7_46 : (Jvm.Cond.static ({ cls := "AssembleLinesModel", name := "isRegisterName", desc := "(J)Z" } : Jvm.MethodName)) ∈ b_Ws := bw_7 (List.mem_of_getElem? (i := 46) rfl) rfl
set_option maxRecDepth 20000 in
theorem w_7_47 : (Jvm.Cond.code ({ cls := "AssembleLinesModel", name := "isRegisterName", desc := "(J)Z" } : Jvm.MethodName) prog_15_method_16_code (2 : Nat) (Option.some Jvm.ClassFile.FieldType.boolean)) ∈ b_Ws := bw_7 (List.mem_of_getElem? (i := 47) rfl) rfl
set_option maxRecDepth 20000 in
theorem w_7_122 : (Jvm.Cond.methodLink "AssembleLinesModel" (246 : Nat) ({ cls := "AssembleLinesModel", name := "isSign", desc := "()Z" } : Jvm.MethodName)) ∈ b_Ws := bw_7 (List.mem_of_getElem? (i := 122) rfl) rfl
set_option maxRecDepth 20000 in
theorem w_7_124 : (Jvm.Cond.instanceMethod ({ cls := "AssembleLinesModel", name := "isSign", desc := "()Z" } : Jvm.MethodName)) ∈ b_Ws := bw_7 (List.mem_of_getElem? (i := 124) rfl) rfl
set_option maxRecDepth 20000 in
theorem w_7_125 : (Jvm.Cond.code ({ cls := "AssembleLinesModel", name := "isSign", desc := "()Z" } : Jvm.MethodName) prog_15_method_26_code (1 : Nat) (Option.some Jvm.ClassFile.FieldType.boolean)) ∈ b_Ws := bw_7 (List.mem_of_getElem? (i := 125) rfl) rfl
set_option maxRecDepth 20000 in
theorem w_7_126 : (Jvm.Cond.methodLink "AssembleLinesModel" (250 : Nat) ({ cls := "AssembleLinesModel", name := "passTerm", desc := "()V" } : Jvm.MethodName)) ∈ b_Ws := bw_7 (List.mem_of_getElem? (i := 126) rfl) rfl
set_option maxRecDepth 20000 in
theorem w_7_128 : (Jvm.Cond.instanceMethod ({ cls := "AssembleLinesModel", name := "passTerm", desc := "()V" } : Jvm.MethodName)) ∈ b_Ws := bw_7 (List.mem_of_getElem? (i := 128) rfl) rfl
set_option maxRecDepth 20000 in
theorem w_7_129 : (Jvm.Cond.code ({ cls := "AssembleLinesModel", name := "passTerm", desc := "()V" } : Jvm.MethodName) prog_15_method_25_code (2 : Nat) (Option.none : Option Jvm.ClassFile.FieldType)) ∈ b_Ws := bw_7 (List.mem_of_getElem? (i := 129) rfl) rfl
set_option maxRecDepth 20000 in
theorem w_7_130 : (Jvm.Cond.methodLink "AssembleLinesModel" (243 : Nat) ({ cls := "AssembleLinesModel", name := "isHex", desc := "(I)Z" } : Jvm.MethodName)) ∈ b_Ws := bw_7 (List.mem_of_getElem? (i := 130) rfl) rfl
set_option maxRecDepth 20000 in
theorem w_7_132 : (Jvm.Cond.instanceMethod ({ cls := "AssembleLinesModel", name := "isHex", desc := "(I)Z" } : Jvm.MethodName)) ∈ b_Ws := bw_7 (List.mem_of_getElem? (i := 132) rfl) rfl
set_option maxRecDepth 20000 in
theorem w_7_133 : (Jvm.Cond.code ({ cls := "AssembleLinesModel", name := "isHex", desc := "(I)Z" } : Jvm.MethodName) prog_15_method_24_code (2 : Nat) (Option.some Jvm.ClassFile.FieldType.boolean)) ∈ b_Ws := bw_7 (List.mem_of_getElem? (i := 133) rfl) rfl
theorem dX13_takeRegister_0 : decode cX13_takeRegister 0 = .ok (.aload_n 0, 1) := by decide +kernel
theorem dX13_takeRegister_1 : decode cX13_takeRegister 1 = .ok (.invokevirtual 195, 3) := by decide +kernel
theorem dX13_takeRegister_4 : decode cX13_takeRegister 4 = .ok (.invokestatic 183, 3) := by decide +kernel
theorem dX13_takeRegister_7 : decode cX13_takeRegister 7 = .ok (.ifCond .ne 10, 3) := by decide +kernel
theorem dX13_takeRegister_10 : decode cX13_takeRegister 10 = .ok (.aload_n 0, 1) := by decide +kernel
theorem dX13_takeRegister_11 : decode cX13_takeRegister 11 = .ok (.iconst 1, 1) := by decide +kernel
theorem dX13_takeRegister_12 : decode cX13_takeRegister 12 = .ok (.putfield 207, 3) := by decide +kernel
theorem dX13_takeRegister_15 : decode cX13_takeRegister 15 = .ok (.iconst 0, 1) := by decide +kernel
theorem dX13_takeRegister_16 : decode cX13_takeRegister 16 = .ok (.ireturn, 1) := by decide +kernel
theorem dX13_takeRegister_17 : decode cX13_takeRegister 17 = .ok (.aload_n 0, 1) := by decide +kernel
theorem dX13_takeRegister_18 : decode cX13_takeRegister 18 = .ok (.invokevirtual 235, 3) := by decide +kernel
theorem dX13_takeRegister_21 : decode cX13_takeRegister 21 = .ok (.lstore_n 1, 1) := by decide +kernel
theorem dX13_takeRegister_22 : decode cX13_takeRegister 22 = .ok (.aload_n 0, 1) := by decide +kernel
theorem dX13_takeRegister_23 : decode cX13_takeRegister 23 = .ok (.aload_n 0, 1) := by decide +kernel
theorem dX13_takeRegister_24 : decode cX13_takeRegister 24 = .ok (.getfield 207, 3) := by decide +kernel
theorem dX13_takeRegister_27 : decode cX13_takeRegister 27 = .ok (.ifCond .ne 10, 3) := by decide +kernel
theorem dX13_takeRegister_30 : decode cX13_takeRegister 30 = .ok (.lload_n 1, 1) := by decide +kernel
theorem dX13_takeRegister_31 : decode cX13_takeRegister 31 = .ok (.invokestatic 239, 3) := by decide +kernel
theorem dX13_takeRegister_34 : decode cX13_takeRegister 34 = .ok (.ifCond .ne 7, 3) := by decide +kernel
theorem dX13_takeRegister_37 : decode cX13_takeRegister 37 = .ok (.iconst 1, 1) := by decide +kernel
theorem dX13_takeRegister_38 : decode cX13_takeRegister 38 = .ok (.goto 4, 3) := by decide +kernel
theorem dX13_takeRegister_41 : decode cX13_takeRegister 41 = .ok (.iconst 0, 1) := by decide +kernel
theorem dX13_takeRegister_42 : decode cX13_takeRegister 42 = .ok (.putfield 207, 3) := by decide +kernel
theorem dX13_takeRegister_45 : decode cX13_takeRegister 45 = .ok (.aload_n 0, 1) := by decide +kernel
theorem dX13_takeRegister_46 : decode cX13_takeRegister 46 = .ok (.getfield 207, 3) := by decide +kernel
theorem dX13_takeRegister_49 : decode cX13_takeRegister 49 = .ok (.ifCond .eq 7, 3) := by decide +kernel
theorem dX13_takeRegister_52 : decode cX13_takeRegister 52 = .ok (.iconst 0, 1) := by decide +kernel
theorem dX13_takeRegister_53 : decode cX13_takeRegister 53 = .ok (.goto 9, 3) := by decide +kernel
theorem dX13_takeRegister_56 : decode cX13_takeRegister 56 = .ok (.lload_n 1, 1) := by decide +kernel
theorem dX13_takeRegister_57 : decode cX13_takeRegister 57 = .ok (.ldc2_w 210, 3) := by decide +kernel
theorem dX13_takeRegister_60 : decode cX13_takeRegister 60 = .ok (.lsub, 1) := by decide +kernel
theorem dX13_takeRegister_61 : decode cX13_takeRegister 61 = .ok (.l2i, 1) := by decide +kernel
theorem dX13_takeRegister_62 : decode cX13_takeRegister 62 = .ok (.ireturn, 1) := by decide +kernel
theorem dX13_isDone_0 : decode cX13_isDone 0 = .ok (.aload_n 0, 1) := by decide +kernel
theorem dX13_isDone_1 : decode cX13_isDone 1 = .ok (.invokevirtual 232, 3) := by decide +kernel
theorem dX13_isDone_4 : decode cX13_isDone 4 = .ok (.aload_n 0, 1) := by decide +kernel
theorem dX13_isDone_5 : decode cX13_isDone 5 = .ok (.aload_n 0, 1) := by decide +kernel
theorem dX13_isDone_6 : decode cX13_isDone 6 = .ok (.getfield 207, 3) := by decide +kernel
theorem dX13_isDone_9 : decode cX13_isDone 9 = .ok (.ifCond .ne 14, 3) := by decide +kernel
theorem dX13_isDone_12 : decode cX13_isDone 12 = .ok (.aload_n 0, 1) := by decide +kernel
theorem dX13_isDone_13 : decode cX13_isDone 13 = .ok (.getfield 189, 3) := by decide +kernel
theorem dX13_isDone_16 : decode cX13_isDone 16 = .ok (.aload_n 0, 1) := by decide +kernel
theorem dX13_isDone_17 : decode cX13_isDone 17 = .ok (.getfield 192, 3) := by decide +kernel
theorem dX13_isDone_20 : decode cX13_isDone 20 = .ok (.if_icmp .ge 7, 3) := by decide +kernel
theorem dX13_isDone_23 : decode cX13_isDone 23 = .ok (.iconst 1, 1) := by decide +kernel
theorem dX13_isDone_24 : decode cX13_isDone 24 = .ok (.goto 4, 3) := by decide +kernel
theorem dX13_isDone_27 : decode cX13_isDone 27 = .ok (.iconst 0, 1) := by decide +kernel
theorem dX13_isDone_28 : decode cX13_isDone 28 = .ok (.putfield 207, 3) := by decide +kernel
theorem dX13_isDone_31 : decode cX13_isDone 31 = .ok (.return_, 1) := by decide +kernel
theorem dX13_passTerm_0 : decode cX13_passTerm 0 = .ok (.aload_n 0, 1) := by decide +kernel
theorem dX13_passTerm_1 : decode cX13_passTerm 1 = .ok (.invokevirtual 195, 3) := by decide +kernel
theorem dX13_passTerm_4 : decode cX13_passTerm 4 = .ok (.invokestatic 183, 3) := by decide +kernel
theorem dX13_passTerm_7 : decode cX13_passTerm 7 = .ok (.ifCond .eq 11, 3) := by decide +kernel
theorem dX13_passTerm_10 : decode cX13_passTerm 10 = .ok (.aload_n 0, 1) := by decide +kernel
theorem dX13_passTerm_11 : decode cX13_passTerm 11 = .ok (.invokevirtual 235, 3) := by decide +kernel
theorem dX13_passTerm_14 : decode cX13_passTerm 14 = .ok (.pop2, 1) := by decide +kernel
theorem dX13_passTerm_15 : decode cX13_passTerm 15 = .ok (.goto 181, 3) := by decide +kernel
theorem dX13_passTerm_18 : decode cX13_passTerm 18 = .ok (.aload_n 0, 1) := by decide +kernel
theorem dX13_passTerm_19 : decode cX13_passTerm 19 = .ok (.invokevirtual 195, 3) := by decide +kernel
theorem dX13_passTerm_22 : decode cX13_passTerm 22 = .ok (.bipush 46, 2) := by decide +kernel
theorem dX13_passTerm_24 : decode cX13_passTerm 24 = .ok (.if_icmp .ne 16, 3) := by decide +kernel
theorem dX13_passTerm_27 : decode cX13_passTerm 27 = .ok (.aload_n 0, 1) := by decide +kernel
theorem dX13_passTerm_28 : decode cX13_passTerm 28 = .ok (.dup, 1) := by decide +kernel
theorem dX13_passTerm_29 : decode cX13_passTerm 29 = .ok (.getfield 189, 3) := by decide +kernel
theorem dX13_passTerm_32 : decode cX13_passTerm 32 = .ok (.iconst 1, 1) := by decide +kernel
theorem dX13_passTerm_33 : decode cX13_passTerm 33 = .ok (.iadd, 1) := by decide +kernel
theorem dX13_passTerm_34 : decode cX13_passTerm 34 = .ok (.putfield 189, 3) := by decide +kernel
theorem dX13_passTerm_37 : decode cX13_passTerm 37 = .ok (.goto 159, 3) := by decide +kernel
theorem dX13_passTerm_40 : decode cX13_passTerm 40 = .ok (.aload_n 0, 1) := by decide +kernel
theorem dX13_passTerm_41 : decode cX13_passTerm 41 = .ok (.invokevirtual 195, 3) := by decide +kernel
theorem dX13_passTerm_44 : decode cX13_passTerm 44 = .ok (.bipush 48, 2) := by decide +kernel
theorem dX13_passTerm_46 : decode cX13_passTerm 46 = .ok (.if_icmp .ne 98, 3) := by decide +kernel
theorem dX13_passTerm_49 : decode cX13_passTerm 49 = .ok (.aload_n 0, 1) := by decide +kernel
theorem dX13_passTerm_50 : decode cX13_passTerm 50 = .ok (.getfield 189, 3) := by decide +kernel
theorem dX13_passTerm_53 : decode cX13_passTerm 53 = .ok (.iconst 2, 1) := by decide +kernel
theorem dX13_passTerm_54 : decode cX13_passTerm 54 = .ok (.iadd, 1) := by decide +kernel
theorem dX13_passTerm_55 : decode cX13_passTerm 55 = .ok (.aload_n 0, 1) := by decide +kernel
theorem dX13_passTerm_56 : decode cX13_passTerm 56 = .ok (.getfield 192, 3) := by decide +kernel
theorem dX13_passTerm_59 : decode cX13_passTerm 59 = .ok (.if_icmp .ge 85, 3) := by decide +kernel
theorem dX13_passTerm_62 : decode cX13_passTerm 62 = .ok (.aload_n 0, 1) := by decide +kernel
theorem dX13_passTerm_63 : decode cX13_passTerm 63 = .ok (.getfield 49, 3) := by decide +kernel
theorem dX13_passTerm_66 : decode cX13_passTerm 66 = .ok (.aload_n 0, 1) := by decide +kernel
theorem dX13_passTerm_67 : decode cX13_passTerm 67 = .ok (.getfield 189, 3) := by decide +kernel
theorem dX13_passTerm_70 : decode cX13_passTerm 70 = .ok (.iconst 1, 1) := by decide +kernel
theorem dX13_passTerm_71 : decode cX13_passTerm 71 = .ok (.iadd, 1) := by decide +kernel
theorem dX13_passTerm_72 : decode cX13_passTerm 72 = .ok (.iaload, 1) := by decide +kernel
theorem dX13_passTerm_73 : decode cX13_passTerm 73 = .ok (.bipush 120, 2) := by decide +kernel
theorem dX13_passTerm_75 : decode cX13_passTerm 75 = .ok (.if_icmp .ne 69, 3) := by decide +kernel
theorem dX13_passTerm_78 : decode cX13_passTerm 78 = .ok (.aload_n 0, 1) := by decide +kernel
theorem dX13_passTerm_79 : decode cX13_passTerm 79 = .ok (.aload_n 0, 1) := by decide +kernel
theorem dX13_passTerm_80 : decode cX13_passTerm 80 = .ok (.getfield 49, 3) := by decide +kernel
theorem dX13_passTerm_83 : decode cX13_passTerm 83 = .ok (.aload_n 0, 1) := by decide +kernel
theorem dX13_passTerm_84 : decode cX13_passTerm 84 = .ok (.getfield 189, 3) := by decide +kernel
theorem dX13_passTerm_87 : decode cX13_passTerm 87 = .ok (.iconst 2, 1) := by decide +kernel
theorem dX13_passTerm_88 : decode cX13_passTerm 88 = .ok (.iadd, 1) := by decide +kernel
theorem dX13_passTerm_89 : decode cX13_passTerm 89 = .ok (.iaload, 1) := by decide +kernel
theorem dX13_passTerm_90 : decode cX13_passTerm 90 = .ok (.invokevirtual 243, 3) := by decide +kernel
theorem dX13_passTerm_93 : decode cX13_passTerm 93 = .ok (.ifCond .eq 51, 3) := by decide +kernel
theorem dX13_passTerm_96 : decode cX13_passTerm 96 = .ok (.aload_n 0, 1) := by decide +kernel
theorem dX13_passTerm_97 : decode cX13_passTerm 97 = .ok (.dup, 1) := by decide +kernel
theorem dX13_passTerm_98 : decode cX13_passTerm 98 = .ok (.getfield 189, 3) := by decide +kernel
theorem dX13_passTerm_101 : decode cX13_passTerm 101 = .ok (.iconst 2, 1) := by decide +kernel
theorem dX13_passTerm_102 : decode cX13_passTerm 102 = .ok (.iadd, 1) := by decide +kernel
theorem dX13_passTerm_103 : decode cX13_passTerm 103 = .ok (.putfield 189, 3) := by decide +kernel
theorem dX13_passTerm_106 : decode cX13_passTerm 106 = .ok (.iconst 0, 1) := by decide +kernel
theorem dX13_passTerm_107 : decode cX13_passTerm 107 = .ok (.istore_n 1, 1) := by decide +kernel
theorem dX13_passTerm_108 : decode cX13_passTerm 108 = .ok (.iload_n 1, 1) := by decide +kernel
theorem dX13_passTerm_109 : decode cX13_passTerm 109 = .ok (.bipush 8, 2) := by decide +kernel
theorem dX13_passTerm_111 : decode cX13_passTerm 111 = .ok (.if_icmp .ge 30, 3) := by decide +kernel
theorem dX13_passTerm_114 : decode cX13_passTerm 114 = .ok (.aload_n 0, 1) := by decide +kernel
theorem dX13_passTerm_115 : decode cX13_passTerm 115 = .ok (.aload_n 0, 1) := by decide +kernel
theorem dX13_passTerm_116 : decode cX13_passTerm 116 = .ok (.invokevirtual 195, 3) := by decide +kernel
theorem dX13_passTerm_119 : decode cX13_passTerm 119 = .ok (.invokevirtual 243, 3) := by decide +kernel
theorem dX13_passTerm_122 : decode cX13_passTerm 122 = .ok (.ifCond .eq 19, 3) := by decide +kernel
theorem dX13_passTerm_125 : decode cX13_passTerm 125 = .ok (.aload_n 0, 1) := by decide +kernel
theorem dX13_passTerm_126 : decode cX13_passTerm 126 = .ok (.dup, 1) := by decide +kernel
theorem dX13_passTerm_127 : decode cX13_passTerm 127 = .ok (.getfield 189, 3) := by decide +kernel
theorem dX13_passTerm_130 : decode cX13_passTerm 130 = .ok (.iconst 1, 1) := by decide +kernel
theorem dX13_passTerm_131 : decode cX13_passTerm 131 = .ok (.iadd, 1) := by decide +kernel
theorem dX13_passTerm_132 : decode cX13_passTerm 132 = .ok (.putfield 189, 3) := by decide +kernel
theorem dX13_passTerm_135 : decode cX13_passTerm 135 = .ok (.iinc 1 1, 3) := by decide +kernel
theorem dX13_passTerm_138 : decode cX13_passTerm 138 = .ok (.goto (-30), 3) := by decide +kernel
theorem dX13_passTerm_141 : decode cX13_passTerm 141 = .ok (.goto 55, 3) := by decide +kernel
theorem dX13_passTerm_144 : decode cX13_passTerm 144 = .ok (.aload_n 0, 1) := by decide +kernel
theorem dX13_passTerm_145 : decode cX13_passTerm 145 = .ok (.invokevirtual 195, 3) := by decide +kernel
theorem dX13_passTerm_148 : decode cX13_passTerm 148 = .ok (.invokestatic 186, 3) := by decide +kernel
theorem dX13_passTerm_151 : decode cX13_passTerm 151 = .ok (.ifCond .eq 40, 3) := by decide +kernel
theorem dX13_passTerm_154 : decode cX13_passTerm 154 = .ok (.iconst 0, 1) := by decide +kernel
theorem dX13_passTerm_155 : decode cX13_passTerm 155 = .ok (.istore_n 1, 1) := by decide +kernel
theorem dX13_passTerm_156 : decode cX13_passTerm 156 = .ok (.iload_n 1, 1) := by decide +kernel
theorem dX13_passTerm_157 : decode cX13_passTerm 157 = .ok (.bipush 9, 2) := by decide +kernel
theorem dX13_passTerm_159 : decode cX13_passTerm 159 = .ok (.if_icmp .ge 29, 3) := by decide +kernel
theorem dX13_passTerm_162 : decode cX13_passTerm 162 = .ok (.aload_n 0, 1) := by decide +kernel
theorem dX13_passTerm_163 : decode cX13_passTerm 163 = .ok (.invokevirtual 195, 3) := by decide +kernel
theorem dX13_passTerm_166 : decode cX13_passTerm 166 = .ok (.invokestatic 186, 3) := by decide +kernel
theorem dX13_passTerm_169 : decode cX13_passTerm 169 = .ok (.ifCond .eq 19, 3) := by decide +kernel
theorem dX13_passTerm_172 : decode cX13_passTerm 172 = .ok (.aload_n 0, 1) := by decide +kernel
theorem dX13_passTerm_173 : decode cX13_passTerm 173 = .ok (.dup, 1) := by decide +kernel
theorem dX13_passTerm_174 : decode cX13_passTerm 174 = .ok (.getfield 189, 3) := by decide +kernel
theorem dX13_passTerm_177 : decode cX13_passTerm 177 = .ok (.iconst 1, 1) := by decide +kernel
theorem dX13_passTerm_178 : decode cX13_passTerm 178 = .ok (.iadd, 1) := by decide +kernel
theorem dX13_passTerm_179 : decode cX13_passTerm 179 = .ok (.putfield 189, 3) := by decide +kernel
theorem dX13_passTerm_182 : decode cX13_passTerm 182 = .ok (.iinc 1 1, 3) := by decide +kernel
theorem dX13_passTerm_185 : decode cX13_passTerm 185 = .ok (.goto (-29), 3) := by decide +kernel
theorem dX13_passTerm_188 : decode cX13_passTerm 188 = .ok (.goto 8, 3) := by decide +kernel
theorem dX13_passTerm_191 : decode cX13_passTerm 191 = .ok (.aload_n 0, 1) := by decide +kernel
theorem dX13_passTerm_192 : decode cX13_passTerm 192 = .ok (.iconst 1, 1) := by decide +kernel
theorem dX13_passTerm_193 : decode cX13_passTerm 193 = .ok (.putfield 207, 3) := by decide +kernel
theorem dX13_passTerm_196 : decode cX13_passTerm 196 = .ok (.return_, 1) := by decide +kernel
theorem dX13_takeExpression_0 : decode cX13_takeExpression 0 = .ok (.aload_n 0, 1) := by decide +kernel
theorem dX13_takeExpression_1 : decode cX13_takeExpression 1 = .ok (.getfield 189, 3) := by decide +kernel
theorem dX13_takeExpression_4 : decode cX13_takeExpression 4 = .ok (.istore_n 1, 1) := by decide +kernel
theorem dX13_takeExpression_5 : decode cX13_takeExpression 5 = .ok (.aload_n 0, 1) := by decide +kernel
theorem dX13_takeExpression_6 : decode cX13_takeExpression 6 = .ok (.invokevirtual 246, 3) := by decide +kernel
theorem dX13_takeExpression_9 : decode cX13_takeExpression 9 = .ok (.ifCond .eq 13, 3) := by decide +kernel
theorem dX13_takeExpression_12 : decode cX13_takeExpression 12 = .ok (.aload_n 0, 1) := by decide +kernel
theorem dX13_takeExpression_13 : decode cX13_takeExpression 13 = .ok (.dup, 1) := by decide +kernel
theorem dX13_takeExpression_14 : decode cX13_takeExpression 14 = .ok (.getfield 189, 3) := by decide +kernel
theorem dX13_takeExpression_17 : decode cX13_takeExpression 17 = .ok (.iconst 1, 1) := by decide +kernel
theorem dX13_takeExpression_18 : decode cX13_takeExpression 18 = .ok (.iadd, 1) := by decide +kernel
theorem dX13_takeExpression_19 : decode cX13_takeExpression 19 = .ok (.putfield 189, 3) := by decide +kernel
theorem dX13_takeExpression_22 : decode cX13_takeExpression 22 = .ok (.aload_n 0, 1) := by decide +kernel
theorem dX13_takeExpression_23 : decode cX13_takeExpression 23 = .ok (.invokevirtual 232, 3) := by decide +kernel
theorem dX13_takeExpression_26 : decode cX13_takeExpression 26 = .ok (.aload_n 0, 1) := by decide +kernel
theorem dX13_takeExpression_27 : decode cX13_takeExpression 27 = .ok (.invokevirtual 250, 3) := by decide +kernel
theorem dX13_takeExpression_30 : decode cX13_takeExpression 30 = .ok (.aload_n 0, 1) := by decide +kernel
theorem dX13_takeExpression_31 : decode cX13_takeExpression 31 = .ok (.invokevirtual 232, 3) := by decide +kernel
theorem dX13_takeExpression_34 : decode cX13_takeExpression 34 = .ok (.aload_n 0, 1) := by decide +kernel
theorem dX13_takeExpression_35 : decode cX13_takeExpression 35 = .ok (.getfield 207, 3) := by decide +kernel
theorem dX13_takeExpression_38 : decode cX13_takeExpression 38 = .ok (.ifCond .ne 35, 3) := by decide +kernel
theorem dX13_takeExpression_41 : decode cX13_takeExpression 41 = .ok (.aload_n 0, 1) := by decide +kernel
theorem dX13_takeExpression_42 : decode cX13_takeExpression 42 = .ok (.invokevirtual 246, 3) := by decide +kernel
theorem dX13_takeExpression_45 : decode cX13_takeExpression 45 = .ok (.ifCond .eq 28, 3) := by decide +kernel
theorem dX13_takeExpression_48 : decode cX13_takeExpression 48 = .ok (.aload_n 0, 1) := by decide +kernel
theorem dX13_takeExpression_49 : decode cX13_takeExpression 49 = .ok (.dup, 1) := by decide +kernel
theorem dX13_takeExpression_50 : decode cX13_takeExpression 50 = .ok (.getfield 189, 3) := by decide +kernel
theorem dX13_takeExpression_53 : decode cX13_takeExpression 53 = .ok (.iconst 1, 1) := by decide +kernel
theorem dX13_takeExpression_54 : decode cX13_takeExpression 54 = .ok (.iadd, 1) := by decide +kernel
theorem dX13_takeExpression_55 : decode cX13_takeExpression 55 = .ok (.putfield 189, 3) := by decide +kernel
theorem dX13_takeExpression_58 : decode cX13_takeExpression 58 = .ok (.aload_n 0, 1) := by decide +kernel
theorem dX13_takeExpression_59 : decode cX13_takeExpression 59 = .ok (.invokevirtual 232, 3) := by decide +kernel
theorem dX13_takeExpression_62 : decode cX13_takeExpression 62 = .ok (.aload_n 0, 1) := by decide +kernel
theorem dX13_takeExpression_63 : decode cX13_takeExpression 63 = .ok (.invokevirtual 250, 3) := by decide +kernel
theorem dX13_takeExpression_66 : decode cX13_takeExpression 66 = .ok (.aload_n 0, 1) := by decide +kernel
theorem dX13_takeExpression_67 : decode cX13_takeExpression 67 = .ok (.invokevirtual 232, 3) := by decide +kernel
theorem dX13_takeExpression_70 : decode cX13_takeExpression 70 = .ok (.goto (-36), 3) := by decide +kernel
theorem dX13_takeExpression_73 : decode cX13_takeExpression 73 = .ok (.aload_n 0, 1) := by decide +kernel
theorem dX13_takeExpression_74 : decode cX13_takeExpression 74 = .ok (.getfield 253, 3) := by decide +kernel
theorem dX13_takeExpression_77 : decode cX13_takeExpression 77 = .ok (.bipush 9, 2) := by decide +kernel
theorem dX13_takeExpression_79 : decode cX13_takeExpression 79 = .ok (.if_icmp .ge 36, 3) := by decide +kernel
theorem dX13_takeExpression_82 : decode cX13_takeExpression 82 = .ok (.aload_n 0, 1) := by decide +kernel
theorem dX13_takeExpression_83 : decode cX13_takeExpression 83 = .ok (.getfield 126, 3) := by decide +kernel
theorem dX13_takeExpression_86 : decode cX13_takeExpression 86 = .ok (.aload_n 0, 1) := by decide +kernel
theorem dX13_takeExpression_87 : decode cX13_takeExpression 87 = .ok (.getfield 253, 3) := by decide +kernel
theorem dX13_takeExpression_90 : decode cX13_takeExpression 90 = .ok (.iload_n 1, 1) := by decide +kernel
theorem dX13_takeExpression_91 : decode cX13_takeExpression 91 = .ok (.iastore, 1) := by decide +kernel
theorem dX13_takeExpression_92 : decode cX13_takeExpression 92 = .ok (.aload_n 0, 1) := by decide +kernel
theorem dX13_takeExpression_93 : decode cX13_takeExpression 93 = .ok (.getfield 129, 3) := by decide +kernel
theorem dX13_takeExpression_96 : decode cX13_takeExpression 96 = .ok (.aload_n 0, 1) := by decide +kernel
theorem dX13_takeExpression_97 : decode cX13_takeExpression 97 = .ok (.getfield 253, 3) := by decide +kernel
theorem dX13_takeExpression_100 : decode cX13_takeExpression 100 = .ok (.aload_n 0, 1) := by decide +kernel
theorem dX13_takeExpression_101 : decode cX13_takeExpression 101 = .ok (.getfield 189, 3) := by decide +kernel
theorem dX13_takeExpression_104 : decode cX13_takeExpression 104 = .ok (.iastore, 1) := by decide +kernel
theorem dX13_takeExpression_105 : decode cX13_takeExpression 105 = .ok (.aload_n 0, 1) := by decide +kernel
theorem dX13_takeExpression_106 : decode cX13_takeExpression 106 = .ok (.dup, 1) := by decide +kernel
theorem dX13_takeExpression_107 : decode cX13_takeExpression 107 = .ok (.getfield 253, 3) := by decide +kernel
theorem dX13_takeExpression_110 : decode cX13_takeExpression 110 = .ok (.iconst 1, 1) := by decide +kernel
theorem dX13_takeExpression_111 : decode cX13_takeExpression 111 = .ok (.iadd, 1) := by decide +kernel
theorem dX13_takeExpression_112 : decode cX13_takeExpression 112 = .ok (.putfield 253, 3) := by decide +kernel
theorem dX13_takeExpression_115 : decode cX13_takeExpression 115 = .ok (.return_, 1) := by decide +kernel

