set_option maxRecDepth 20000 in
theorem w_5_221 : (Jvm.Cond.fieldLink "AssembleLinesModel" (403 : Nat) "AssembleLinesModel" "sourceSize" "I") ∈ b_Ws := bw_5 (List.mem_of_getElem? (i := 221) rfl) rfl
set_option maxRecDepth 20000 in
theorem w_6_225 : (Jvm.Cond.methodLink "AssembleLinesModel" (406 : Nat) ({ cls := "AssembleLinesModel", name := "textLine", desc := "(II)V" } : Jvm.MethodName)) ∈ b_Ws := bw_6 (List.mem_of_getElem? (i := 225) rfl) rfl
set_option maxRecDepth 20000 in
theorem w_6_227 : (Jvm.Cond.instanceMethod ({ cls := "AssembleLinesModel", name := "textLine", desc := "(II)V" } : Jvm.MethodName)) ∈ b_Ws := bw_6 (List.mem_of_getElem? (i := 227) rfl) rfl
set_option maxRecDepth 20000 in
theorem w_6_228 : (Jvm.Cond.code ({ cls := "AssembleLinesModel", name := "textLine", desc := "(II)V" } : Jvm.MethodName) prog_15_method_50_code (4 : Nat) (Option.none : Option Jvm.ClassFile.FieldType)) ∈ b_Ws := bw_6 (List.mem_of_getElem? (i := 228) rfl) rfl
set_option maxRecDepth 20000 in
theorem w_6_229 : (Jvm.Cond.methodLink "AssembleLinesModel" (393 : Nat) ({ cls := "AssembleLinesModel", name := "isEndLine", desc := "(II)Z" } : Jvm.MethodName)) ∈ b_Ws := bw_6 (List.mem_of_getElem? (i := 229) rfl) rfl
set_option maxRecDepth 20000 in
theorem w_6_231 : (Jvm.Cond.instanceMethod ({ cls := "AssembleLinesModel", name := "isEndLine", desc := "(II)Z" } : Jvm.MethodName)) ∈ b_Ws := bw_6 (List.mem_of_getElem? (i := 231) rfl) rfl
set_option maxRecDepth 20000 in
theorem w_6_232 : (Jvm.Cond.code ({ cls := "AssembleLinesModel", name := "isEndLine", desc := "(II)Z" } : Jvm.MethodName) prog_15_method_49_code (6 : Nat) (Option.some Jvm.ClassFile.FieldType.boolean)) ∈ b_Ws := bw_6 (List.mem_of_getElem? (i := 232) rfl) rfl
set_option maxRecDepth 20000 in
theorem w_7_9 : (Jvm.Cond.methodLink "AssembleLinesModel" (397 : Nat) ({ cls := "AssembleLinesModel", name := "lookAt", desc := "()V" } : Jvm.MethodName)) ∈ b_Ws := bw_7 (List.mem_of_getElem? (i := 9) rfl) rfl
set_option maxRecDepth 20000 in
theorem w_7_11 : (Jvm.Cond.instanceMethod ({ cls := "AssembleLinesModel", name := "lookAt", desc := "()V" } : Jvm.MethodName)) ∈ b_Ws := bw_7 (List.mem_of_getElem? (i := 11) rfl) rfl
set_option maxRecDepth 20000 in
theorem w_7_12 : (Jvm.Cond.code ({ cls := "AssembleLinesModel", name := "lookAt", desc := "()V" } : Jvm.MethodName) prog_15_method_48_code (4 : Nat) (Option.none : Option Jvm.ClassFile.FieldType)) ∈ b_Ws := bw_7 (List.mem_of_getElem? (i := 12) rfl) rfl
set_option maxRecDepth 20000 in
theorem w_7_154 : (Jvm.Cond.methodLink "AssembleLinesModel" (400 : Nat) ({ cls := "AssembleLinesModel", name := "nextLine", desc := "()Z" } : Jvm.MethodName)) ∈ b_Ws := bw_7 (List.mem_of_getElem? (i := 154) rfl) rfl
set_option maxRecDepth 20000 in
theorem w_7_156 : (Jvm.Cond.instanceMethod ({ cls := "AssembleLinesModel", name := "nextLine", desc := "()Z" } : Jvm.MethodName)) ∈ b_Ws := bw_7 (List.mem_of_getElem? (i := 156) rfl) rfl
set_option maxRecDepth 20000 in
theorem w_7_157 : (Jvm.Cond.code ({ cls := "AssembleLinesModel", name := "nextLine", desc := "()Z" } : Jvm.MethodName) prog_15_method_41_code (7 : Nat) (Option.some Jvm.ClassFile.FieldType.boolean)) ∈ b_Ws := bw_7 (List.mem_of_getElem? (i := 157) rfl) rfl
theorem dX13_textLine_0 : decode cX13_textLine 0 = .ok (.aload_n 0, 1) := by decide +kernel
theorem dX13_textLine_1 : decode cX13_textLine 1 = .ok (.getfield 350, 3) := by decide +kernel
theorem dX13_textLine_4 : decode cX13_textLine 4 = .ok (.ifCond .ne 10, 3) := by decide +kernel
theorem dX13_textLine_7 : decode cX13_textLine 7 = .ok (.aload_n 0, 1) := by decide +kernel
theorem dX13_textLine_8 : decode cX13_textLine 8 = .ok (.getfield 344, 3) := by decide +kernel
theorem dX13_textLine_11 : decode cX13_textLine 11 = .ok (.ifCond .eq 78, 3) := by decide +kernel
theorem dX13_textLine_14 : decode cX13_textLine 14 = .ok (.aload_n 0, 1) := by decide +kernel
theorem dX13_textLine_15 : decode cX13_textLine 15 = .ok (.iload_n 1, 1) := by decide +kernel
theorem dX13_textLine_16 : decode cX13_textLine 16 = .ok (.iload_n 2, 1) := by decide +kernel
theorem dX13_textLine_17 : decode cX13_textLine 17 = .ok (.invokevirtual 393, 3) := by decide +kernel
theorem dX13_textLine_20 : decode cX13_textLine 20 = .ok (.ifCond .eq 16, 3) := by decide +kernel
theorem dX13_textLine_23 : decode cX13_textLine 23 = .ok (.aload_n 0, 1) := by decide +kernel
theorem dX13_textLine_24 : decode cX13_textLine 24 = .ok (.iconst 0, 1) := by decide +kernel
theorem dX13_textLine_25 : decode cX13_textLine 25 = .ok (.putfield 350, 3) := by decide +kernel
theorem dX13_textLine_28 : decode cX13_textLine 28 = .ok (.aload_n 0, 1) := by decide +kernel
theorem dX13_textLine_29 : decode cX13_textLine 29 = .ok (.iconst 0, 1) := by decide +kernel
theorem dX13_textLine_30 : decode cX13_textLine 30 = .ok (.putfield 344, 3) := by decide +kernel
theorem dX13_textLine_33 : decode cX13_textLine 33 = .ok (.goto 55, 3) := by decide +kernel
theorem dX13_textLine_36 : decode cX13_textLine 36 = .ok (.aload_n 0, 1) := by decide +kernel
theorem dX13_textLine_37 : decode cX13_textLine 37 = .ok (.getfield 350, 3) := by decide +kernel
theorem dX13_textLine_40 : decode cX13_textLine 40 = .ok (.ifCond .eq 48, 3) := by decide +kernel
theorem dX13_textLine_43 : decode cX13_textLine 43 = .ok (.aload_n 0, 1) := by decide +kernel
theorem dX13_textLine_44 : decode cX13_textLine 44 = .ok (.getfield 61, 3) := by decide +kernel
theorem dX13_textLine_47 : decode cX13_textLine 47 = .ok (.aload_n 0, 1) := by decide +kernel
theorem dX13_textLine_48 : decode cX13_textLine 48 = .ok (.getfield 347, 3) := by decide +kernel
theorem dX13_textLine_51 : decode cX13_textLine 51 = .ok (.iload_n 1, 1) := by decide +kernel
theorem dX13_textLine_52 : decode cX13_textLine 52 = .ok (.iastore, 1) := by decide +kernel
theorem dX13_textLine_53 : decode cX13_textLine 53 = .ok (.aload_n 0, 1) := by decide +kernel
theorem dX13_textLine_54 : decode cX13_textLine 54 = .ok (.getfield 64, 3) := by decide +kernel
theorem dX13_textLine_57 : decode cX13_textLine 57 = .ok (.aload_n 0, 1) := by decide +kernel
theorem dX13_textLine_58 : decode cX13_textLine 58 = .ok (.getfield 347, 3) := by decide +kernel
theorem dX13_textLine_61 : decode cX13_textLine 61 = .ok (.iload_n 2, 1) := by decide +kernel
theorem dX13_textLine_62 : decode cX13_textLine 62 = .ok (.iastore, 1) := by decide +kernel
theorem dX13_textLine_63 : decode cX13_textLine 63 = .ok (.aload_n 0, 1) := by decide +kernel
theorem dX13_textLine_64 : decode cX13_textLine 64 = .ok (.dup, 1) := by decide +kernel
theorem dX13_textLine_65 : decode cX13_textLine 65 = .ok (.getfield 347, 3) := by decide +kernel
theorem dX13_textLine_68 : decode cX13_textLine 68 = .ok (.iconst 1, 1) := by decide +kernel
theorem dX13_textLine_69 : decode cX13_textLine 69 = .ok (.iadd, 1) := by decide +kernel
theorem dX13_textLine_70 : decode cX13_textLine 70 = .ok (.putfield 347, 3) := by decide +kernel
theorem dX13_textLine_73 : decode cX13_textLine 73 = .ok (.aload_n 0, 1) := by decide +kernel
theorem dX13_textLine_74 : decode cX13_textLine 74 = .ok (.getfield 58, 3) := by decide +kernel
theorem dX13_textLine_77 : decode cX13_textLine 77 = .ok (.aload_n 0, 1) := by decide +kernel
theorem dX13_textLine_78 : decode cX13_textLine 78 = .ok (.getfield 214, 3) := by decide +kernel
theorem dX13_textLine_81 : decode cX13_textLine 81 = .ok (.iconst 1, 1) := by decide +kernel
theorem dX13_textLine_82 : decode cX13_textLine 82 = .ok (.isub, 1) := by decide +kernel
theorem dX13_textLine_83 : decode cX13_textLine 83 = .ok (.dup2, 1) := by decide +kernel
theorem dX13_textLine_84 : decode cX13_textLine 84 = .ok (.iaload, 1) := by decide +kernel
theorem dX13_textLine_85 : decode cX13_textLine 85 = .ok (.iconst 1, 1) := by decide +kernel
theorem dX13_textLine_86 : decode cX13_textLine 86 = .ok (.iadd, 1) := by decide +kernel
theorem dX13_textLine_87 : decode cX13_textLine 87 = .ok (.iastore, 1) := by decide +kernel
theorem dX13_textLine_88 : decode cX13_textLine 88 = .ok (.return_, 1) := by decide +kernel
theorem dX13_textLine_89 : decode cX13_textLine 89 = .ok (.aload_n 0, 1) := by decide +kernel
theorem dX13_textLine_90 : decode cX13_textLine 90 = .ok (.iconst 0, 1) := by decide +kernel
theorem dX13_textLine_91 : decode cX13_textLine 91 = .ok (.putfield 192, 3) := by decide +kernel
theorem dX13_textLine_94 : decode cX13_textLine 94 = .ok (.iload_n 1, 1) := by decide +kernel
theorem dX13_textLine_95 : decode cX13_textLine 95 = .ok (.istore_n 3, 1) := by decide +kernel
theorem dX13_textLine_96 : decode cX13_textLine 96 = .ok (.iload_n 3, 1) := by decide +kernel
theorem dX13_textLine_97 : decode cX13_textLine 97 = .ok (.iload_n 2, 1) := by decide +kernel
theorem dX13_textLine_98 : decode cX13_textLine 98 = .ok (.if_icmp .ge 19, 3) := by decide +kernel
theorem dX13_textLine_101 : decode cX13_textLine 101 = .ok (.aload_n 0, 1) := by decide +kernel
theorem dX13_textLine_102 : decode cX13_textLine 102 = .ok (.aload_n 0, 1) := by decide +kernel
theorem dX13_textLine_103 : decode cX13_textLine 103 = .ok (.getfield 46, 3) := by decide +kernel
theorem dX13_textLine_106 : decode cX13_textLine 106 = .ok (.iload_n 3, 1) := by decide +kernel
theorem dX13_textLine_107 : decode cX13_textLine 107 = .ok (.iaload, 1) := by decide +kernel
theorem dX13_textLine_108 : decode cX13_textLine 108 = .ok (.invokevirtual 365, 3) := by decide +kernel
theorem dX13_textLine_111 : decode cX13_textLine 111 = .ok (.iinc 3 1, 3) := by decide +kernel
theorem dX13_textLine_114 : decode cX13_textLine 114 = .ok (.goto (-18), 3) := by decide +kernel
theorem dX13_textLine_117 : decode cX13_textLine 117 = .ok (.aload_n 0, 1) := by decide +kernel
theorem dX13_textLine_118 : decode cX13_textLine 118 = .ok (.invokevirtual 397, 3) := by decide +kernel
theorem dX13_textLine_121 : decode cX13_textLine 121 = .ok (.aload_n 0, 1) := by decide +kernel
theorem dX13_textLine_122 : decode cX13_textLine 122 = .ok (.getfield 335, 3) := by decide +kernel
theorem dX13_textLine_125 : decode cX13_textLine 125 = .ok (.ifCond .le 39, 3) := by decide +kernel
theorem dX13_textLine_128 : decode cX13_textLine 128 = .ok (.aload_n 0, 1) := by decide +kernel
theorem dX13_textLine_129 : decode cX13_textLine 129 = .ok (.invokevirtual 400, 3) := by decide +kernel
theorem dX13_textLine_132 : decode cX13_textLine 132 = .ok (.ifCond .eq (-11), 3) := by decide +kernel
theorem dX13_textLine_135 : decode cX13_textLine 135 = .ok (.aload_n 0, 1) := by decide +kernel
theorem dX13_textLine_136 : decode cX13_textLine 136 = .ok (.getfield 192, 3) := by decide +kernel
theorem dX13_textLine_139 : decode cX13_textLine 139 = .ok (.bipush 100, 2) := by decide +kernel
theorem dX13_textLine_141 : decode cX13_textLine 141 = .ok (.if_icmp .le 16, 3) := by decide +kernel
theorem dX13_textLine_144 : decode cX13_textLine 144 = .ok (.aload_n 0, 1) := by decide +kernel
theorem dX13_textLine_145 : decode cX13_textLine 145 = .ok (.bipush 6, 2) := by decide +kernel
theorem dX13_textLine_147 : decode cX13_textLine 147 = .ok (.aload_n 0, 1) := by decide +kernel
theorem dX13_textLine_148 : decode cX13_textLine 148 = .ok (.getfield 268, 3) := by decide +kernel
theorem dX13_textLine_151 : decode cX13_textLine 151 = .ok (.invokevirtual 312, 3) := by decide +kernel
theorem dX13_textLine_154 : decode cX13_textLine 154 = .ok (.goto (-33), 3) := by decide +kernel
theorem dX13_textLine_157 : decode cX13_textLine 157 = .ok (.aload_n 0, 1) := by decide +kernel
theorem dX13_textLine_158 : decode cX13_textLine 158 = .ok (.invokevirtual 397, 3) := by decide +kernel
theorem dX13_textLine_161 : decode cX13_textLine 161 = .ok (.goto (-40), 3) := by decide +kernel
theorem dX13_textLine_164 : decode cX13_textLine 164 = .ok (.return_, 1) := by decide +kernel
theorem dX13_turnOne_0 : decode cX13_turnOne 0 = .ok (.iconst 0, 1) := by decide +kernel
theorem dX13_turnOne_1 : decode cX13_turnOne 1 = .ok (.istore_n 1, 1) := by decide +kernel
theorem dX13_turnOne_2 : decode cX13_turnOne 2 = .ok (.aload_n 0, 1) := by decide +kernel
theorem dX13_turnOne_3 : decode cX13_turnOne 3 = .ok (.iconst 0, 1) := by decide +kernel
theorem dX13_turnOne_4 : decode cX13_turnOne 4 = .ok (.putfield 268, 3) := by decide +kernel
theorem dX13_turnOne_7 : decode cX13_turnOne 7 = .ok (.iload_n 1, 1) := by decide +kernel
theorem dX13_turnOne_8 : decode cX13_turnOne 8 = .ok (.aload_n 0, 1) := by decide +kernel
theorem dX13_turnOne_9 : decode cX13_turnOne 9 = .ok (.getfield 403, 3) := by decide +kernel
theorem dX13_turnOne_12 : decode cX13_turnOne 12 = .ok (.if_icmp .ge 53, 3) := by decide +kernel
theorem dX13_turnOne_15 : decode cX13_turnOne 15 = .ok (.iload_n 1, 1) := by decide +kernel
theorem dX13_turnOne_16 : decode cX13_turnOne 16 = .ok (.istore_n 2, 1) := by decide +kernel
theorem dX13_turnOne_17 : decode cX13_turnOne 17 = .ok (.iload_n 2, 1) := by decide +kernel
theorem dX13_turnOne_18 : decode cX13_turnOne 18 = .ok (.aload_n 0, 1) := by decide +kernel
theorem dX13_turnOne_19 : decode cX13_turnOne 19 = .ok (.getfield 403, 3) := by decide +kernel
theorem dX13_turnOne_22 : decode cX13_turnOne 22 = .ok (.if_icmp .ge 20, 3) := by decide +kernel
theorem dX13_turnOne_25 : decode cX13_turnOne 25 = .ok (.aload_n 0, 1) := by decide +kernel
theorem dX13_turnOne_26 : decode cX13_turnOne 26 = .ok (.getfield 46, 3) := by decide +kernel
theorem dX13_turnOne_29 : decode cX13_turnOne 29 = .ok (.iload_n 2, 1) := by decide +kernel
theorem dX13_turnOne_30 : decode cX13_turnOne 30 = .ok (.iaload, 1) := by decide +kernel
theorem dX13_turnOne_31 : decode cX13_turnOne 31 = .ok (.bipush 10, 2) := by decide +kernel
theorem dX13_turnOne_33 : decode cX13_turnOne 33 = .ok (.if_icmp .eq 9, 3) := by decide +kernel
theorem dX13_turnOne_36 : decode cX13_turnOne 36 = .ok (.iinc 2 1, 3) := by decide +kernel
theorem dX13_turnOne_39 : decode cX13_turnOne 39 = .ok (.goto (-22), 3) := by decide +kernel
theorem dX13_turnOne_42 : decode cX13_turnOne 42 = .ok (.aload_n 0, 1) := by decide +kernel
theorem dX13_turnOne_43 : decode cX13_turnOne 43 = .ok (.dup, 1) := by decide +kernel
theorem dX13_turnOne_44 : decode cX13_turnOne 44 = .ok (.getfield 268, 3) := by decide +kernel
theorem dX13_turnOne_47 : decode cX13_turnOne 47 = .ok (.iconst 1, 1) := by decide +kernel
theorem dX13_turnOne_48 : decode cX13_turnOne 48 = .ok (.iadd, 1) := by decide +kernel
theorem dX13_turnOne_49 : decode cX13_turnOne 49 = .ok (.putfield 268, 3) := by decide +kernel
theorem dX13_turnOne_52 : decode cX13_turnOne 52 = .ok (.aload_n 0, 1) := by decide +kernel
theorem dX13_turnOne_53 : decode cX13_turnOne 53 = .ok (.iload_n 1, 1) := by decide +kernel
theorem dX13_turnOne_54 : decode cX13_turnOne 54 = .ok (.iload_n 2, 1) := by decide +kernel
theorem dX13_turnOne_55 : decode cX13_turnOne 55 = .ok (.invokevirtual 406, 3) := by decide +kernel
theorem dX13_turnOne_58 : decode cX13_turnOne 58 = .ok (.iload_n 2, 1) := by decide +kernel
theorem dX13_turnOne_59 : decode cX13_turnOne 59 = .ok (.iconst 1, 1) := by decide +kernel
theorem dX13_turnOne_60 : decode cX13_turnOne 60 = .ok (.iadd, 1) := by decide +kernel
theorem dX13_turnOne_61 : decode cX13_turnOne 61 = .ok (.istore_n 1, 1) := by decide +kernel
theorem dX13_turnOne_62 : decode cX13_turnOne 62 = .ok (.goto (-55), 3) := by decide +kernel
theorem dX13_turnOne_65 : decode cX13_turnOne 65 = .ok (.aload_n 0, 1) := by decide +kernel
theorem dX13_turnOne_66 : decode cX13_turnOne 66 = .ok (.getfield 350, 3) := by decide +kernel
theorem dX13_turnOne_69 : decode cX13_turnOne 69 = .ok (.ifCond .eq 12, 3) := by decide +kernel
theorem dX13_turnOne_72 : decode cX13_turnOne 72 = .ok (.aload_n 0, 1) := by decide +kernel
theorem dX13_turnOne_73 : decode cX13_turnOne 73 = .ok (.iconst 1, 1) := by decide +kernel
theorem dX13_turnOne_74 : decode cX13_turnOne 74 = .ok (.aload_n 0, 1) := by decide +kernel
theorem dX13_turnOne_75 : decode cX13_turnOne 75 = .ok (.getfield 353, 3) := by decide +kernel
theorem dX13_turnOne_78 : decode cX13_turnOne 78 = .ok (.invokevirtual 312, 3) := by decide +kernel
theorem dX13_turnOne_81 : decode cX13_turnOne 81 = .ok (.return_, 1) := by decide +kernel

