set_option maxRecDepth 20000 in
theorem w_1_27 : (Jvm.Cond.initialized "java/lang/System") ∈ b_Ws := bw_1 (List.mem_of_getElem? (i := 27) rfl) rfl
set_option maxRecDepth 20000 in
theorem w_1_113 : (Jvm.Cond.fieldLink "AssembleLines$Expressions" (36 : Nat) "AssembleLines$Expressions" "isSettled" "Z") ∈ b_Ws := bw_1 (List.mem_of_getElem? (i := 113) rfl) rfl
set_option maxRecDepth 20000 in
theorem w_4_98 : (Jvm.Cond.methodLink "AssembleLines$Expressions" (40 : Nat) ({ cls := "AssembleLines$Scanner", name := "readSign", desc := "()I" } : Jvm.MethodName)) ∈ b_Ws := bw_4 (List.mem_of_getElem? (i := 98) rfl) rfl
set_option maxRecDepth 20000 in
theorem w_4_99 : (Jvm.Cond.instanceMethod ({ cls := "AssembleLines$Scanner", name := "readSign", desc := "()I" } : Jvm.MethodName)) ∈ b_Ws := bw_4 (List.mem_of_getElem? (i := 99) rfl) rfl
set_option maxRecDepth 20000 in
theorem w_4_100 : (Jvm.Cond.selects "AssembleLines$Scanner" ({ cls := "AssembleLines$Scanner", name := "readSign", desc := "()I" } : Jvm.MethodName) ({ cls := "AssembleLines$Scanner", name := "readSign", desc := "()I" } : Jvm.MethodName)) ∈ b_Ws := bw_4 (List.mem_of_getElem? (i := 100) rfl) rfl
set_option maxRecDepth 20000 in
theorem w_4_101 : (Jvm.Cond.code ({ cls := "AssembleLines$Scanner", name := "readSign", desc := "()I" } : Jvm.MethodName) prog_11_method_8_code (1 : Nat) (Option.some Jvm.ClassFile.FieldType.int)) ∈ b_Ws := bw_4 (List.mem_of_getElem? (i := 101) rfl) rfl
set_option maxRecDepth 20000 in
theorem w_4_103 : (Jvm.Cond.methodLink "AssembleLines$Expressions" (46 : Nat) ({ cls := "AssembleLines$Expressions", name := "readTerm", desc := "(LAssembleLines$Scanner;I)Z" } : Jvm.MethodName)) ∈ b_Ws := bw_4 (List.mem_of_getElem? (i := 103) rfl) rfl
set_option maxRecDepth 20000 in
theorem w_4_105 : (Jvm.Cond.instanceMethod ({ cls := "AssembleLines$Expressions", name := "readTerm", desc := "(LAssembleLines$Scanner;I)Z" } : Jvm.MethodName)) ∈ b_Ws := bw_4 (List.mem_of_getElem? (i := 105) rfl) rfl
set_option maxRecDepth 20000 in
theorem w_4_106 : (Jvm.Cond.code ({ cls := "AssembleLines$Expressions", name := "readTerm", desc := "(LAssembleLines$Scanner;I)Z" } : Jvm.MethodName) prog_5_method_4_code (7 : Nat) (Option.some Jvm.ClassFile.FieldType.boolean)) ∈ b_Ws := bw_4 (List.mem_of_getElem? (i := 106) rfl) rfl
set_option maxRecDepth 20000 in
theorem w_4_107 : (Jvm.Cond.methodLink "AssembleLines$Expressions" (53 : Nat) ({ cls := "AssembleLines$Scanner", name := "takes", desc := "(C)Z" } : Jvm.MethodName)) ∈ b_Ws := bw_4 (List.mem_of_getElem? (i := 107) rfl) rfl
set_option maxRecDepth 20000 in
theorem w_4_108 : (Jvm.Cond.methodLink "AssembleLines$Expressions" (57 : Nat) ({ cls := "AssembleLines$Scanner", name := "readName", desc := "()J" } : Jvm.MethodName)) ∈ b_Ws := bw_4 (List.mem_of_getElem? (i := 108) rfl) rfl
set_option maxRecDepth 20000 in
theorem w_4_109 : (Jvm.Cond.methodLink "AssembleLines$Expressions" (61 : Nat) ({ cls := "AssembleLines$Expressions", name := "addName", desc := "(JI)V" } : Jvm.MethodName)) ∈ b_Ws := bw_4 (List.mem_of_getElem? (i := 109) rfl) rfl
set_option maxRecDepth 20000 in
theorem w_4_111 : (Jvm.Cond.instanceMethod ({ cls := "AssembleLines$Expressions", name := "addName", desc := "(JI)V" } : Jvm.MethodName)) ∈ b_Ws := bw_4 (List.mem_of_getElem? (i := 111) rfl) rfl
set_option maxRecDepth 20000 in
theorem w_4_112 : (Jvm.Cond.code ({ cls := "AssembleLines$Expressions", name := "addName", desc := "(JI)V" } : Jvm.MethodName) prog_5_method_5_code (5 : Nat) (Option.none : Option Jvm.ClassFile.FieldType)) ∈ b_Ws := bw_4 (List.mem_of_getElem? (i := 112) rfl) rfl
set_option maxRecDepth 20000 in
theorem w_4_118 : (Jvm.Cond.methodLink "AssembleLines$Expressions" (74 : Nat) ({ cls := "AssembleLines$Names", name := "isSet", desc := "(I)Z" } : Jvm.MethodName)) ∈ b_Ws := bw_4 (List.mem_of_getElem? (i := 118) rfl) rfl
set_option maxRecDepth 20000 in
theorem w_4_119 : (Jvm.Cond.instanceMethod ({ cls := "AssembleLines$Names", name := "isSet", desc := "(I)Z" } : Jvm.MethodName)) ∈ b_Ws := bw_4 (List.mem_of_getElem? (i := 119) rfl) rfl
set_option maxRecDepth 20000 in
theorem w_4_120 : (Jvm.Cond.selects "AssembleLines$Names" ({ cls := "AssembleLines$Names", name := "isSet", desc := "(I)Z" } : Jvm.MethodName) ({ cls := "AssembleLines$Names", name := "isSet", desc := "(I)Z" } : Jvm.MethodName)) ∈ b_Ws := bw_4 (List.mem_of_getElem? (i := 120) rfl) rfl
set_option maxRecDepth 20000 in
theorem w_4_121 : (Jvm.Cond.code ({ cls := "AssembleLines$Names", name := "isSet", desc := "(I)Z" } : Jvm.MethodName) prog_8_method_4_code (2 : Nat) (Option.some Jvm.ClassFile.FieldType.boolean)) ∈ b_Ws := bw_4 (List.mem_of_getElem? (i := 121) rfl) rfl
set_option maxRecDepth 20000 in
theorem w_4_126 : (Jvm.Cond.constant "AssembleLines$Expressions" (82 : Nat) (32768 : Int32)) ∈ b_Ws := bw_4 (List.mem_of_getElem? (i := 126) rfl) rfl
set_option maxRecDepth 20000 in
theorem w_4_127 : (Jvm.Cond.methodLink "AssembleLines$Expressions" (83 : Nat) ({ cls := "java/util/Arrays", name := "copyOf", desc := "([JI)[J" } : Jvm.MethodName)) ∈ b_Ws := bw_4 (List.mem_of_getElem? (i := 127) rfl) rfl
set_option maxRecDepth 20000 in
theorem w_4_128 : (Jvm.Cond.static ({ cls := "java/util/Arrays", name := "copyOf", desc := "([JI)[J" } : Jvm.MethodName)) ∈ b_Ws := bw_4 (List.mem_of_getElem? (i := 128) rfl) rfl
set_option maxRecDepth 20000 in
theorem w_4_129 : (Jvm.Cond.code ({ cls := "java/util/Arrays", name := "copyOf", desc := "([JI)[J" } : Jvm.MethodName) prog_29_method_124_code (3 : Nat) (Option.some (Jvm.ClassFile.FieldType.array Jvm.ClassFile.FieldType.long))) ∈ b_Ws := bw_4 (List.mem_of_getElem? (i := 129) rfl) rfl
set_option maxRecDepth 20000 in
theorem w_4_137 : (Jvm.Cond.methodLink "java/util/Arrays" (304 : Nat) ({ cls := "java/lang/Math", name := "min", desc := "(II)I" } : Jvm.MethodName)) ∈ b_Ws := bw_4 (List.mem_of_getElem? (i := 137) rfl) rfl
set_option maxRecDepth 20000 in
theorem w_4_138 : (Jvm.Cond.methodLink "java/util/Arrays" (150 : Nat) ({ cls := "java/lang/System", name := "arraycopy", desc := "(Ljava/lang/Object;ILjava/lang/Object;II)V" } : Jvm.MethodName)) ∈ b_Ws := bw_4 (List.mem_of_getElem? (i := 138) rfl) rfl
set_option maxRecDepth 20000 in
theorem w_4_139 : (Jvm.Cond.static ({ cls := "java/lang/System", name := "arraycopy", desc := "(Ljava/lang/Object;ILjava/lang/Object;II)V" } : Jvm.MethodName)) ∈ b_Ws := bw_4 (List.mem_of_getElem? (i := 139) rfl) rfl
set_option maxRecDepth 20000 in
theorem w_4_140 : (Jvm.Cond.native ({ cls := "java/lang/System", name := "arraycopy", desc := "(Ljava/lang/Object;ILjava/lang/Object;II)V" } : Jvm.MethodName)) ∈ b_Ws := bw_4 (List.mem_of_getElem? (i := 140) rfl) rfl
set_option maxRecDepth 20000 in
theorem w_4_141 : (Jvm.Cond.methodLink "AssembleLines$Expressions" (65 : Nat) ({ cls := "AssembleLines$Scanner", name := "readNumber", desc := "()J" } : Jvm.MethodName)) ∈ b_Ws := bw_4 (List.mem_of_getElem? (i := 141) rfl) rfl
set_option maxRecDepth 20000 in
theorem w_4_142 : (Jvm.Cond.instanceMethod ({ cls := "AssembleLines$Scanner", name := "readNumber", desc := "()J" } : Jvm.MethodName)) ∈ b_Ws := bw_4 (List.mem_of_getElem? (i := 142) rfl) rfl
set_option maxRecDepth 20000 in
theorem w_4_143 : (Jvm.Cond.selects "AssembleLines$Scanner" ({ cls := "AssembleLines$Scanner", name := "readNumber", desc := "()J" } : Jvm.MethodName) ({ cls := "AssembleLines$Scanner", name := "readNumber", desc := "()J" } : Jvm.MethodName)) ∈ b_Ws := bw_4 (List.mem_of_getElem? (i := 143) rfl) rfl
set_option maxRecDepth 20000 in
theorem w_4_144 : (Jvm.Cond.code ({ cls := "AssembleLines$Scanner", name := "readNumber", desc := "()J" } : Jvm.MethodName) prog_11_method_16_code (7 : Nat) (Option.some Jvm.ClassFile.FieldType.long)) ∈ b_Ws := bw_4 (List.mem_of_getElem? (i := 144) rfl) rfl
set_option maxRecDepth 20000 in
theorem w_4_148 : (Jvm.Cond.methodLink "AssembleLines$Expressions" (50 : Nat) ({ cls := "AssembleLines$Scanner", name := "left", desc := "()I" } : Jvm.MethodName)) ∈ b_Ws := bw_4 (List.mem_of_getElem? (i := 148) rfl) rfl
set_option maxRecDepth 20000 in
theorem w_4_149 : (Jvm.Cond.instanceMethod ({ cls := "AssembleLines$Scanner", name := "left", desc := "()I" } : Jvm.MethodName)) ∈ b_Ws := bw_4 (List.mem_of_getElem? (i := 149) rfl) rfl
set_option maxRecDepth 20000 in
theorem w_4_150 : (Jvm.Cond.selects "AssembleLines$Scanner" ({ cls := "AssembleLines$Scanner", name := "left", desc := "()I" } : Jvm.MethodName) ({ cls := "AssembleLines$Scanner", name := "left", desc := "()I" } : Jvm.MethodName)) ∈ b_Ws := bw_4 (List.mem_of_getElem? (i := 150) rfl) rfl
set_option maxRecDepth 20000 in
theorem w_4_151 : (Jvm.Cond.code ({ cls := "AssembleLines$Scanner", name := "left", desc := "()I" } : Jvm.MethodName) prog_11_method_4_code (1 : Nat) (Option.some Jvm.ClassFile.FieldType.int)) ∈ b_Ws := bw_4 (List.mem_of_getElem? (i := 151) rfl) rfl
theorem dJ7_copyOf_c38d5_0 : decode cJ7_copyOf_c38d5 0 = .ok (.iload_n 1, 1) := by decide +kernel
theorem dJ7_copyOf_c38d5_1 : decode cJ7_copyOf_c38d5 1 = .ok (.aload_n 0, 1) := by decide +kernel
theorem dJ7_copyOf_c38d5_2 : decode cJ7_copyOf_c38d5 2 = .ok (.arraylength, 1) := by decide +kernel
theorem dJ7_copyOf_c38d5_3 : decode cJ7_copyOf_c38d5 3 = .ok (.if_icmp .ne 11, 3) := by decide +kernel
theorem dJ7_copyOf_c38d5_6 : decode cJ7_copyOf_c38d5 6 = .ok (.aload_n 0, 1) := by decide +kernel
theorem dJ7_copyOf_c38d5_7 : decode cJ7_copyOf_c38d5 7 = .ok (.invokevirtual 319, 3) := by decide +kernel
theorem dJ7_copyOf_c38d5_10 : decode cJ7_copyOf_c38d5 10 = .ok (.checkcast 320, 3) := by decide +kernel
theorem dJ7_copyOf_c38d5_13 : decode cJ7_copyOf_c38d5 13 = .ok (.areturn, 1) := by decide +kernel
theorem dJ7_copyOf_c38d5_14 : decode cJ7_copyOf_c38d5 14 = .ok (.iload_n 1, 1) := by decide +kernel
theorem dJ7_copyOf_c38d5_15 : decode cJ7_copyOf_c38d5 15 = .ok (.newarray .long, 2) := by decide +kernel
theorem dJ7_copyOf_c38d5_17 : decode cJ7_copyOf_c38d5 17 = .ok (.astore_n 2, 1) := by decide +kernel
theorem dJ7_copyOf_c38d5_18 : decode cJ7_copyOf_c38d5 18 = .ok (.aload_n 0, 1) := by decide +kernel
theorem dJ7_copyOf_c38d5_19 : decode cJ7_copyOf_c38d5 19 = .ok (.iconst 0, 1) := by decide +kernel
theorem dJ7_copyOf_c38d5_20 : decode cJ7_copyOf_c38d5 20 = .ok (.aload_n 2, 1) := by decide +kernel
theorem dJ7_copyOf_c38d5_21 : decode cJ7_copyOf_c38d5 21 = .ok (.iconst 0, 1) := by decide +kernel
theorem dJ7_copyOf_c38d5_22 : decode cJ7_copyOf_c38d5 22 = .ok (.aload_n 0, 1) := by decide +kernel
theorem dJ7_copyOf_c38d5_23 : decode cJ7_copyOf_c38d5 23 = .ok (.arraylength, 1) := by decide +kernel
theorem dJ7_copyOf_c38d5_24 : decode cJ7_copyOf_c38d5 24 = .ok (.iload_n 1, 1) := by decide +kernel
theorem dJ7_copyOf_c38d5_25 : decode cJ7_copyOf_c38d5 25 = .ok (.invokestatic 304, 3) := by decide +kernel
theorem dJ7_copyOf_c38d5_28 : decode cJ7_copyOf_c38d5 28 = .ok (.invokestatic 150, 3) := by decide +kernel
theorem dJ7_copyOf_c38d5_31 : decode cJ7_copyOf_c38d5 31 = .ok (.aload_n 2, 1) := by decide +kernel
theorem dJ7_copyOf_c38d5_32 : decode cJ7_copyOf_c38d5 32 = .ok (.areturn, 1) := by decide +kernel
theorem dX3_addName_0 : decode cX3_addName 0 = .ok (.aload_n 0, 1) := by decide +kernel
theorem dX3_addName_1 : decode cX3_addName 1 = .ok (.getfield 25, 3) := by decide +kernel
theorem dX3_addName_4 : decode cX3_addName 4 = .ok (.lload_n 1, 1) := by decide +kernel
theorem dX3_addName_5 : decode cX3_addName 5 = .ok (.invokevirtual 68, 3) := by decide +kernel
theorem dX3_addName_8 : decode cX3_addName 8 = .ok (.istore 4, 2) := by decide +kernel
theorem dX3_addName_10 : decode cX3_addName 10 = .ok (.aload_n 0, 1) := by decide +kernel
theorem dX3_addName_11 : decode cX3_addName 11 = .ok (.getfield 25, 3) := by decide +kernel
theorem dX3_addName_14 : decode cX3_addName 14 = .ok (.iload 4, 2) := by decide +kernel
theorem dX3_addName_16 : decode cX3_addName 16 = .ok (.invokevirtual 74, 3) := by decide +kernel
theorem dX3_addName_19 : decode cX3_addName 19 = .ok (.ifCond .eq 27, 3) := by decide +kernel
theorem dX3_addName_22 : decode cX3_addName 22 = .ok (.aload_n 0, 1) := by decide +kernel
theorem dX3_addName_23 : decode cX3_addName 23 = .ok (.getfield 11, 3) := by decide +kernel
theorem dX3_addName_26 : decode cX3_addName 26 = .ok (.aload_n 0, 1) := by decide +kernel
theorem dX3_addName_27 : decode cX3_addName 27 = .ok (.getfield 29, 3) := by decide +kernel
theorem dX3_addName_30 : decode cX3_addName 30 = .ok (.dup2, 1) := by decide +kernel
theorem dX3_addName_31 : decode cX3_addName 31 = .ok (.iaload, 1) := by decide +kernel
theorem dX3_addName_32 : decode cX3_addName 32 = .ok (.iload_n 3, 1) := by decide +kernel
theorem dX3_addName_33 : decode cX3_addName 33 = .ok (.aload_n 0, 1) := by decide +kernel
theorem dX3_addName_34 : decode cX3_addName 34 = .ok (.getfield 25, 3) := by decide +kernel
theorem dX3_addName_37 : decode cX3_addName 37 = .ok (.iload 4, 2) := by decide +kernel
theorem dX3_addName_39 : decode cX3_addName 39 = .ok (.invokevirtual 78, 3) := by decide +kernel
theorem dX3_addName_42 : decode cX3_addName 42 = .ok (.imul, 1) := by decide +kernel
theorem dX3_addName_43 : decode cX3_addName 43 = .ok (.iadd, 1) := by decide +kernel
theorem dX3_addName_44 : decode cX3_addName 44 = .ok (.iastore, 1) := by decide +kernel
theorem dX3_addName_45 : decode cX3_addName 45 = .ok (.return_, 1) := by decide +kernel
theorem dX3_addName_46 : decode cX3_addName 46 = .ok (.aload_n 0, 1) := by decide +kernel
theorem dX3_addName_47 : decode cX3_addName 47 = .ok (.iconst 0, 1) := by decide +kernel
theorem dX3_addName_48 : decode cX3_addName 48 = .ok (.putfield 36, 3) := by decide +kernel
theorem dX3_addName_51 : decode cX3_addName 51 = .ok (.aload_n 0, 1) := by decide +kernel
theorem dX3_addName_52 : decode cX3_addName 52 = .ok (.getfield 33, 3) := by decide +kernel
theorem dX3_addName_55 : decode cX3_addName 55 = .ok (.aload_n 0, 1) := by decide +kernel
theorem dX3_addName_56 : decode cX3_addName 56 = .ok (.getfield 21, 3) := by decide +kernel
theorem dX3_addName_59 : decode cX3_addName 59 = .ok (.arraylength, 1) := by decide +kernel
theorem dX3_addName_60 : decode cX3_addName 60 = .ok (.if_icmp .ne 30, 3) := by decide +kernel
theorem dX3_addName_63 : decode cX3_addName 63 = .ok (.aload_n 0, 1) := by decide +kernel
theorem dX3_addName_64 : decode cX3_addName 64 = .ok (.getfield 33, 3) := by decide +kernel
theorem dX3_addName_67 : decode cX3_addName 67 = .ok (.ldc 82, 2) := by decide +kernel
theorem dX3_addName_69 : decode cX3_addName 69 = .ok (.if_icmp .ge 21, 3) := by decide +kernel
theorem dX3_addName_72 : decode cX3_addName 72 = .ok (.aload_n 0, 1) := by decide +kernel
theorem dX3_addName_73 : decode cX3_addName 73 = .ok (.aload_n 0, 1) := by decide +kernel
theorem dX3_addName_74 : decode cX3_addName 74 = .ok (.getfield 21, 3) := by decide +kernel
theorem dX3_addName_77 : decode cX3_addName 77 = .ok (.iconst 2, 1) := by decide +kernel
theorem dX3_addName_78 : decode cX3_addName 78 = .ok (.aload_n 0, 1) := by decide +kernel
theorem dX3_addName_79 : decode cX3_addName 79 = .ok (.getfield 21, 3) := by decide +kernel
theorem dX3_addName_82 : decode cX3_addName 82 = .ok (.arraylength, 1) := by decide +kernel
theorem dX3_addName_83 : decode cX3_addName 83 = .ok (.imul, 1) := by decide +kernel
theorem dX3_addName_84 : decode cX3_addName 84 = .ok (.invokestatic 83, 3) := by decide +kernel
theorem dX3_addName_87 : decode cX3_addName 87 = .ok (.putfield 21, 3) := by decide +kernel
theorem dX3_addName_90 : decode cX3_addName 90 = .ok (.aload_n 0, 1) := by decide +kernel
theorem dX3_addName_91 : decode cX3_addName 91 = .ok (.getfield 33, 3) := by decide +kernel
theorem dX3_addName_94 : decode cX3_addName 94 = .ok (.aload_n 0, 1) := by decide +kernel
theorem dX3_addName_95 : decode cX3_addName 95 = .ok (.getfield 21, 3) := by decide +kernel
theorem dX3_addName_98 : decode cX3_addName 98 = .ok (.arraylength, 1) := by decide +kernel
theorem dX3_addName_99 : decode cX3_addName 99 = .ok (.if_icmp .ge 26, 3) := by decide +kernel
theorem dX3_addName_102 : decode cX3_addName 102 = .ok (.aload_n 0, 1) := by decide +kernel
theorem dX3_addName_103 : decode cX3_addName 103 = .ok (.getfield 21, 3) := by decide +kernel
theorem dX3_addName_106 : decode cX3_addName 106 = .ok (.aload_n 0, 1) := by decide +kernel
theorem dX3_addName_107 : decode cX3_addName 107 = .ok (.getfield 33, 3) := by decide +kernel
theorem dX3_addName_110 : decode cX3_addName 110 = .ok (.iload_n 3, 1) := by decide +kernel
theorem dX3_addName_111 : decode cX3_addName 111 = .ok (.i2l, 1) := by decide +kernel
theorem dX3_addName_112 : decode cX3_addName 112 = .ok (.lload_n 1, 1) := by decide +kernel
theorem dX3_addName_113 : decode cX3_addName 113 = .ok (.lmul, 1) := by decide +kernel
theorem dX3_addName_114 : decode cX3_addName 114 = .ok (.lastore, 1) := by decide +kernel
theorem dX3_addName_115 : decode cX3_addName 115 = .ok (.aload_n 0, 1) := by decide +kernel
theorem dX3_addName_116 : decode cX3_addName 116 = .ok (.dup, 1) := by decide +kernel
theorem dX3_addName_117 : decode cX3_addName 117 = .ok (.getfield 33, 3) := by decide +kernel
theorem dX3_addName_120 : decode cX3_addName 120 = .ok (.iconst 1, 1) := by decide +kernel
theorem dX3_addName_121 : decode cX3_addName 121 = .ok (.iadd, 1) := by decide +kernel
theorem dX3_addName_122 : decode cX3_addName 122 = .ok (.putfield 33, 3) := by decide +kernel
theorem dX3_addName_125 : decode cX3_addName 125 = .ok (.return_, 1) := by decide +kernel
theorem dX3_readTerm_0 : decode cX3_readTerm 0 = .ok (.aload_n 1, 1) := by decide +kernel
theorem dX3_readTerm_1 : decode cX3_readTerm 1 = .ok (.bipush 46, 2) := by decide +kernel
theorem dX3_readTerm_3 : decode cX3_readTerm 3 = .ok (.invokevirtual 53, 3) := by decide +kernel
theorem dX3_readTerm_6 : decode cX3_readTerm 6 = .ok (.ifCond .eq 23, 3) := by decide +kernel
theorem dX3_readTerm_9 : decode cX3_readTerm 9 = .ok (.aload_n 0, 1) := by decide +kernel
theorem dX3_readTerm_10 : decode cX3_readTerm 10 = .ok (.getfield 15, 3) := by decide +kernel
theorem dX3_readTerm_13 : decode cX3_readTerm 13 = .ok (.aload_n 0, 1) := by decide +kernel
theorem dX3_readTerm_14 : decode cX3_readTerm 14 = .ok (.getfield 29, 3) := by decide +kernel
theorem dX3_readTerm_17 : decode cX3_readTerm 17 = .ok (.dup2, 1) := by decide +kernel
theorem dX3_readTerm_18 : decode cX3_readTerm 18 = .ok (.iaload, 1) := by decide +kernel
theorem dX3_readTerm_19 : decode cX3_readTerm 19 = .ok (.iload_n 2, 1) := by decide +kernel
theorem dX3_readTerm_20 : decode cX3_readTerm 20 = .ok (.iadd, 1) := by decide +kernel
theorem dX3_readTerm_21 : decode cX3_readTerm 21 = .ok (.iastore, 1) := by decide +kernel
theorem dX3_readTerm_22 : decode cX3_readTerm 22 = .ok (.aload_n 0, 1) := by decide +kernel
theorem dX3_readTerm_23 : decode cX3_readTerm 23 = .ok (.iconst 0, 1) := by decide +kernel
theorem dX3_readTerm_24 : decode cX3_readTerm 24 = .ok (.putfield 36, 3) := by decide +kernel
theorem dX3_readTerm_27 : decode cX3_readTerm 27 = .ok (.iconst 1, 1) := by decide +kernel
theorem dX3_readTerm_28 : decode cX3_readTerm 28 = .ok (.ireturn, 1) := by decide +kernel
theorem dX3_readTerm_29 : decode cX3_readTerm 29 = .ok (.aload_n 1, 1) := by decide +kernel
theorem dX3_readTerm_30 : decode cX3_readTerm 30 = .ok (.invokevirtual 57, 3) := by decide +kernel
theorem dX3_readTerm_33 : decode cX3_readTerm 33 = .ok (.lstore_n 3, 1) := by decide +kernel
theorem dX3_readTerm_34 : decode cX3_readTerm 34 = .ok (.lload_n 3, 1) := by decide +kernel
theorem dX3_readTerm_35 : decode cX3_readTerm 35 = .ok (.lconst 0, 1) := by decide +kernel
theorem dX3_readTerm_36 : decode cX3_readTerm 36 = .ok (.lcmp, 1) := by decide +kernel
theorem dX3_readTerm_37 : decode cX3_readTerm 37 = .ok (.ifCond .eq 11, 3) := by decide +kernel
theorem dX3_readTerm_40 : decode cX3_readTerm 40 = .ok (.aload_n 0, 1) := by decide +kernel
theorem dX3_readTerm_41 : decode cX3_readTerm 41 = .ok (.lload_n 3, 1) := by decide +kernel
theorem dX3_readTerm_42 : decode cX3_readTerm 42 = .ok (.iload_n 2, 1) := by decide +kernel
theorem dX3_readTerm_43 : decode cX3_readTerm 43 = .ok (.invokevirtual 61, 3) := by decide +kernel
theorem dX3_readTerm_46 : decode cX3_readTerm 46 = .ok (.iconst 1, 1) := by decide +kernel
theorem dX3_readTerm_47 : decode cX3_readTerm 47 = .ok (.ireturn, 1) := by decide +kernel
theorem dX3_readTerm_48 : decode cX3_readTerm 48 = .ok (.aload_n 1, 1) := by decide +kernel
theorem dX3_readTerm_49 : decode cX3_readTerm 49 = .ok (.invokevirtual 65, 3) := by decide +kernel
theorem dX3_readTerm_52 : decode cX3_readTerm 52 = .ok (.lstore 5, 2) := by decide +kernel
theorem dX3_readTerm_54 : decode cX3_readTerm 54 = .ok (.aload_n 0, 1) := by decide +kernel
theorem dX3_readTerm_55 : decode cX3_readTerm 55 = .ok (.getfield 11, 3) := by decide +kernel
theorem dX3_readTerm_58 : decode cX3_readTerm 58 = .ok (.aload_n 0, 1) := by decide +kernel
theorem dX3_readTerm_59 : decode cX3_readTerm 59 = .ok (.getfield 29, 3) := by decide +kernel
theorem dX3_readTerm_62 : decode cX3_readTerm 62 = .ok (.dup2, 1) := by decide +kernel
theorem dX3_readTerm_63 : decode cX3_readTerm 63 = .ok (.iaload, 1) := by decide +kernel
theorem dX3_readTerm_64 : decode cX3_readTerm 64 = .ok (.iload_n 2, 1) := by decide +kernel
theorem dX3_readTerm_65 : decode cX3_readTerm 65 = .ok (.lload 5, 2) := by decide +kernel
theorem dX3_readTerm_67 : decode cX3_readTerm 67 = .ok (.l2i, 1) := by decide +kernel
theorem dX3_readTerm_68 : decode cX3_readTerm 68 = .ok (.imul, 1) := by decide +kernel
theorem dX3_readTerm_69 : decode cX3_readTerm 69 = .ok (.iadd, 1) := by decide +kernel
theorem dX3_readTerm_70 : decode cX3_readTerm 70 = .ok (.iastore, 1) := by decide +kernel
theorem dX3_readTerm_71 : decode cX3_readTerm 71 = .ok (.lload 5, 2) := by decide +kernel
theorem dX3_readTerm_73 : decode cX3_readTerm 73 = .ok (.lconst 0, 1) := by decide +kernel
theorem dX3_readTerm_74 : decode cX3_readTerm 74 = .ok (.lcmp, 1) := by decide +kernel
theorem dX3_readTerm_75 : decode cX3_readTerm 75 = .ok (.ifCond .lt 7, 3) := by decide +kernel
theorem dX3_readTerm_78 : decode cX3_readTerm 78 = .ok (.iconst 1, 1) := by decide +kernel
theorem dX3_readTerm_79 : decode cX3_readTerm 79 = .ok (.goto 4, 3) := by decide +kernel
theorem dX3_readTerm_82 : decode cX3_readTerm 82 = .ok (.iconst 0, 1) := by decide +kernel
theorem dX3_readTerm_83 : decode cX3_readTerm 83 = .ok (.ireturn, 1) := by decide +kernel
theorem dX3_read_0 : decode cX3_read 0 = .ok (.aload_n 0, 1) := by decide +kernel
theorem dX3_read_1 : decode cX3_read 1 = .ok (.getfield 29, 3) := by decide +kernel
theorem dX3_read_4 : decode cX3_read 4 = .ok (.sipush 3208, 3) := by decide +kernel
theorem dX3_read_7 : decode cX3_read 7 = .ok (.if_icmp .lt 5, 3) := by decide +kernel
theorem dX3_read_10 : decode cX3_read 10 = .ok (.iconst 0, 1) := by decide +kernel
theorem dX3_read_11 : decode cX3_read 11 = .ok (.ireturn, 1) := by decide +kernel
theorem dX3_read_12 : decode cX3_read 12 = .ok (.aload_n 0, 1) := by decide +kernel
theorem dX3_read_13 : decode cX3_read 13 = .ok (.getfield 11, 3) := by decide +kernel
theorem dX3_read_16 : decode cX3_read 16 = .ok (.aload_n 0, 1) := by decide +kernel
theorem dX3_read_17 : decode cX3_read 17 = .ok (.getfield 29, 3) := by decide +kernel
theorem dX3_read_20 : decode cX3_read 20 = .ok (.iconst 0, 1) := by decide +kernel
theorem dX3_read_21 : decode cX3_read 21 = .ok (.iastore, 1) := by decide +kernel
theorem dX3_read_22 : decode cX3_read 22 = .ok (.aload_n 0, 1) := by decide +kernel
theorem dX3_read_23 : decode cX3_read 23 = .ok (.getfield 15, 3) := by decide +kernel
theorem dX3_read_26 : decode cX3_read 26 = .ok (.aload_n 0, 1) := by decide +kernel
theorem dX3_read_27 : decode cX3_read 27 = .ok (.getfield 29, 3) := by decide +kernel
theorem dX3_read_30 : decode cX3_read 30 = .ok (.iconst 0, 1) := by decide +kernel
theorem dX3_read_31 : decode cX3_read 31 = .ok (.iastore, 1) := by decide +kernel
theorem dX3_read_32 : decode cX3_read 32 = .ok (.aload_n 0, 1) := by decide +kernel
theorem dX3_read_33 : decode cX3_read 33 = .ok (.iconst 1, 1) := by decide +kernel
theorem dX3_read_34 : decode cX3_read 34 = .ok (.putfield 36, 3) := by decide +kernel
theorem dX3_read_37 : decode cX3_read 37 = .ok (.aload_n 1, 1) := by decide +kernel
theorem dX3_read_38 : decode cX3_read 38 = .ok (.invokevirtual 40, 3) := by decide +kernel
theorem dX3_read_41 : decode cX3_read 41 = .ok (.istore_n 2, 1) := by decide +kernel
theorem dX3_read_42 : decode cX3_read 42 = .ok (.aload_n 0, 1) := by decide +kernel
theorem dX3_read_43 : decode cX3_read 43 = .ok (.aload_n 1, 1) := by decide +kernel
theorem dX3_read_44 : decode cX3_read 44 = .ok (.iload_n 2, 1) := by decide +kernel
theorem dX3_read_45 : decode cX3_read 45 = .ok (.ifCond .ne 7, 3) := by decide +kernel
theorem dX3_read_48 : decode cX3_read 48 = .ok (.iconst 1, 1) := by decide +kernel
theorem dX3_read_49 : decode cX3_read 49 = .ok (.goto 4, 3) := by decide +kernel
theorem dX3_read_52 : decode cX3_read 52 = .ok (.iload_n 2, 1) := by decide +kernel
theorem dX3_read_53 : decode cX3_read 53 = .ok (.invokevirtual 46, 3) := by decide +kernel
theorem dX3_read_56 : decode cX3_read 56 = .ok (.istore_n 3, 1) := by decide +kernel
theorem dX3_read_57 : decode cX3_read 57 = .ok (.aload_n 1, 1) := by decide +kernel
theorem dX3_read_58 : decode cX3_read 58 = .ok (.invokevirtual 50, 3) := by decide +kernel
theorem dX3_read_61 : decode cX3_read 61 = .ok (.istore 4, 2) := by decide +kernel
theorem dX3_read_63 : decode cX3_read 63 = .ok (.iload_n 3, 1) := by decide +kernel
theorem dX3_read_64 : decode cX3_read 64 = .ok (.ifCond .eq 33, 3) := by decide +kernel
theorem dX3_read_67 : decode cX3_read 67 = .ok (.iload 4, 2) := by decide +kernel
theorem dX3_read_69 : decode cX3_read 69 = .ok (.ifCond .le 28, 3) := by decide +kernel
theorem dX3_read_72 : decode cX3_read 72 = .ok (.aload_n 1, 1) := by decide +kernel
theorem dX3_read_73 : decode cX3_read 73 = .ok (.invokevirtual 40, 3) := by decide +kernel
theorem dX3_read_76 : decode cX3_read 76 = .ok (.istore_n 2, 1) := by decide +kernel
theorem dX3_read_77 : decode cX3_read 77 = .ok (.iload_n 2, 1) := by decide +kernel
theorem dX3_read_78 : decode cX3_read 78 = .ok (.ifCond .ne 6, 3) := by decide +kernel
theorem dX3_read_81 : decode cX3_read 81 = .ok (.goto 16, 3) := by decide +kernel
theorem dX3_read_84 : decode cX3_read 84 = .ok (.aload_n 0, 1) := by decide +kernel
theorem dX3_read_85 : decode cX3_read 85 = .ok (.aload_n 1, 1) := by decide +kernel
theorem dX3_read_86 : decode cX3_read 86 = .ok (.iload_n 2, 1) := by decide +kernel
theorem dX3_read_87 : decode cX3_read 87 = .ok (.invokevirtual 46, 3) := by decide +kernel
theorem dX3_read_90 : decode cX3_read 90 = .ok (.istore_n 3, 1) := by decide +kernel
theorem dX3_read_91 : decode cX3_read 91 = .ok (.iinc 4 (-1), 3) := by decide +kernel
theorem dX3_read_94 : decode cX3_read 94 = .ok (.goto (-31), 3) := by decide +kernel
theorem dX3_read_97 : decode cX3_read 97 = .ok (.aload_n 0, 1) := by decide +kernel
theorem dX3_read_98 : decode cX3_read 98 = .ok (.dup, 1) := by decide +kernel
theorem dX3_read_99 : decode cX3_read 99 = .ok (.getfield 29, 3) := by decide +kernel
theorem dX3_read_102 : decode cX3_read 102 = .ok (.iconst 1, 1) := by decide +kernel
theorem dX3_read_103 : decode cX3_read 103 = .ok (.iadd, 1) := by decide +kernel
theorem dX3_read_104 : decode cX3_read 104 = .ok (.putfield 29, 3) := by decide +kernel
theorem dX3_read_107 : decode cX3_read 107 = .ok (.aload_n 0, 1) := by decide +kernel
theorem dX3_read_108 : decode cX3_read 108 = .ok (.getfield 18, 3) := by decide +kernel
theorem dX3_read_111 : decode cX3_read 111 = .ok (.aload_n 0, 1) := by decide +kernel
theorem dX3_read_112 : decode cX3_read 112 = .ok (.getfield 29, 3) := by decide +kernel
theorem dX3_read_115 : decode cX3_read 115 = .ok (.aload_n 0, 1) := by decide +kernel
theorem dX3_read_116 : decode cX3_read 116 = .ok (.getfield 33, 3) := by decide +kernel
theorem dX3_read_119 : decode cX3_read 119 = .ok (.iastore, 1) := by decide +kernel
theorem dX3_read_120 : decode cX3_read 120 = .ok (.iload_n 3, 1) := by decide +kernel
theorem dX3_read_121 : decode cX3_read 121 = .ok (.ireturn, 1) := by decide +kernel

