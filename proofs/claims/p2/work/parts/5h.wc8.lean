set_option maxRecDepth 20000 in
theorem w_2_50 : (Jvm.Cond.fieldLink "AssembleLines$Lines" (96 : Nat) "AssembleLines$Call" "source" "[B") ∈ b_Ws := bw_2 (List.mem_of_getElem? (i := 50) rfl) rfl
set_option maxRecDepth 20000 in
theorem w_2_52 : (Jvm.Cond.fieldLink "AssembleLines$Lines" (99 : Nat) "AssembleLines$Call" "froms" "[I") ∈ b_Ws := bw_2 (List.mem_of_getElem? (i := 52) rfl) rfl
set_option maxRecDepth 20000 in
theorem w_2_54 : (Jvm.Cond.fieldLink "AssembleLines$Lines" (92 : Nat) "AssembleLines$Call" "tos" "[I") ∈ b_Ws := bw_2 (List.mem_of_getElem? (i := 54) rfl) rfl
set_option maxRecDepth 20000 in
theorem w_2_56 : (Jvm.Cond.fieldLink "AssembleLines$Lines" (83 : Nat) "AssembleLines$Call" "number" "I") ∈ b_Ws := bw_2 (List.mem_of_getElem? (i := 56) rfl) rfl
set_option maxRecDepth 20000 in
theorem w_2_58 : (Jvm.Cond.fieldLink "AssembleLines$Lines" (67 : Nat) "AssembleLines$Call" "next" "I") ∈ b_Ws := bw_2 (List.mem_of_getElem? (i := 58) rfl) rfl
set_option maxRecDepth 20000 in
theorem w_2_60 : (Jvm.Cond.fieldLink "AssembleLines$Lines" (68 : Nat) "AssembleLines$Call" "until" "I") ∈ b_Ws := bw_2 (List.mem_of_getElem? (i := 60) rfl) rfl
set_option maxRecDepth 20000 in
theorem w_2_84 : (Jvm.Cond.fieldLink "AssembleLines$Lines" (58 : Nat) "AssembleLines$Lines" "from" "I") ∈ b_Ws := bw_2 (List.mem_of_getElem? (i := 84) rfl) rfl
set_option maxRecDepth 20000 in
theorem w_2_86 : (Jvm.Cond.fieldLink "AssembleLines$Lines" (64 : Nat) "AssembleLines$Lines" "to" "I") ∈ b_Ws := bw_2 (List.mem_of_getElem? (i := 86) rfl) rfl
set_option maxRecDepth 20000 in
theorem w_3_107 : (Jvm.Cond.methodLink "AssembleLines$Lines" (28 : Nat) ({ cls := "java/lang/Math", name := "min", desc := "(II)I" } : Jvm.MethodName)) ∈ b_Ws := bw_3 (List.mem_of_getElem? (i := 107) rfl) rfl
set_option maxRecDepth 20000 in
theorem w_3_121 : (Jvm.Cond.methodLink "AssembleLines$Lines" (61 : Nat) ({ cls := "AssembleLines$Lines", name := "lineEnd", desc := "(II)I" } : Jvm.MethodName)) ∈ b_Ws := bw_3 (List.mem_of_getElem? (i := 121) rfl) rfl
set_option maxRecDepth 20000 in
theorem w_3_123 : (Jvm.Cond.instanceMethod ({ cls := "AssembleLines$Lines", name := "lineEnd", desc := "(II)I" } : Jvm.MethodName)) ∈ b_Ws := bw_3 (List.mem_of_getElem? (i := 123) rfl) rfl
set_option maxRecDepth 20000 in
theorem w_3_124 : (Jvm.Cond.code ({ cls := "AssembleLines$Lines", name := "lineEnd", desc := "(II)I" } : Jvm.MethodName) prog_6_method_5_code (4 : Nat) (Option.some Jvm.ClassFile.FieldType.int)) ∈ b_Ws := bw_3 (List.mem_of_getElem? (i := 124) rfl) rfl
set_option maxRecDepth 20000 in
theorem w_3_125 : (Jvm.Cond.methodLink "AssembleLines$Lines" (71 : Nat) ({ cls := "AssembleLines$Lines", name := "putLine", desc := "(LAssembleLines$Call;I)V" } : Jvm.MethodName)) ∈ b_Ws := bw_3 (List.mem_of_getElem? (i := 125) rfl) rfl
set_option maxRecDepth 20000 in
theorem w_3_127 : (Jvm.Cond.instanceMethod ({ cls := "AssembleLines$Lines", name := "putLine", desc := "(LAssembleLines$Call;I)V" } : Jvm.MethodName)) ∈ b_Ws := bw_3 (List.mem_of_getElem? (i := 127) rfl) rfl
set_option maxRecDepth 20000 in
theorem w_3_128 : (Jvm.Cond.code ({ cls := "AssembleLines$Lines", name := "putLine", desc := "(LAssembleLines$Call;I)V" } : Jvm.MethodName) prog_6_method_8_code (7 : Nat) (Option.none : Option Jvm.ClassFile.FieldType)) ∈ b_Ws := bw_3 (List.mem_of_getElem? (i := 128) rfl) rfl
set_option maxRecDepth 20000 in
theorem w_3_129 : (Jvm.Cond.methodLink "AssembleLines$Lines" (80 : Nat) ({ cls := "AssembleLines$Lines", name := "putOperand", desc := "(LAssembleLines$Call;I)V" } : Jvm.MethodName)) ∈ b_Ws := bw_3 (List.mem_of_getElem? (i := 129) rfl) rfl
set_option maxRecDepth 20000 in
theorem w_3_131 : (Jvm.Cond.instanceMethod ({ cls := "AssembleLines$Lines", name := "putOperand", desc := "(LAssembleLines$Call;I)V" } : Jvm.MethodName)) ∈ b_Ws := bw_3 (List.mem_of_getElem? (i := 131) rfl) rfl
set_option maxRecDepth 20000 in
theorem w_3_132 : (Jvm.Cond.code ({ cls := "AssembleLines$Lines", name := "putOperand", desc := "(LAssembleLines$Call;I)V" } : Jvm.MethodName) prog_6_method_9_code (5 : Nat) (Option.none : Option Jvm.ClassFile.FieldType)) ∈ b_Ws := bw_3 (List.mem_of_getElem? (i := 132) rfl) rfl
set_option maxRecDepth 20000 in
theorem w_3_133 : (Jvm.Cond.methodLink "AssembleLines$Lines" (88 : Nat) ({ cls := "AssembleLines$Lines", name := "put", desc := "(B)V" } : Jvm.MethodName)) ∈ b_Ws := bw_3 (List.mem_of_getElem? (i := 133) rfl) rfl
set_option maxRecDepth 20000 in
theorem w_3_135 : (Jvm.Cond.instanceMethod ({ cls := "AssembleLines$Lines", name := "put", desc := "(B)V" } : Jvm.MethodName)) ∈ b_Ws := bw_3 (List.mem_of_getElem? (i := 135) rfl) rfl
set_option maxRecDepth 20000 in
theorem w_3_136 : (Jvm.Cond.code ({ cls := "AssembleLines$Lines", name := "put", desc := "(B)V" } : Jvm.MethodName) prog_6_method_11_code (2 : Nat) (Option.none : Option Jvm.ClassFile.FieldType)) ∈ b_Ws := bw_3 (List.mem_of_getElem? (i := 136) rfl) rfl
set_option maxRecDepth 20000 in
theorem w_3_137 : (Jvm.Cond.methodLink "AssembleLines$Lines" (84 : Nat) ({ cls := "AssembleLines$Lines", name := "putNumber", desc := "(I)V" } : Jvm.MethodName)) ∈ b_Ws := bw_3 (List.mem_of_getElem? (i := 137) rfl) rfl
set_option maxRecDepth 20000 in
theorem w_3_139 : (Jvm.Cond.instanceMethod ({ cls := "AssembleLines$Lines", name := "putNumber", desc := "(I)V" } : Jvm.MethodName)) ∈ b_Ws := bw_3 (List.mem_of_getElem? (i := 139) rfl) rfl
set_option maxRecDepth 20000 in
theorem w_3_140 : (Jvm.Cond.code ({ cls := "AssembleLines$Lines", name := "putNumber", desc := "(I)V" } : Jvm.MethodName) prog_6_method_10_code (3 : Nat) (Option.none : Option Jvm.ClassFile.FieldType)) ∈ b_Ws := bw_3 (List.mem_of_getElem? (i := 140) rfl) rfl
set_option maxRecDepth 20000 in
theorem w_3_141 : (Jvm.Cond.methodLink "AssembleLines$Lines" (75 : Nat) ({ cls := "AssembleLines$Lines", name := "roomFor", desc := "(I)I" } : Jvm.MethodName)) ∈ b_Ws := bw_3 (List.mem_of_getElem? (i := 141) rfl) rfl
set_option maxRecDepth 20000 in
theorem w_3_143 : (Jvm.Cond.instanceMethod ({ cls := "AssembleLines$Lines", name := "roomFor", desc := "(I)I" } : Jvm.MethodName)) ∈ b_Ws := bw_3 (List.mem_of_getElem? (i := 143) rfl) rfl
set_option maxRecDepth 20000 in
theorem w_3_144 : (Jvm.Cond.code ({ cls := "AssembleLines$Lines", name := "roomFor", desc := "(I)I" } : Jvm.MethodName) prog_6_method_7_code (3 : Nat) (Option.some Jvm.ClassFile.FieldType.int)) ∈ b_Ws := bw_3 (List.mem_of_getElem? (i := 144) rfl) rfl
set_option maxRecDepth 20000 in
theorem w_3_145 : (Jvm.Cond.constant "AssembleLines$Lines" (79 : Nat) (2097152 : Int32)) ∈ b_Ws := bw_3 (List.mem_of_getElem? (i := 145) rfl) rfl
theorem dX4_put_0 : decode cX4_put 0 = .ok (.aload_n 0, 1) := by decide +kernel
theorem dX4_put_1 : decode cX4_put 1 = .ok (.getfield 64, 3) := by decide +kernel
theorem dX4_put_4 : decode cX4_put 4 = .ok (.aload_n 0, 1) := by decide +kernel
theorem dX4_put_5 : decode cX4_put 5 = .ok (.getfield 21, 3) := by decide +kernel
theorem dX4_put_8 : decode cX4_put 8 = .ok (.arraylength, 1) := by decide +kernel
theorem dX4_put_9 : decode cX4_put 9 = .ok (.if_icmp .ge 13, 3) := by decide +kernel
theorem dX4_put_12 : decode cX4_put 12 = .ok (.aload_n 0, 1) := by decide +kernel
theorem dX4_put_13 : decode cX4_put 13 = .ok (.getfield 21, 3) := by decide +kernel
theorem dX4_put_16 : decode cX4_put 16 = .ok (.aload_n 0, 1) := by decide +kernel
theorem dX4_put_17 : decode cX4_put 17 = .ok (.getfield 64, 3) := by decide +kernel
theorem dX4_put_20 : decode cX4_put 20 = .ok (.iload_n 1, 1) := by decide +kernel
theorem dX4_put_21 : decode cX4_put 21 = .ok (.bastore, 1) := by decide +kernel
theorem dX4_put_22 : decode cX4_put 22 = .ok (.aload_n 0, 1) := by decide +kernel
theorem dX4_put_23 : decode cX4_put 23 = .ok (.dup, 1) := by decide +kernel
theorem dX4_put_24 : decode cX4_put 24 = .ok (.getfield 64, 3) := by decide +kernel
theorem dX4_put_27 : decode cX4_put 27 = .ok (.iconst 1, 1) := by decide +kernel
theorem dX4_put_28 : decode cX4_put 28 = .ok (.iadd, 1) := by decide +kernel
theorem dX4_put_29 : decode cX4_put 29 = .ok (.putfield 64, 3) := by decide +kernel
theorem dX4_put_32 : decode cX4_put 32 = .ok (.return_, 1) := by decide +kernel
theorem dX4_putNumber_0 : decode cX4_putNumber 0 = .ok (.bipush 100, 2) := by decide +kernel
theorem dX4_putNumber_2 : decode cX4_putNumber 2 = .ok (.istore_n 2, 1) := by decide +kernel
theorem dX4_putNumber_3 : decode cX4_putNumber 3 = .ok (.iload_n 2, 1) := by decide +kernel
theorem dX4_putNumber_4 : decode cX4_putNumber 4 = .ok (.ifCond .le 30, 3) := by decide +kernel
theorem dX4_putNumber_7 : decode cX4_putNumber 7 = .ok (.iload_n 1, 1) := by decide +kernel
theorem dX4_putNumber_8 : decode cX4_putNumber 8 = .ok (.iload_n 2, 1) := by decide +kernel
theorem dX4_putNumber_9 : decode cX4_putNumber 9 = .ok (.if_icmp .lt 17, 3) := by decide +kernel
theorem dX4_putNumber_12 : decode cX4_putNumber 12 = .ok (.aload_n 0, 1) := by decide +kernel
theorem dX4_putNumber_13 : decode cX4_putNumber 13 = .ok (.bipush 48, 2) := by decide +kernel
theorem dX4_putNumber_15 : decode cX4_putNumber 15 = .ok (.iload_n 1, 1) := by decide +kernel
theorem dX4_putNumber_16 : decode cX4_putNumber 16 = .ok (.iload_n 2, 1) := by decide +kernel
theorem dX4_putNumber_17 : decode cX4_putNumber 17 = .ok (.idiv, 1) := by decide +kernel
theorem dX4_putNumber_18 : decode cX4_putNumber 18 = .ok (.bipush 10, 2) := by decide +kernel
theorem dX4_putNumber_20 : decode cX4_putNumber 20 = .ok (.irem, 1) := by decide +kernel
theorem dX4_putNumber_21 : decode cX4_putNumber 21 = .ok (.iadd, 1) := by decide +kernel
theorem dX4_putNumber_22 : decode cX4_putNumber 22 = .ok (.i2b, 1) := by decide +kernel
theorem dX4_putNumber_23 : decode cX4_putNumber 23 = .ok (.invokevirtual 88, 3) := by decide +kernel
theorem dX4_putNumber_26 : decode cX4_putNumber 26 = .ok (.iload_n 2, 1) := by decide +kernel
theorem dX4_putNumber_27 : decode cX4_putNumber 27 = .ok (.bipush 10, 2) := by decide +kernel
theorem dX4_putNumber_29 : decode cX4_putNumber 29 = .ok (.idiv, 1) := by decide +kernel
theorem dX4_putNumber_30 : decode cX4_putNumber 30 = .ok (.istore_n 2, 1) := by decide +kernel
theorem dX4_putNumber_31 : decode cX4_putNumber 31 = .ok (.goto (-28), 3) := by decide +kernel
theorem dX4_putNumber_34 : decode cX4_putNumber 34 = .ok (.return_, 1) := by decide +kernel
theorem dX4_putOperand_0 : decode cX4_putOperand 0 = .ok (.aload_n 1, 1) := by decide +kernel
theorem dX4_putOperand_1 : decode cX4_putOperand 1 = .ok (.getfield 92, 3) := by decide +kernel
theorem dX4_putOperand_4 : decode cX4_putOperand 4 = .ok (.iload_n 2, 1) := by decide +kernel
theorem dX4_putOperand_5 : decode cX4_putOperand 5 = .ok (.iaload, 1) := by decide +kernel
theorem dX4_putOperand_6 : decode cX4_putOperand 6 = .ok (.aload_n 1, 1) := by decide +kernel
theorem dX4_putOperand_7 : decode cX4_putOperand 7 = .ok (.getfield 96, 3) := by decide +kernel
theorem dX4_putOperand_10 : decode cX4_putOperand 10 = .ok (.arraylength, 1) := by decide +kernel
theorem dX4_putOperand_11 : decode cX4_putOperand 11 = .ok (.invokestatic 28, 3) := by decide +kernel
theorem dX4_putOperand_14 : decode cX4_putOperand 14 = .ok (.istore_n 3, 1) := by decide +kernel
theorem dX4_putOperand_15 : decode cX4_putOperand 15 = .ok (.aload_n 1, 1) := by decide +kernel
theorem dX4_putOperand_16 : decode cX4_putOperand 16 = .ok (.getfield 99, 3) := by decide +kernel
theorem dX4_putOperand_19 : decode cX4_putOperand 19 = .ok (.iload_n 2, 1) := by decide +kernel
theorem dX4_putOperand_20 : decode cX4_putOperand 20 = .ok (.iaload, 1) := by decide +kernel
theorem dX4_putOperand_21 : decode cX4_putOperand 21 = .ok (.istore 4, 2) := by decide +kernel
theorem dX4_putOperand_23 : decode cX4_putOperand 23 = .ok (.iload 4, 2) := by decide +kernel
theorem dX4_putOperand_25 : decode cX4_putOperand 25 = .ok (.iload_n 3, 1) := by decide +kernel
theorem dX4_putOperand_26 : decode cX4_putOperand 26 = .ok (.if_icmp .ge 20, 3) := by decide +kernel
theorem dX4_putOperand_29 : decode cX4_putOperand 29 = .ok (.aload_n 0, 1) := by decide +kernel
theorem dX4_putOperand_30 : decode cX4_putOperand 30 = .ok (.aload_n 1, 1) := by decide +kernel
theorem dX4_putOperand_31 : decode cX4_putOperand 31 = .ok (.getfield 96, 3) := by decide +kernel
theorem dX4_putOperand_34 : decode cX4_putOperand 34 = .ok (.iload 4, 2) := by decide +kernel
theorem dX4_putOperand_36 : decode cX4_putOperand 36 = .ok (.baload, 1) := by decide +kernel
theorem dX4_putOperand_37 : decode cX4_putOperand 37 = .ok (.invokevirtual 88, 3) := by decide +kernel
theorem dX4_putOperand_40 : decode cX4_putOperand 40 = .ok (.iinc 4 1, 3) := by decide +kernel
theorem dX4_putOperand_43 : decode cX4_putOperand 43 = .ok (.goto (-20), 3) := by decide +kernel
theorem dX4_putOperand_46 : decode cX4_putOperand 46 = .ok (.return_, 1) := by decide +kernel
theorem dX4_lineEnd_0 : decode cX4_lineEnd 0 = .ok (.iload_n 1, 1) := by decide +kernel
theorem dX4_lineEnd_1 : decode cX4_lineEnd 1 = .ok (.istore_n 3, 1) := by decide +kernel
theorem dX4_lineEnd_2 : decode cX4_lineEnd 2 = .ok (.iload_n 3, 1) := by decide +kernel
theorem dX4_lineEnd_3 : decode cX4_lineEnd 3 = .ok (.iload_n 2, 1) := by decide +kernel
theorem dX4_lineEnd_4 : decode cX4_lineEnd 4 = .ok (.if_icmp .ge 29, 3) := by decide +kernel
theorem dX4_lineEnd_7 : decode cX4_lineEnd 7 = .ok (.iload_n 3, 1) := by decide +kernel
theorem dX4_lineEnd_8 : decode cX4_lineEnd 8 = .ok (.aload_n 0, 1) := by decide +kernel
theorem dX4_lineEnd_9 : decode cX4_lineEnd 9 = .ok (.getfield 17, 3) := by decide +kernel
theorem dX4_lineEnd_12 : decode cX4_lineEnd 12 = .ok (.arraylength, 1) := by decide +kernel
theorem dX4_lineEnd_13 : decode cX4_lineEnd 13 = .ok (.if_icmp .ge 20, 3) := by decide +kernel
theorem dX4_lineEnd_16 : decode cX4_lineEnd 16 = .ok (.aload_n 0, 1) := by decide +kernel
theorem dX4_lineEnd_17 : decode cX4_lineEnd 17 = .ok (.getfield 17, 3) := by decide +kernel
theorem dX4_lineEnd_20 : decode cX4_lineEnd 20 = .ok (.iload_n 3, 1) := by decide +kernel
theorem dX4_lineEnd_21 : decode cX4_lineEnd 21 = .ok (.baload, 1) := by decide +kernel
theorem dX4_lineEnd_22 : decode cX4_lineEnd 22 = .ok (.bipush 10, 2) := by decide +kernel
theorem dX4_lineEnd_24 : decode cX4_lineEnd 24 = .ok (.if_icmp .eq 9, 3) := by decide +kernel
theorem dX4_lineEnd_27 : decode cX4_lineEnd 27 = .ok (.iinc 3 1, 3) := by decide +kernel
theorem dX4_lineEnd_30 : decode cX4_lineEnd 30 = .ok (.goto (-28), 3) := by decide +kernel
theorem dX4_lineEnd_33 : decode cX4_lineEnd 33 = .ok (.iload_n 3, 1) := by decide +kernel
theorem dX4_lineEnd_34 : decode cX4_lineEnd 34 = .ok (.ireturn, 1) := by decide +kernel
theorem dX4_roomFor_0 : decode cX4_roomFor 0 = .ok (.aload_n 0, 1) := by decide +kernel
theorem dX4_roomFor_1 : decode cX4_roomFor 1 = .ok (.getfield 21, 3) := by decide +kernel
theorem dX4_roomFor_4 : decode cX4_roomFor 4 = .ok (.arraylength, 1) := by decide +kernel
theorem dX4_roomFor_5 : decode cX4_roomFor 5 = .ok (.istore_n 2, 1) := by decide +kernel
theorem dX4_roomFor_6 : decode cX4_roomFor 6 = .ok (.iload_n 2, 1) := by decide +kernel
theorem dX4_roomFor_7 : decode cX4_roomFor 7 = .ok (.iload_n 1, 1) := by decide +kernel
theorem dX4_roomFor_8 : decode cX4_roomFor 8 = .ok (.if_icmp .ge 16, 3) := by decide +kernel
theorem dX4_roomFor_11 : decode cX4_roomFor 11 = .ok (.iload_n 2, 1) := by decide +kernel
theorem dX4_roomFor_12 : decode cX4_roomFor 12 = .ok (.ldc 79, 2) := by decide +kernel
theorem dX4_roomFor_14 : decode cX4_roomFor 14 = .ok (.if_icmp .ge 10, 3) := by decide +kernel
theorem dX4_roomFor_17 : decode cX4_roomFor 17 = .ok (.iload_n 2, 1) := by decide +kernel
theorem dX4_roomFor_18 : decode cX4_roomFor 18 = .ok (.iconst 2, 1) := by decide +kernel
theorem dX4_roomFor_19 : decode cX4_roomFor 19 = .ok (.imul, 1) := by decide +kernel
theorem dX4_roomFor_20 : decode cX4_roomFor 20 = .ok (.istore_n 2, 1) := by decide +kernel
theorem dX4_roomFor_21 : decode cX4_roomFor 21 = .ok (.goto (-15), 3) := by decide +kernel
theorem dX4_roomFor_24 : decode cX4_roomFor 24 = .ok (.iload_n 2, 1) := by decide +kernel
theorem dX4_roomFor_25 : decode cX4_roomFor 25 = .ok (.ireturn, 1) := by decide +kernel
theorem dX4_putLine_0 : decode cX4_putLine 0 = .ok (.aload_n 0, 1) := by decide +kernel
theorem dX4_putLine_1 : decode cX4_putLine 1 = .ok (.iconst 0, 1) := by decide +kernel
theorem dX4_putLine_2 : decode cX4_putLine 2 = .ok (.putfield 58, 3) := by decide +kernel
theorem dX4_putLine_5 : decode cX4_putLine 5 = .ok (.aload_n 0, 1) := by decide +kernel
theorem dX4_putLine_6 : decode cX4_putLine 6 = .ok (.iconst 0, 1) := by decide +kernel
theorem dX4_putLine_7 : decode cX4_putLine 7 = .ok (.putfield 64, 3) := by decide +kernel
theorem dX4_putLine_10 : decode cX4_putLine 10 = .ok (.aload_n 1, 1) := by decide +kernel
theorem dX4_putLine_11 : decode cX4_putLine 11 = .ok (.getfield 67, 3) := by decide +kernel
theorem dX4_putLine_14 : decode cX4_putLine 14 = .ok (.istore_n 3, 1) := by decide +kernel
theorem dX4_putLine_15 : decode cX4_putLine 15 = .ok (.iload_n 3, 1) := by decide +kernel
theorem dX4_putLine_16 : decode cX4_putLine 16 = .ok (.iload_n 2, 1) := by decide +kernel
theorem dX4_putLine_17 : decode cX4_putLine 17 = .ok (.if_icmp .ge 146, 3) := by decide +kernel
theorem dX4_putLine_20 : decode cX4_putLine 20 = .ok (.iload_n 3, 1) := by decide +kernel
theorem dX4_putLine_21 : decode cX4_putLine 21 = .ok (.iconst 1, 1) := by decide +kernel
theorem dX4_putLine_22 : decode cX4_putLine 22 = .ok (.iadd, 1) := by decide +kernel
theorem dX4_putLine_23 : decode cX4_putLine 23 = .ok (.iload_n 2, 1) := by decide +kernel
theorem dX4_putLine_24 : decode cX4_putLine 24 = .ok (.if_icmp .ge 14, 3) := by decide +kernel
theorem dX4_putLine_27 : decode cX4_putLine 27 = .ok (.aload_n 0, 1) := by decide +kernel
theorem dX4_putLine_28 : decode cX4_putLine 28 = .ok (.getfield 17, 3) := by decide +kernel
theorem dX4_putLine_31 : decode cX4_putLine 31 = .ok (.iload_n 3, 1) := by decide +kernel
theorem dX4_putLine_32 : decode cX4_putLine 32 = .ok (.iconst 1, 1) := by decide +kernel
theorem dX4_putLine_33 : decode cX4_putLine 33 = .ok (.iadd, 1) := by decide +kernel
theorem dX4_putLine_34 : decode cX4_putLine 34 = .ok (.baload, 1) := by decide +kernel
theorem dX4_putLine_35 : decode cX4_putLine 35 = .ok (.goto 4, 3) := by decide +kernel
theorem dX4_putLine_38 : decode cX4_putLine 38 = .ok (.iconst (-1), 1) := by decide +kernel
theorem dX4_putLine_39 : decode cX4_putLine 39 = .ok (.istore 4, 2) := by decide +kernel
theorem dX4_putLine_41 : decode cX4_putLine 41 = .ok (.aload_n 0, 1) := by decide +kernel
theorem dX4_putLine_42 : decode cX4_putLine 42 = .ok (.getfield 17, 3) := by decide +kernel
theorem dX4_putLine_45 : decode cX4_putLine 45 = .ok (.iload_n 3, 1) := by decide +kernel
theorem dX4_putLine_46 : decode cX4_putLine 46 = .ok (.baload, 1) := by decide +kernel
theorem dX4_putLine_47 : decode cX4_putLine 47 = .ok (.bipush 38, 2) := by decide +kernel
theorem dX4_putLine_49 : decode cX4_putLine 49 = .ok (.if_icmp .ne 21, 3) := by decide +kernel
theorem dX4_putLine_52 : decode cX4_putLine 52 = .ok (.iload 4, 2) := by decide +kernel
theorem dX4_putLine_54 : decode cX4_putLine 54 = .ok (.bipush 48, 2) := by decide +kernel
theorem dX4_putLine_56 : decode cX4_putLine 56 = .ok (.if_icmp .lt 14, 3) := by decide +kernel
theorem dX4_putLine_59 : decode cX4_putLine 59 = .ok (.iload 4, 2) := by decide +kernel
theorem dX4_putLine_61 : decode cX4_putLine 61 = .ok (.bipush 51, 2) := by decide +kernel
theorem dX4_putLine_63 : decode cX4_putLine 63 = .ok (.if_icmp .gt 7, 3) := by decide +kernel
theorem dX4_putLine_66 : decode cX4_putLine 66 = .ok (.iconst 1, 1) := by decide +kernel
theorem dX4_putLine_67 : decode cX4_putLine 67 = .ok (.goto 4, 3) := by decide +kernel
theorem dX4_putLine_70 : decode cX4_putLine 70 = .ok (.iconst 0, 1) := by decide +kernel
theorem dX4_putLine_71 : decode cX4_putLine 71 = .ok (.istore 5, 2) := by decide +kernel
theorem dX4_putLine_73 : decode cX4_putLine 73 = .ok (.aload_n 0, 1) := by decide +kernel
theorem dX4_putLine_74 : decode cX4_putLine 74 = .ok (.getfield 17, 3) := by decide +kernel
theorem dX4_putLine_77 : decode cX4_putLine 77 = .ok (.iload_n 3, 1) := by decide +kernel
theorem dX4_putLine_78 : decode cX4_putLine 78 = .ok (.baload, 1) := by decide +kernel
theorem dX4_putLine_79 : decode cX4_putLine 79 = .ok (.bipush 38, 2) := by decide +kernel
theorem dX4_putLine_81 : decode cX4_putLine 81 = .ok (.if_icmp .ne 14, 3) := by decide +kernel
theorem dX4_putLine_84 : decode cX4_putLine 84 = .ok (.iload 4, 2) := by decide +kernel
theorem dX4_putLine_86 : decode cX4_putLine 86 = .ok (.bipush 110, 2) := by decide +kernel
theorem dX4_putLine_88 : decode cX4_putLine 88 = .ok (.if_icmp .ne 7, 3) := by decide +kernel
theorem dX4_putLine_91 : decode cX4_putLine 91 = .ok (.iconst 1, 1) := by decide +kernel
theorem dX4_putLine_92 : decode cX4_putLine 92 = .ok (.goto 4, 3) := by decide +kernel
theorem dX4_putLine_95 : decode cX4_putLine 95 = .ok (.iconst 0, 1) := by decide +kernel
theorem dX4_putLine_96 : decode cX4_putLine 96 = .ok (.istore 6, 2) := by decide +kernel
theorem dX4_putLine_98 : decode cX4_putLine 98 = .ok (.iload 5, 2) := by decide +kernel
theorem dX4_putLine_100 : decode cX4_putLine 100 = .ok (.ifCond .eq 16, 3) := by decide +kernel
theorem dX4_putLine_103 : decode cX4_putLine 103 = .ok (.aload_n 0, 1) := by decide +kernel
theorem dX4_putLine_104 : decode cX4_putLine 104 = .ok (.aload_n 1, 1) := by decide +kernel
theorem dX4_putLine_105 : decode cX4_putLine 105 = .ok (.iload 4, 2) := by decide +kernel
theorem dX4_putLine_107 : decode cX4_putLine 107 = .ok (.bipush 48, 2) := by decide +kernel
theorem dX4_putLine_109 : decode cX4_putLine 109 = .ok (.isub, 1) := by decide +kernel
theorem dX4_putLine_110 : decode cX4_putLine 110 = .ok (.invokevirtual 80, 3) := by decide +kernel
theorem dX4_putLine_113 : decode cX4_putLine 113 = .ok (.goto 29, 3) := by decide +kernel
theorem dX4_putLine_116 : decode cX4_putLine 116 = .ok (.iload 6, 2) := by decide +kernel
theorem dX4_putLine_118 : decode cX4_putLine 118 = .ok (.ifCond .eq 14, 3) := by decide +kernel
theorem dX4_putLine_121 : decode cX4_putLine 121 = .ok (.aload_n 0, 1) := by decide +kernel
theorem dX4_putLine_122 : decode cX4_putLine 122 = .ok (.aload_n 1, 1) := by decide +kernel
theorem dX4_putLine_123 : decode cX4_putLine 123 = .ok (.getfield 83, 3) := by decide +kernel
theorem dX4_putLine_126 : decode cX4_putLine 126 = .ok (.invokevirtual 84, 3) := by decide +kernel
theorem dX4_putLine_129 : decode cX4_putLine 129 = .ok (.goto 13, 3) := by decide +kernel
theorem dX4_putLine_132 : decode cX4_putLine 132 = .ok (.aload_n 0, 1) := by decide +kernel
theorem dX4_putLine_133 : decode cX4_putLine 133 = .ok (.aload_n 0, 1) := by decide +kernel
theorem dX4_putLine_134 : decode cX4_putLine 134 = .ok (.getfield 17, 3) := by decide +kernel
theorem dX4_putLine_137 : decode cX4_putLine 137 = .ok (.iload_n 3, 1) := by decide +kernel
theorem dX4_putLine_138 : decode cX4_putLine 138 = .ok (.baload, 1) := by decide +kernel
theorem dX4_putLine_139 : decode cX4_putLine 139 = .ok (.invokevirtual 88, 3) := by decide +kernel
theorem dX4_putLine_142 : decode cX4_putLine 142 = .ok (.iload_n 3, 1) := by decide +kernel
theorem dX4_putLine_143 : decode cX4_putLine 143 = .ok (.iload 5, 2) := by decide +kernel
theorem dX4_putLine_145 : decode cX4_putLine 145 = .ok (.ifCond .ne 8, 3) := by decide +kernel
theorem dX4_putLine_148 : decode cX4_putLine 148 = .ok (.iload 6, 2) := by decide +kernel
theorem dX4_putLine_150 : decode cX4_putLine 150 = .ok (.ifCond .eq 7, 3) := by decide +kernel
theorem dX4_putLine_153 : decode cX4_putLine 153 = .ok (.iconst 2, 1) := by decide +kernel
theorem dX4_putLine_154 : decode cX4_putLine 154 = .ok (.goto 4, 3) := by decide +kernel
theorem dX4_putLine_157 : decode cX4_putLine 157 = .ok (.iconst 1, 1) := by decide +kernel
theorem dX4_putLine_158 : decode cX4_putLine 158 = .ok (.iadd, 1) := by decide +kernel
theorem dX4_putLine_159 : decode cX4_putLine 159 = .ok (.istore_n 3, 1) := by decide +kernel
theorem dX4_putLine_160 : decode cX4_putLine 160 = .ok (.goto (-145), 3) := by decide +kernel
theorem dX4_putLine_163 : decode cX4_putLine 163 = .ok (.return_, 1) := by decide +kernel
theorem dX4_putTogether_0 : decode cX4_putTogether 0 = .ok (.aload_n 0, 1) := by decide +kernel
theorem dX4_putTogether_1 : decode cX4_putTogether 1 = .ok (.aload_n 1, 1) := by decide +kernel
theorem dX4_putTogether_2 : decode cX4_putTogether 2 = .ok (.getfield 67, 3) := by decide +kernel
theorem dX4_putTogether_5 : decode cX4_putTogether 5 = .ok (.aload_n 1, 1) := by decide +kernel
theorem dX4_putTogether_6 : decode cX4_putTogether 6 = .ok (.getfield 68, 3) := by decide +kernel
theorem dX4_putTogether_9 : decode cX4_putTogether 9 = .ok (.invokevirtual 61, 3) := by decide +kernel
theorem dX4_putTogether_12 : decode cX4_putTogether 12 = .ok (.istore_n 2, 1) := by decide +kernel
theorem dX4_putTogether_13 : decode cX4_putTogether 13 = .ok (.aload_n 0, 1) := by decide +kernel
theorem dX4_putTogether_14 : decode cX4_putTogether 14 = .ok (.aload_n 1, 1) := by decide +kernel
theorem dX4_putTogether_15 : decode cX4_putTogether 15 = .ok (.iload_n 2, 1) := by decide +kernel
theorem dX4_putTogether_16 : decode cX4_putTogether 16 = .ok (.invokevirtual 71, 3) := by decide +kernel
theorem dX4_putTogether_19 : decode cX4_putTogether 19 = .ok (.aload_n 0, 1) := by decide +kernel
theorem dX4_putTogether_20 : decode cX4_putTogether 20 = .ok (.getfield 64, 3) := by decide +kernel
theorem dX4_putTogether_23 : decode cX4_putTogether 23 = .ok (.aload_n 0, 1) := by decide +kernel
theorem dX4_putTogether_24 : decode cX4_putTogether 24 = .ok (.getfield 21, 3) := by decide +kernel
theorem dX4_putTogether_27 : decode cX4_putTogether 27 = .ok (.arraylength, 1) := by decide +kernel
theorem dX4_putTogether_28 : decode cX4_putTogether 28 = .ok (.if_icmp .le 23, 3) := by decide +kernel
theorem dX4_putTogether_31 : decode cX4_putTogether 31 = .ok (.aload_n 0, 1) := by decide +kernel
theorem dX4_putTogether_32 : decode cX4_putTogether 32 = .ok (.aload_n 0, 1) := by decide +kernel
theorem dX4_putTogether_33 : decode cX4_putTogether 33 = .ok (.aload_n 0, 1) := by decide +kernel
theorem dX4_putTogether_34 : decode cX4_putTogether 34 = .ok (.getfield 64, 3) := by decide +kernel
theorem dX4_putTogether_37 : decode cX4_putTogether 37 = .ok (.invokevirtual 75, 3) := by decide +kernel
theorem dX4_putTogether_40 : decode cX4_putTogether 40 = .ok (.newarray .byte, 2) := by decide +kernel
theorem dX4_putTogether_42 : decode cX4_putTogether 42 = .ok (.putfield 21, 3) := by decide +kernel
theorem dX4_putTogether_45 : decode cX4_putTogether 45 = .ok (.aload_n 0, 1) := by decide +kernel
theorem dX4_putTogether_46 : decode cX4_putTogether 46 = .ok (.aload_n 1, 1) := by decide +kernel
theorem dX4_putTogether_47 : decode cX4_putTogether 47 = .ok (.iload_n 2, 1) := by decide +kernel
theorem dX4_putTogether_48 : decode cX4_putTogether 48 = .ok (.invokevirtual 71, 3) := by decide +kernel
theorem dX4_putTogether_51 : decode cX4_putTogether 51 = .ok (.aload_n 0, 1) := by decide +kernel
theorem dX4_putTogether_52 : decode cX4_putTogether 52 = .ok (.aload_n 0, 1) := by decide +kernel
theorem dX4_putTogether_53 : decode cX4_putTogether 53 = .ok (.getfield 64, 3) := by decide +kernel
theorem dX4_putTogether_56 : decode cX4_putTogether 56 = .ok (.aload_n 0, 1) := by decide +kernel
theorem dX4_putTogether_57 : decode cX4_putTogether 57 = .ok (.getfield 21, 3) := by decide +kernel
theorem dX4_putTogether_60 : decode cX4_putTogether 60 = .ok (.arraylength, 1) := by decide +kernel
theorem dX4_putTogether_61 : decode cX4_putTogether 61 = .ok (.invokestatic 28, 3) := by decide +kernel
theorem dX4_putTogether_64 : decode cX4_putTogether 64 = .ok (.putfield 64, 3) := by decide +kernel
theorem dX4_putTogether_67 : decode cX4_putTogether 67 = .ok (.aload_n 1, 1) := by decide +kernel
theorem dX4_putTogether_68 : decode cX4_putTogether 68 = .ok (.iload_n 2, 1) := by decide +kernel
theorem dX4_putTogether_69 : decode cX4_putTogether 69 = .ok (.iconst 1, 1) := by decide +kernel
theorem dX4_putTogether_70 : decode cX4_putTogether 70 = .ok (.iadd, 1) := by decide +kernel
theorem dX4_putTogether_71 : decode cX4_putTogether 71 = .ok (.putfield 67, 3) := by decide +kernel
theorem dX4_putTogether_74 : decode cX4_putTogether 74 = .ok (.aload_n 0, 1) := by decide +kernel
theorem dX4_putTogether_75 : decode cX4_putTogether 75 = .ok (.aload_n 0, 1) := by decide +kernel
theorem dX4_putTogether_76 : decode cX4_putTogether 76 = .ok (.getfield 21, 3) := by decide +kernel
theorem dX4_putTogether_79 : decode cX4_putTogether 79 = .ok (.putfield 24, 3) := by decide +kernel
theorem dX4_putTogether_82 : decode cX4_putTogether 82 = .ok (.return_, 1) := by decide +kernel

