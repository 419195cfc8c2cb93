set_option maxRecDepth 20000 in
theorem w_1_236 : (Jvm.Cond.fieldLink "AssembleLines$Call" (40 : Nat) "AssembleLines$Scanner" "wordFrom" "I") ∈ b_Ws := bw_1 (List.mem_of_getElem? (i := 236) rfl) rfl
set_option maxRecDepth 20000 in
theorem w_1_238 : (Jvm.Cond.fieldLink "AssembleLines$Call" (44 : Nat) "AssembleLines$Scanner" "wordTo" "I") ∈ b_Ws := bw_1 (List.mem_of_getElem? (i := 238) rfl) rfl
set_option maxRecDepth 20000 in
theorem w_2_55 : (Jvm.Cond.fieldLink "AssembleLines$Call" (51 : Nat) "AssembleLines$Call" "number" "I") ∈ b_Ws := bw_2 (List.mem_of_getElem? (i := 55) rfl) rfl
set_option maxRecDepth 20000 in
theorem w_2_57 : (Jvm.Cond.fieldLink "AssembleLines$Call" (54 : Nat) "AssembleLines$Call" "next" "I") ∈ b_Ws := bw_2 (List.mem_of_getElem? (i := 57) rfl) rfl
set_option maxRecDepth 20000 in
theorem w_2_59 : (Jvm.Cond.fieldLink "AssembleLines$Call" (57 : Nat) "AssembleLines$Call" "until" "I") ∈ b_Ws := bw_2 (List.mem_of_getElem? (i := 59) rfl) rfl
set_option maxRecDepth 20000 in
theorem w_4_31 : (Jvm.Cond.instanceMethod ({ cls := "AssembleLines$Scanner", name := "isAtEnd", desc := "()Z" } : Jvm.MethodName)) ∈ b_Ws := bw_4 (List.mem_of_getElem? (i := 31) rfl) rfl
set_option maxRecDepth 20000 in
theorem w_4_32 : (Jvm.Cond.selects "AssembleLines$Scanner" ({ cls := "AssembleLines$Scanner", name := "isAtEnd", desc := "()Z" } : Jvm.MethodName) ({ cls := "AssembleLines$Scanner", name := "isAtEnd", desc := "()Z" } : Jvm.MethodName)) ∈ b_Ws := bw_4 (List.mem_of_getElem? (i := 32) rfl) rfl
set_option maxRecDepth 20000 in
theorem w_4_33 : (Jvm.Cond.code ({ cls := "AssembleLines$Scanner", name := "isAtEnd", desc := "()Z" } : Jvm.MethodName) prog_11_method_6_code (1 : Nat) (Option.some Jvm.ClassFile.FieldType.boolean)) ∈ b_Ws := bw_4 (List.mem_of_getElem? (i := 33) rfl) rfl
set_option maxRecDepth 20000 in
theorem w_4_83 : (Jvm.Cond.methodLink "AssembleLines$Call" (25 : Nat) ({ cls := "java/util/Arrays", name := "fill", desc := "([II)V" } : Jvm.MethodName)) ∈ b_Ws := bw_4 (List.mem_of_getElem? (i := 83) rfl) rfl
set_option maxRecDepth 20000 in
theorem w_4_84 : (Jvm.Cond.methodLink "AssembleLines$Call" (31 : Nat) ({ cls := "AssembleLines$Scanner", name := "isAtEnd", desc := "()Z" } : Jvm.MethodName)) ∈ b_Ws := bw_4 (List.mem_of_getElem? (i := 84) rfl) rfl
set_option maxRecDepth 20000 in
theorem w_4_85 : (Jvm.Cond.methodLink "AssembleLines$Call" (37 : Nat) ({ cls := "AssembleLines$Scanner", name := "readOperand", desc := "()V" } : Jvm.MethodName)) ∈ b_Ws := bw_4 (List.mem_of_getElem? (i := 85) rfl) rfl
set_option maxRecDepth 20000 in
theorem w_4_86 : (Jvm.Cond.instanceMethod ({ cls := "AssembleLines$Scanner", name := "readOperand", desc := "()V" } : Jvm.MethodName)) ∈ b_Ws := bw_4 (List.mem_of_getElem? (i := 86) rfl) rfl
set_option maxRecDepth 20000 in
theorem w_4_87 : (Jvm.Cond.selects "AssembleLines$Scanner" ({ cls := "AssembleLines$Scanner", name := "readOperand", desc := "()V" } : Jvm.MethodName) ({ cls := "AssembleLines$Scanner", name := "readOperand", desc := "()V" } : Jvm.MethodName)) ∈ b_Ws := bw_4 (List.mem_of_getElem? (i := 87) rfl) rfl
set_option maxRecDepth 20000 in
theorem w_4_88 : (Jvm.Cond.code ({ cls := "AssembleLines$Scanner", name := "readOperand", desc := "()V" } : Jvm.MethodName) prog_11_method_15_code (1 : Nat) (Option.none : Option Jvm.ClassFile.FieldType)) ∈ b_Ws := bw_4 (List.mem_of_getElem? (i := 88) rfl) rfl
set_option maxRecDepth 20000 in
theorem w_4_89 : (Jvm.Cond.methodLink "AssembleLines$Call" (47 : Nat) ({ cls := "AssembleLines$Scanner", name := "takes", desc := "(C)Z" } : Jvm.MethodName)) ∈ b_Ws := bw_4 (List.mem_of_getElem? (i := 89) rfl) rfl
set_option maxRecDepth 20000 in
theorem w_5_3 : (Jvm.Cond.methodLink "AssembleLines$Call" (60 : Nat) ({ cls := "java/lang/Math", name := "min", desc := "(II)I" } : Jvm.MethodName)) ∈ b_Ws := bw_5 (List.mem_of_getElem? (i := 3) rfl) rfl
set_option maxRecDepth 20000 in
theorem w_5_4 : (Jvm.Cond.methodLink "AssembleLines$Call" (66 : Nat) ({ cls := "java/lang/Math", name := "max", desc := "(II)I" } : Jvm.MethodName)) ∈ b_Ws := bw_5 (List.mem_of_getElem? (i := 4) rfl) rfl
set_option maxRecDepth 20000 in
theorem w_5_5 : (Jvm.Cond.static ({ cls := "java/lang/Math", name := "max", desc := "(II)I" } : Jvm.MethodName)) ∈ b_Ws := bw_5 (List.mem_of_getElem? (i := 5) rfl) rfl
set_option maxRecDepth 20000 in
theorem w_5_6 : (Jvm.Cond.code ({ cls := "java/lang/Math", name := "max", desc := "(II)I" } : Jvm.MethodName) prog_22_method_65_code (2 : Nat) (Option.some Jvm.ClassFile.FieldType.int)) ∈ b_Ws := bw_5 (List.mem_of_getElem? (i := 6) rfl) rfl
set_option maxRecDepth 20000 in
theorem w_5_7 : (Jvm.Cond.methodLink "AssembleLines$Call" (69 : Nat) ({ cls := "java/lang/System", name := "arraycopy", desc := "(Ljava/lang/Object;ILjava/lang/Object;II)V" } : Jvm.MethodName)) ∈ b_Ws := bw_5 (List.mem_of_getElem? (i := 7) rfl) rfl
theorem dX1_isDone_0 : decode cX1_isDone 0 = .ok (.aload_n 0, 1) := by decide +kernel
theorem dX1_isDone_1 : decode cX1_isDone 1 = .ok (.getfield 54, 3) := by decide +kernel
theorem dX1_isDone_4 : decode cX1_isDone 4 = .ok (.aload_n 0, 1) := by decide +kernel
theorem dX1_isDone_5 : decode cX1_isDone 5 = .ok (.getfield 57, 3) := by decide +kernel
theorem dX1_isDone_8 : decode cX1_isDone 8 = .ok (.if_icmp .lt 7, 3) := by decide +kernel
theorem dX1_isDone_11 : decode cX1_isDone 11 = .ok (.iconst 1, 1) := by decide +kernel
theorem dX1_isDone_12 : decode cX1_isDone 12 = .ok (.goto 4, 3) := by decide +kernel
theorem dX1_isDone_15 : decode cX1_isDone 15 = .ok (.iconst 0, 1) := by decide +kernel
theorem dX1_isDone_16 : decode cX1_isDone 16 = .ok (.ireturn, 1) := by decide +kernel
theorem dX1_begin_0 : decode cX1_begin 0 = .ok (.aload_n 0, 1) := by decide +kernel
theorem dX1_begin_1 : decode cX1_begin 1 = .ok (.iload_n 1, 1) := by decide +kernel
theorem dX1_begin_2 : decode cX1_begin 2 = .ok (.putfield 51, 3) := by decide +kernel
theorem dX1_begin_5 : decode cX1_begin 5 = .ok (.aload_n 0, 1) := by decide +kernel
theorem dX1_begin_6 : decode cX1_begin 6 = .ok (.iload_n 2, 1) := by decide +kernel
theorem dX1_begin_7 : decode cX1_begin 7 = .ok (.putfield 54, 3) := by decide +kernel
theorem dX1_begin_10 : decode cX1_begin 10 = .ok (.aload_n 0, 1) := by decide +kernel
theorem dX1_begin_11 : decode cX1_begin 11 = .ok (.iload_n 3, 1) := by decide +kernel
theorem dX1_begin_12 : decode cX1_begin 12 = .ok (.putfield 57, 3) := by decide +kernel
theorem dX1_begin_15 : decode cX1_begin 15 = .ok (.return_, 1) := by decide +kernel
theorem dX1_readFrom_0 : decode cX1_readFrom 0 = .ok (.aload_n 0, 1) := by decide +kernel
theorem dX1_readFrom_1 : decode cX1_readFrom 1 = .ok (.aload_n 1, 1) := by decide +kernel
theorem dX1_readFrom_2 : decode cX1_readFrom 2 = .ok (.putfield 15, 3) := by decide +kernel
theorem dX1_readFrom_5 : decode cX1_readFrom 5 = .ok (.return_, 1) := by decide +kernel
theorem dX1_keep_0 : decode cX1_keep 0 = .ok (.iload_n 2, 1) := by decide +kernel
theorem dX1_keep_1 : decode cX1_keep 1 = .ok (.aload_n 0, 1) := by decide +kernel
theorem dX1_keep_2 : decode cX1_keep 2 = .ok (.getfield 9, 3) := by decide +kernel
theorem dX1_keep_5 : decode cX1_keep 5 = .ok (.arraylength, 1) := by decide +kernel
theorem dX1_keep_6 : decode cX1_keep 6 = .ok (.invokestatic 60, 3) := by decide +kernel
theorem dX1_keep_9 : decode cX1_keep 9 = .ok (.aload_n 1, 1) := by decide +kernel
theorem dX1_keep_10 : decode cX1_keep 10 = .ok (.arraylength, 1) := by decide +kernel
theorem dX1_keep_11 : decode cX1_keep 11 = .ok (.invokestatic 60, 3) := by decide +kernel
theorem dX1_keep_14 : decode cX1_keep 14 = .ok (.istore_n 3, 1) := by decide +kernel
theorem dX1_keep_15 : decode cX1_keep 15 = .ok (.aload_n 1, 1) := by decide +kernel
theorem dX1_keep_16 : decode cX1_keep 16 = .ok (.iconst 0, 1) := by decide +kernel
theorem dX1_keep_17 : decode cX1_keep 17 = .ok (.aload_n 0, 1) := by decide +kernel
theorem dX1_keep_18 : decode cX1_keep 18 = .ok (.getfield 9, 3) := by decide +kernel
theorem dX1_keep_21 : decode cX1_keep 21 = .ok (.iconst 0, 1) := by decide +kernel
theorem dX1_keep_22 : decode cX1_keep 22 = .ok (.iload_n 3, 1) := by decide +kernel
theorem dX1_keep_23 : decode cX1_keep 23 = .ok (.iconst 0, 1) := by decide +kernel
theorem dX1_keep_24 : decode cX1_keep 24 = .ok (.invokestatic 66, 3) := by decide +kernel
theorem dX1_keep_27 : decode cX1_keep 27 = .ok (.invokestatic 69, 3) := by decide +kernel
theorem dX1_keep_30 : decode cX1_keep 30 = .ok (.aload_n 0, 1) := by decide +kernel
theorem dX1_keep_31 : decode cX1_keep 31 = .ok (.aload_n 0, 1) := by decide +kernel
theorem dX1_keep_32 : decode cX1_keep 32 = .ok (.getfield 9, 3) := by decide +kernel
theorem dX1_keep_35 : decode cX1_keep 35 = .ok (.putfield 15, 3) := by decide +kernel
theorem dX1_keep_38 : decode cX1_keep 38 = .ok (.return_, 1) := by decide +kernel
theorem dX1_readOperands_0 : decode cX1_readOperands 0 = .ok (.aload_n 0, 1) := by decide +kernel
theorem dX1_readOperands_1 : decode cX1_readOperands 1 = .ok (.getfield 18, 3) := by decide +kernel
theorem dX1_readOperands_4 : decode cX1_readOperands 4 = .ok (.iconst 0, 1) := by decide +kernel
theorem dX1_readOperands_5 : decode cX1_readOperands 5 = .ok (.invokestatic 25, 3) := by decide +kernel
theorem dX1_readOperands_8 : decode cX1_readOperands 8 = .ok (.aload_n 0, 1) := by decide +kernel
theorem dX1_readOperands_9 : decode cX1_readOperands 9 = .ok (.getfield 22, 3) := by decide +kernel
theorem dX1_readOperands_12 : decode cX1_readOperands 12 = .ok (.iconst 0, 1) := by decide +kernel
theorem dX1_readOperands_13 : decode cX1_readOperands 13 = .ok (.invokestatic 25, 3) := by decide +kernel
theorem dX1_readOperands_16 : decode cX1_readOperands 16 = .ok (.aload_n 1, 1) := by decide +kernel
theorem dX1_readOperands_17 : decode cX1_readOperands 17 = .ok (.invokevirtual 31, 3) := by decide +kernel
theorem dX1_readOperands_20 : decode cX1_readOperands 20 = .ok (.ifCond .eq 5, 3) := by decide +kernel
theorem dX1_readOperands_23 : decode cX1_readOperands 23 = .ok (.iconst 1, 1) := by decide +kernel
theorem dX1_readOperands_24 : decode cX1_readOperands 24 = .ok (.ireturn, 1) := by decide +kernel
theorem dX1_readOperands_25 : decode cX1_readOperands 25 = .ok (.iconst 0, 1) := by decide +kernel
theorem dX1_readOperands_26 : decode cX1_readOperands 26 = .ok (.istore_n 2, 1) := by decide +kernel
theorem dX1_readOperands_27 : decode cX1_readOperands 27 = .ok (.iload_n 2, 1) := by decide +kernel
theorem dX1_readOperands_28 : decode cX1_readOperands 28 = .ok (.iconst 4, 1) := by decide +kernel
theorem dX1_readOperands_29 : decode cX1_readOperands 29 = .ok (.if_icmp .ge 44, 3) := by decide +kernel
theorem dX1_readOperands_32 : decode cX1_readOperands 32 = .ok (.aload_n 1, 1) := by decide +kernel
theorem dX1_readOperands_33 : decode cX1_readOperands 33 = .ok (.invokevirtual 37, 3) := by decide +kernel
theorem dX1_readOperands_36 : decode cX1_readOperands 36 = .ok (.aload_n 0, 1) := by decide +kernel
theorem dX1_readOperands_37 : decode cX1_readOperands 37 = .ok (.getfield 18, 3) := by decide +kernel
theorem dX1_readOperands_40 : decode cX1_readOperands 40 = .ok (.iload_n 2, 1) := by decide +kernel
theorem dX1_readOperands_41 : decode cX1_readOperands 41 = .ok (.aload_n 1, 1) := by decide +kernel
theorem dX1_readOperands_42 : decode cX1_readOperands 42 = .ok (.getfield 40, 3) := by decide +kernel
theorem dX1_readOperands_45 : decode cX1_readOperands 45 = .ok (.iastore, 1) := by decide +kernel
theorem dX1_readOperands_46 : decode cX1_readOperands 46 = .ok (.aload_n 0, 1) := by decide +kernel
theorem dX1_readOperands_47 : decode cX1_readOperands 47 = .ok (.getfield 22, 3) := by decide +kernel
theorem dX1_readOperands_50 : decode cX1_readOperands 50 = .ok (.iload_n 2, 1) := by decide +kernel
theorem dX1_readOperands_51 : decode cX1_readOperands 51 = .ok (.aload_n 1, 1) := by decide +kernel
theorem dX1_readOperands_52 : decode cX1_readOperands 52 = .ok (.getfield 44, 3) := by decide +kernel
theorem dX1_readOperands_55 : decode cX1_readOperands 55 = .ok (.iastore, 1) := by decide +kernel
theorem dX1_readOperands_56 : decode cX1_readOperands 56 = .ok (.aload_n 1, 1) := by decide +kernel
theorem dX1_readOperands_57 : decode cX1_readOperands 57 = .ok (.bipush 44, 2) := by decide +kernel
theorem dX1_readOperands_59 : decode cX1_readOperands 59 = .ok (.invokevirtual 47, 3) := by decide +kernel
theorem dX1_readOperands_62 : decode cX1_readOperands 62 = .ok (.ifCond .ne 5, 3) := by decide +kernel
theorem dX1_readOperands_65 : decode cX1_readOperands 65 = .ok (.iconst 1, 1) := by decide +kernel
theorem dX1_readOperands_66 : decode cX1_readOperands 66 = .ok (.ireturn, 1) := by decide +kernel
theorem dX1_readOperands_67 : decode cX1_readOperands 67 = .ok (.iinc 2 1, 3) := by decide +kernel
theorem dX1_readOperands_70 : decode cX1_readOperands 70 = .ok (.goto (-43), 3) := by decide +kernel
theorem dX1_readOperands_73 : decode cX1_readOperands 73 = .ok (.iconst 0, 1) := by decide +kernel
theorem dX1_readOperands_74 : decode cX1_readOperands 74 = .ok (.ireturn, 1) := by decide +kernel

