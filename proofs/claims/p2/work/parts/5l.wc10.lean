set_option maxRecDepth 20000 in
theorem w_4_79 : (Jvm.Cond.methodLink "AssembleLines$Lines" (102 : Nat) ({ cls := "AssembleLines$Call", name := "readOperands", desc := "(LAssembleLines$Scanner;)Z" } : Jvm.MethodName)) ∈ b_Ws := bw_4 (List.mem_of_getElem? (i := 79) rfl) rfl
set_option maxRecDepth 20000 in
theorem w_4_80 : (Jvm.Cond.instanceMethod ({ cls := "AssembleLines$Call", name := "readOperands", desc := "(LAssembleLines$Scanner;)Z" } : Jvm.MethodName)) ∈ b_Ws := bw_4 (List.mem_of_getElem? (i := 80) rfl) rfl
set_option maxRecDepth 20000 in
theorem w_4_81 : (Jvm.Cond.selects "AssembleLines$Call" ({ cls := "AssembleLines$Call", name := "readOperands", desc := "(LAssembleLines$Scanner;)Z" } : Jvm.MethodName) ({ cls := "AssembleLines$Call", name := "readOperands", desc := "(LAssembleLines$Scanner;)Z" } : Jvm.MethodName)) ∈ b_Ws := bw_4 (List.mem_of_getElem? (i := 81) rfl) rfl
set_option maxRecDepth 20000 in
theorem w_4_82 : (Jvm.Cond.code ({ cls := "AssembleLines$Call", name := "readOperands", desc := "(LAssembleLines$Scanner;)Z" } : Jvm.MethodName) prog_3_method_2_code (3 : Nat) (Option.some Jvm.ClassFile.FieldType.boolean)) ∈ b_Ws := bw_4 (List.mem_of_getElem? (i := 82) rfl) rfl
set_option maxRecDepth 20000 in
theorem w_4_183 : (Jvm.Cond.instanceMethod ({ cls := "AssembleLines$Lines", name := "isFull", desc := "()Z" } : Jvm.MethodName)) ∈ b_Ws := bw_4 (List.mem_of_getElem? (i := 183) rfl) rfl
set_option maxRecDepth 20000 in
theorem w_4_184 : (Jvm.Cond.selects "AssembleLines$Lines" ({ cls := "AssembleLines$Lines", name := "isFull", desc := "()Z" } : Jvm.MethodName) ({ cls := "AssembleLines$Lines", name := "isFull", desc := "()Z" } : Jvm.MethodName)) ∈ b_Ws := bw_4 (List.mem_of_getElem? (i := 184) rfl) rfl
set_option maxRecDepth 20000 in
theorem w_4_185 : (Jvm.Cond.code ({ cls := "AssembleLines$Lines", name := "isFull", desc := "()Z" } : Jvm.MethodName) prog_6_method_14_code (1 : Nat) (Option.some Jvm.ClassFile.FieldType.boolean)) ∈ b_Ws := bw_4 (List.mem_of_getElem? (i := 185) rfl) rfl
set_option maxRecDepth 20000 in
theorem w_4_238 : (Jvm.Cond.methodLink "AssembleLines$Lines" (106 : Nat) ({ cls := "AssembleLines$Lines", name := "isFull", desc := "()Z" } : Jvm.MethodName)) ∈ b_Ws := bw_4 (List.mem_of_getElem? (i := 238) rfl) rfl
set_option maxRecDepth 20000 in
theorem w_4_239 : (Jvm.Cond.methodLink "AssembleLines$Lines" (109 : Nat) ({ cls := "AssembleLines$Call", name := "keep", desc := "([BI)V" } : Jvm.MethodName)) ∈ b_Ws := bw_4 (List.mem_of_getElem? (i := 239) rfl) rfl
set_option maxRecDepth 20000 in
theorem w_5_0 : (Jvm.Cond.instanceMethod ({ cls := "AssembleLines$Call", name := "keep", desc := "([BI)V" } : Jvm.MethodName)) ∈ b_Ws := bw_5 (List.mem_of_getElem? (i := 0) rfl) rfl
set_option maxRecDepth 20000 in
theorem w_5_1 : (Jvm.Cond.selects "AssembleLines$Call" ({ cls := "AssembleLines$Call", name := "keep", desc := "([BI)V" } : Jvm.MethodName) ({ cls := "AssembleLines$Call", name := "keep", desc := "([BI)V" } : Jvm.MethodName)) ∈ b_Ws := bw_5 (List.mem_of_getElem? (i := 1) rfl) rfl
set_option maxRecDepth 20000 in
theorem w_5_2 : (Jvm.Cond.code ({ cls := "AssembleLines$Call", name := "keep", desc := "([BI)V" } : Jvm.MethodName) prog_3_method_5_code (4 : Nat) (Option.none : Option Jvm.ClassFile.FieldType)) ∈ b_Ws := bw_5 (List.mem_of_getElem? (i := 2) rfl) rfl
set_option maxRecDepth 20000 in
theorem w_5_8 : (Jvm.Cond.methodLink "AssembleLines$Lines" (113 : Nat) ({ cls := "AssembleLines$Call", name := "readFrom", desc := "([B)V" } : Jvm.MethodName)) ∈ b_Ws := bw_5 (List.mem_of_getElem? (i := 8) rfl) rfl
set_option maxRecDepth 20000 in
theorem w_5_9 : (Jvm.Cond.instanceMethod ({ cls := "AssembleLines$Call", name := "readFrom", desc := "([B)V" } : Jvm.MethodName)) ∈ b_Ws := bw_5 (List.mem_of_getElem? (i := 9) rfl) rfl
set_option maxRecDepth 20000 in
theorem w_5_10 : (Jvm.Cond.selects "AssembleLines$Call" ({ cls := "AssembleLines$Call", name := "readFrom", desc := "([B)V" } : Jvm.MethodName) ({ cls := "AssembleLines$Call", name := "readFrom", desc := "([B)V" } : Jvm.MethodName)) ∈ b_Ws := bw_5 (List.mem_of_getElem? (i := 10) rfl) rfl
set_option maxRecDepth 20000 in
theorem w_5_11 : (Jvm.Cond.code ({ cls := "AssembleLines$Call", name := "readFrom", desc := "([B)V" } : Jvm.MethodName) prog_3_method_4_code (2 : Nat) (Option.none : Option Jvm.ClassFile.FieldType)) ∈ b_Ws := bw_5 (List.mem_of_getElem? (i := 11) rfl) rfl
set_option maxRecDepth 20000 in
theorem w_5_12 : (Jvm.Cond.methodLink "AssembleLines$Lines" (117 : Nat) ({ cls := "AssembleLines$Call", name := "begin", desc := "(III)V" } : Jvm.MethodName)) ∈ b_Ws := bw_5 (List.mem_of_getElem? (i := 12) rfl) rfl
set_option maxRecDepth 20000 in
theorem w_5_13 : (Jvm.Cond.instanceMethod ({ cls := "AssembleLines$Call", name := "begin", desc := "(III)V" } : Jvm.MethodName)) ∈ b_Ws := bw_5 (List.mem_of_getElem? (i := 13) rfl) rfl
set_option maxRecDepth 20000 in
theorem w_5_14 : (Jvm.Cond.selects "AssembleLines$Call" ({ cls := "AssembleLines$Call", name := "begin", desc := "(III)V" } : Jvm.MethodName) ({ cls := "AssembleLines$Call", name := "begin", desc := "(III)V" } : Jvm.MethodName)) ∈ b_Ws := bw_5 (List.mem_of_getElem? (i := 14) rfl) rfl
set_option maxRecDepth 20000 in
theorem w_5_15 : (Jvm.Cond.code ({ cls := "AssembleLines$Call", name := "begin", desc := "(III)V" } : Jvm.MethodName) prog_3_method_3_code (4 : Nat) (Option.none : Option Jvm.ClassFile.FieldType)) ∈ b_Ws := bw_5 (List.mem_of_getElem? (i := 15) rfl) rfl
theorem dX4_readOperands_0 : decode cX4_readOperands 0 = .ok (.aload_n 0, 1) := by decide +kernel
theorem dX4_readOperands_1 : decode cX4_readOperands 1 = .ok (.getfield 44, 3) := by decide +kernel
theorem dX4_readOperands_4 : decode cX4_readOperands 4 = .ok (.aload_n 0, 1) := by decide +kernel
theorem dX4_readOperands_5 : decode cX4_readOperands 5 = .ok (.getfield 13, 3) := by decide +kernel
theorem dX4_readOperands_8 : decode cX4_readOperands 8 = .ok (.arraylength, 1) := by decide +kernel
theorem dX4_readOperands_9 : decode cX4_readOperands 9 = .ok (.if_icmp .ge 23, 3) := by decide +kernel
theorem dX4_readOperands_12 : decode cX4_readOperands 12 = .ok (.aload_n 0, 1) := by decide +kernel
theorem dX4_readOperands_13 : decode cX4_readOperands 13 = .ok (.getfield 13, 3) := by decide +kernel
theorem dX4_readOperands_16 : decode cX4_readOperands 16 = .ok (.aload_n 0, 1) := by decide +kernel
theorem dX4_readOperands_17 : decode cX4_readOperands 17 = .ok (.getfield 44, 3) := by decide +kernel
theorem dX4_readOperands_20 : decode cX4_readOperands 20 = .ok (.aaload, 1) := by decide +kernel
theorem dX4_readOperands_21 : decode cX4_readOperands 21 = .ok (.aload_n 1, 1) := by decide +kernel
theorem dX4_readOperands_22 : decode cX4_readOperands 22 = .ok (.invokevirtual 102, 3) := by decide +kernel
theorem dX4_readOperands_25 : decode cX4_readOperands 25 = .ok (.ifCond .eq 7, 3) := by decide +kernel
theorem dX4_readOperands_28 : decode cX4_readOperands 28 = .ok (.iconst 1, 1) := by decide +kernel
theorem dX4_readOperands_29 : decode cX4_readOperands 29 = .ok (.goto 4, 3) := by decide +kernel
theorem dX4_readOperands_32 : decode cX4_readOperands 32 = .ok (.iconst 0, 1) := by decide +kernel
theorem dX4_readOperands_33 : decode cX4_readOperands 33 = .ok (.ireturn, 1) := by decide +kernel
theorem dX4_enter_0 : decode cX4_enter 0 = .ok (.aload_n 0, 1) := by decide +kernel
theorem dX4_enter_1 : decode cX4_enter 1 = .ok (.invokevirtual 106, 3) := by decide +kernel
theorem dX4_enter_4 : decode cX4_enter 4 = .ok (.ifCond .eq 4, 3) := by decide +kernel
theorem dX4_enter_7 : decode cX4_enter 7 = .ok (.return_, 1) := by decide +kernel
theorem dX4_enter_8 : decode cX4_enter 8 = .ok (.aload_n 0, 1) := by decide +kernel
theorem dX4_enter_9 : decode cX4_enter 9 = .ok (.getfield 13, 3) := by decide +kernel
theorem dX4_enter_12 : decode cX4_enter 12 = .ok (.aload_n 0, 1) := by decide +kernel
theorem dX4_enter_13 : decode cX4_enter 13 = .ok (.getfield 44, 3) := by decide +kernel
theorem dX4_enter_16 : decode cX4_enter 16 = .ok (.aaload, 1) := by decide +kernel
theorem dX4_enter_17 : decode cX4_enter 17 = .ok (.astore_n 3, 1) := by decide +kernel
theorem dX4_enter_18 : decode cX4_enter 18 = .ok (.aload_n 0, 1) := by decide +kernel
theorem dX4_enter_19 : decode cX4_enter 19 = .ok (.getfield 44, 3) := by decide +kernel
theorem dX4_enter_22 : decode cX4_enter 22 = .ok (.ifCond .le 18, 3) := by decide +kernel
theorem dX4_enter_25 : decode cX4_enter 25 = .ok (.aload_n 3, 1) := by decide +kernel
theorem dX4_enter_26 : decode cX4_enter 26 = .ok (.aload_n 0, 1) := by decide +kernel
theorem dX4_enter_27 : decode cX4_enter 27 = .ok (.getfield 21, 3) := by decide +kernel
theorem dX4_enter_30 : decode cX4_enter 30 = .ok (.aload_n 0, 1) := by decide +kernel
theorem dX4_enter_31 : decode cX4_enter 31 = .ok (.getfield 64, 3) := by decide +kernel
theorem dX4_enter_34 : decode cX4_enter 34 = .ok (.invokevirtual 109, 3) := by decide +kernel
theorem dX4_enter_37 : decode cX4_enter 37 = .ok (.goto 11, 3) := by decide +kernel
theorem dX4_enter_40 : decode cX4_enter 40 = .ok (.aload_n 3, 1) := by decide +kernel
theorem dX4_enter_41 : decode cX4_enter 41 = .ok (.aload_n 0, 1) := by decide +kernel
theorem dX4_enter_42 : decode cX4_enter 42 = .ok (.getfield 17, 3) := by decide +kernel
theorem dX4_enter_45 : decode cX4_enter 45 = .ok (.invokevirtual 113, 3) := by decide +kernel
theorem dX4_enter_48 : decode cX4_enter 48 = .ok (.aload_n 0, 1) := by decide +kernel
theorem dX4_enter_49 : decode cX4_enter 49 = .ok (.dup, 1) := by decide +kernel
theorem dX4_enter_50 : decode cX4_enter 50 = .ok (.getfield 47, 3) := by decide +kernel
theorem dX4_enter_53 : decode cX4_enter 53 = .ok (.iconst 1, 1) := by decide +kernel
theorem dX4_enter_54 : decode cX4_enter 54 = .ok (.iadd, 1) := by decide +kernel
theorem dX4_enter_55 : decode cX4_enter 55 = .ok (.putfield 47, 3) := by decide +kernel
theorem dX4_enter_58 : decode cX4_enter 58 = .ok (.aload_n 0, 1) := by decide +kernel
theorem dX4_enter_59 : decode cX4_enter 59 = .ok (.dup, 1) := by decide +kernel
theorem dX4_enter_60 : decode cX4_enter 60 = .ok (.getfield 44, 3) := by decide +kernel
theorem dX4_enter_63 : decode cX4_enter 63 = .ok (.iconst 1, 1) := by decide +kernel
theorem dX4_enter_64 : decode cX4_enter 64 = .ok (.iadd, 1) := by decide +kernel
theorem dX4_enter_65 : decode cX4_enter 65 = .ok (.putfield 44, 3) := by decide +kernel
theorem dX4_enter_68 : decode cX4_enter 68 = .ok (.aload_n 3, 1) := by decide +kernel
theorem dX4_enter_69 : decode cX4_enter 69 = .ok (.aload_n 0, 1) := by decide +kernel
theorem dX4_enter_70 : decode cX4_enter 70 = .ok (.getfield 47, 3) := by decide +kernel
theorem dX4_enter_73 : decode cX4_enter 73 = .ok (.iload_n 1, 1) := by decide +kernel
theorem dX4_enter_74 : decode cX4_enter 74 = .ok (.iload_n 2, 1) := by decide +kernel
theorem dX4_enter_75 : decode cX4_enter 75 = .ok (.invokevirtual 117, 3) := by decide +kernel
theorem dX4_enter_78 : decode cX4_enter 78 = .ok (.return_, 1) := by decide +kernel

