set_option maxRecDepth 20000 in
theorem w_7_21 : (Jvm.Cond.methodLink "AssembleLinesModel" (312 : Nat) ({ cls := "AssembleLinesModel", name := "wrong", desc := "(II)V" } : Jvm.MethodName)) ∈ b_Ws := bw_7 (List.mem_of_getElem? (i := 21) rfl) rfl
set_option maxRecDepth 20000 in
theorem w_7_23 : (Jvm.Cond.instanceMethod ({ cls := "AssembleLinesModel", name := "wrong", desc := "(II)V" } : Jvm.MethodName)) ∈ b_Ws := bw_7 (List.mem_of_getElem? (i := 23) rfl) rfl
set_option maxRecDepth 20000 in
theorem w_7_24 : (Jvm.Cond.code ({ cls := "AssembleLinesModel", name := "wrong", desc := "(II)V" } : Jvm.MethodName) prog_15_method_7_code (3 : Nat) (Option.none : Option Jvm.ClassFile.FieldType)) ∈ b_Ws := bw_7 (List.mem_of_getElem? (i := 24) rfl) rfl
set_option maxRecDepth 20000 in
theorem w_7_191 : (Jvm.Cond.methodLink "AssembleLinesModel" (438 : Nat) ({ cls := "AssembleLinesModel", name := "fits", desc := "(II)Z" } : Jvm.MethodName)) ∈ b_Ws := bw_7 (List.mem_of_getElem? (i := 191) rfl) rfl
set_option maxRecDepth 20000 in
theorem w_7_193 : (Jvm.Cond.instanceMethod ({ cls := "AssembleLinesModel", name := "fits", desc := "(II)Z" } : Jvm.MethodName)) ∈ b_Ws := bw_7 (List.mem_of_getElem? (i := 193) rfl) rfl
set_option maxRecDepth 20000 in
theorem w_7_194 : (Jvm.Cond.code ({ cls := "AssembleLinesModel", name := "fits", desc := "(II)Z" } : Jvm.MethodName) prog_15_method_60_code (4 : Nat) (Option.some Jvm.ClassFile.FieldType.boolean)) ∈ b_Ws := bw_7 (List.mem_of_getElem? (i := 194) rfl) rfl
theorem dX13_turnTwo_0 : decode cX13_turnTwo 0 = .ok (.aload_n 0, 1) := by decide +kernel
theorem dX13_turnTwo_1 : decode cX13_turnTwo 1 = .ok (.getfield 415, 3) := by decide +kernel
theorem dX13_turnTwo_4 : decode cX13_turnTwo 4 = .ok (.ldc_w 434, 3) := by decide +kernel
theorem dX13_turnTwo_7 : decode cX13_turnTwo 7 = .ok (.if_icmp .le 10, 3) := by decide +kernel
theorem dX13_turnTwo_10 : decode cX13_turnTwo 10 = .ok (.aload_n 0, 1) := by decide +kernel
theorem dX13_turnTwo_11 : decode cX13_turnTwo 11 = .ok (.iconst 5, 1) := by decide +kernel
theorem dX13_turnTwo_12 : decode cX13_turnTwo 12 = .ok (.iconst 0, 1) := by decide +kernel
theorem dX13_turnTwo_13 : decode cX13_turnTwo 13 = .ok (.invokevirtual 312, 3) := by decide +kernel
theorem dX13_turnTwo_16 : decode cX13_turnTwo 16 = .ok (.return_, 1) := by decide +kernel
theorem dX13_turnTwo_17 : decode cX13_turnTwo 17 = .ok (.iconst 0, 1) := by decide +kernel
theorem dX13_turnTwo_18 : decode cX13_turnTwo 18 = .ok (.istore_n 1, 1) := by decide +kernel
theorem dX13_turnTwo_19 : decode cX13_turnTwo 19 = .ok (.iload_n 1, 1) := by decide +kernel
theorem dX13_turnTwo_20 : decode cX13_turnTwo 20 = .ok (.aload_n 0, 1) := by decide +kernel
theorem dX13_turnTwo_21 : decode cX13_turnTwo 21 = .ok (.getfield 217, 3) := by decide +kernel
theorem dX13_turnTwo_24 : decode cX13_turnTwo 24 = .ok (.if_icmp .ge 77, 3) := by decide +kernel
theorem dX13_turnTwo_27 : decode cX13_turnTwo 27 = .ok (.iconst 0, 1) := by decide +kernel
theorem dX13_turnTwo_28 : decode cX13_turnTwo 28 = .ok (.istore_n 2, 1) := by decide +kernel
theorem dX13_turnTwo_29 : decode cX13_turnTwo 29 = .ok (.iload_n 2, 1) := by decide +kernel
theorem dX13_turnTwo_30 : decode cX13_turnTwo 30 = .ok (.aload_n 0, 1) := by decide +kernel
theorem dX13_turnTwo_31 : decode cX13_turnTwo 31 = .ok (.getfield 97, 3) := by decide +kernel
theorem dX13_turnTwo_34 : decode cX13_turnTwo 34 = .ok (.iload_n 1, 1) := by decide +kernel
theorem dX13_turnTwo_35 : decode cX13_turnTwo 35 = .ok (.iaload, 1) := by decide +kernel
theorem dX13_turnTwo_36 : decode cX13_turnTwo 36 = .ok (.if_icmp .ge 59, 3) := by decide +kernel
theorem dX13_turnTwo_39 : decode cX13_turnTwo 39 = .ok (.aload_n 0, 1) := by decide +kernel
theorem dX13_turnTwo_40 : decode cX13_turnTwo 40 = .ok (.iload_n 1, 1) := by decide +kernel
theorem dX13_turnTwo_41 : decode cX13_turnTwo 41 = .ok (.iload_n 2, 1) := by decide +kernel
theorem dX13_turnTwo_42 : decode cX13_turnTwo 42 = .ok (.invokevirtual 438, 3) := by decide +kernel
theorem dX13_turnTwo_45 : decode cX13_turnTwo 45 = .ok (.istore_n 3, 1) := by decide +kernel
theorem dX13_turnTwo_46 : decode cX13_turnTwo 46 = .ok (.aload_n 0, 1) := by decide +kernel
theorem dX13_turnTwo_47 : decode cX13_turnTwo 47 = .ok (.iload_n 1, 1) := by decide +kernel
theorem dX13_turnTwo_48 : decode cX13_turnTwo 48 = .ok (.iload_n 2, 1) := by decide +kernel
theorem dX13_turnTwo_49 : decode cX13_turnTwo 49 = .ok (.invokevirtual 418, 3) := by decide +kernel
theorem dX13_turnTwo_52 : decode cX13_turnTwo 52 = .ok (.pop, 1) := by decide +kernel
theorem dX13_turnTwo_53 : decode cX13_turnTwo 53 = .ok (.aload_n 0, 1) := by decide +kernel
theorem dX13_turnTwo_54 : decode cX13_turnTwo 54 = .ok (.getfield 259, 3) := by decide +kernel
theorem dX13_turnTwo_57 : decode cX13_turnTwo 57 = .ok (.ifCond .eq 17, 3) := by decide +kernel
theorem dX13_turnTwo_60 : decode cX13_turnTwo 60 = .ok (.aload_n 0, 1) := by decide +kernel
theorem dX13_turnTwo_61 : decode cX13_turnTwo 61 = .ok (.iconst 4, 1) := by decide +kernel
theorem dX13_turnTwo_62 : decode cX13_turnTwo 62 = .ok (.aload_n 0, 1) := by decide +kernel
theorem dX13_turnTwo_63 : decode cX13_turnTwo 63 = .ok (.getfield 85, 3) := by decide +kernel
theorem dX13_turnTwo_66 : decode cX13_turnTwo 66 = .ok (.iload_n 1, 1) := by decide +kernel
theorem dX13_turnTwo_67 : decode cX13_turnTwo 67 = .ok (.iaload, 1) := by decide +kernel
theorem dX13_turnTwo_68 : decode cX13_turnTwo 68 = .ok (.invokevirtual 312, 3) := by decide +kernel
theorem dX13_turnTwo_71 : decode cX13_turnTwo 71 = .ok (.goto 18, 3) := by decide +kernel
theorem dX13_turnTwo_74 : decode cX13_turnTwo 74 = .ok (.iload_n 3, 1) := by decide +kernel
theorem dX13_turnTwo_75 : decode cX13_turnTwo 75 = .ok (.ifCond .ne 14, 3) := by decide +kernel
theorem dX13_turnTwo_78 : decode cX13_turnTwo 78 = .ok (.aload_n 0, 1) := by decide +kernel
theorem dX13_turnTwo_79 : decode cX13_turnTwo 79 = .ok (.iconst 5, 1) := by decide +kernel
theorem dX13_turnTwo_80 : decode cX13_turnTwo 80 = .ok (.aload_n 0, 1) := by decide +kernel
theorem dX13_turnTwo_81 : decode cX13_turnTwo 81 = .ok (.getfield 85, 3) := by decide +kernel
theorem dX13_turnTwo_84 : decode cX13_turnTwo 84 = .ok (.iload_n 1, 1) := by decide +kernel
theorem dX13_turnTwo_85 : decode cX13_turnTwo 85 = .ok (.iaload, 1) := by decide +kernel
theorem dX13_turnTwo_86 : decode cX13_turnTwo 86 = .ok (.invokevirtual 312, 3) := by decide +kernel
theorem dX13_turnTwo_89 : decode cX13_turnTwo 89 = .ok (.iinc 2 1, 3) := by decide +kernel
theorem dX13_turnTwo_92 : decode cX13_turnTwo 92 = .ok (.goto (-63), 3) := by decide +kernel
theorem dX13_turnTwo_95 : decode cX13_turnTwo 95 = .ok (.iinc 1 1, 3) := by decide +kernel
theorem dX13_turnTwo_98 : decode cX13_turnTwo 98 = .ok (.goto (-79), 3) := by decide +kernel
theorem dX13_turnTwo_101 : decode cX13_turnTwo 101 = .ok (.return_, 1) := by decide +kernel

