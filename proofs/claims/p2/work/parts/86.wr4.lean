set_option maxRecDepth 20000 in
theorem w_5_225 : (Jvm.Cond.fieldLink "AssembleLinesModel" (268 : Nat) "AssembleLinesModel" "lineNumber" "I") ∈ b_Ws := bw_5 (List.mem_of_getElem? (i := 225) rfl) rfl
set_option maxRecDepth 20000 in
theorem w_6_15 : (Jvm.Cond.fieldLink "AssembleLinesModel" (271 : Nat) "AssembleLinesModel" "labels" "I") ∈ b_Ws := bw_6 (List.mem_of_getElem? (i := 15) rfl) rfl
set_option maxRecDepth 20000 in
theorem w_6_24 : (Jvm.Cond.fieldLink "AssembleLinesModel" (283 : Nat) "AssembleLinesModel" "sets" "I") ∈ b_Ws := bw_6 (List.mem_of_getElem? (i := 24) rfl) rfl
set_option maxRecDepth 20000 in
theorem w_6_29 : (Jvm.Cond.fieldLink "AssembleLinesModel" (176 : Nat) "AssembleLinesModel" "errors" "I") ∈ b_Ws := bw_6 (List.mem_of_getElem? (i := 29) rfl) rfl
set_option maxRecDepth 20000 in
theorem w_6_30 : (Jvm.Cond.fieldLink "AssembleLinesModel" (172 : Nat) "AssembleLinesModel" "hasErrors" "Z") ∈ b_Ws := bw_6 (List.mem_of_getElem? (i := 30) rfl) rfl
set_option maxRecDepth 20000 in
theorem w_7_54 : (Jvm.Cond.methodLink "AssembleLinesModel" (338 : Nat) ({ cls := "AssembleLinesModel", name := "findMacro", desc := "(J)I" } : Jvm.MethodName)) ∈ b_Ws := bw_7 (List.mem_of_getElem? (i := 54) rfl) rfl
set_option maxRecDepth 20000 in
theorem w_7_56 : (Jvm.Cond.instanceMethod ({ cls := "AssembleLinesModel", name := "findMacro", desc := "(J)I" } : Jvm.MethodName)) ∈ b_Ws := bw_7 (List.mem_of_getElem? (i := 56) rfl) rfl
set_option maxRecDepth 20000 in
theorem w_7_57 : (Jvm.Cond.code ({ cls := "AssembleLinesModel", name := "findMacro", desc := "(J)I" } : Jvm.MethodName) prog_15_method_17_code (4 : Nat) (Option.some Jvm.ClassFile.FieldType.int)) ∈ b_Ws := bw_7 (List.mem_of_getElem? (i := 57) rfl) rfl
set_option maxRecDepth 20000 in
theorem w_7_82 : (Jvm.Cond.methodLink "AssembleLinesModel" (280 : Nat) ({ cls := "AssembleLinesModel", name := "isThere", desc := "(J)Z" } : Jvm.MethodName)) ∈ b_Ws := bw_7 (List.mem_of_getElem? (i := 82) rfl) rfl
set_option maxRecDepth 20000 in
theorem w_7_84 : (Jvm.Cond.instanceMethod ({ cls := "AssembleLinesModel", name := "isThere", desc := "(J)Z" } : Jvm.MethodName)) ∈ b_Ws := bw_7 (List.mem_of_getElem? (i := 84) rfl) rfl
set_option maxRecDepth 20000 in
theorem w_7_85 : (Jvm.Cond.code ({ cls := "AssembleLinesModel", name := "isThere", desc := "(J)Z" } : Jvm.MethodName) prog_15_method_21_code (3 : Nat) (Option.some Jvm.ClassFile.FieldType.boolean)) ∈ b_Ws := bw_7 (List.mem_of_getElem? (i := 85) rfl) rfl
theorem dX13_wrong_0 : decode cX13_wrong 0 = .ok (.aload_n 0, 1) := by decide +kernel
theorem dX13_wrong_1 : decode cX13_wrong 1 = .ok (.iconst 1, 1) := by decide +kernel
theorem dX13_wrong_2 : decode cX13_wrong 2 = .ok (.putfield 172, 3) := by decide +kernel
theorem dX13_wrong_5 : decode cX13_wrong 5 = .ok (.aload_n 0, 1) := by decide +kernel
theorem dX13_wrong_6 : decode cX13_wrong 6 = .ok (.getfield 176, 3) := by decide +kernel
theorem dX13_wrong_9 : decode cX13_wrong 9 = .ok (.bipush 50, 2) := by decide +kernel
theorem dX13_wrong_11 : decode cX13_wrong 11 = .ok (.if_icmp .ne 4, 3) := by decide +kernel
theorem dX13_wrong_14 : decode cX13_wrong 14 = .ok (.return_, 1) := by decide +kernel
theorem dX13_wrong_15 : decode cX13_wrong 15 = .ok (.aload_n 0, 1) := by decide +kernel
theorem dX13_wrong_16 : decode cX13_wrong 16 = .ok (.getfield 144, 3) := by decide +kernel
theorem dX13_wrong_19 : decode cX13_wrong 19 = .ok (.aload_n 0, 1) := by decide +kernel
theorem dX13_wrong_20 : decode cX13_wrong 20 = .ok (.getfield 176, 3) := by decide +kernel
theorem dX13_wrong_23 : decode cX13_wrong 23 = .ok (.iload_n 1, 1) := by decide +kernel
theorem dX13_wrong_24 : decode cX13_wrong 24 = .ok (.iastore, 1) := by decide +kernel
theorem dX13_wrong_25 : decode cX13_wrong 25 = .ok (.aload_n 0, 1) := by decide +kernel
theorem dX13_wrong_26 : decode cX13_wrong 26 = .ok (.getfield 147, 3) := by decide +kernel
theorem dX13_wrong_29 : decode cX13_wrong 29 = .ok (.aload_n 0, 1) := by decide +kernel
theorem dX13_wrong_30 : decode cX13_wrong 30 = .ok (.getfield 176, 3) := by decide +kernel
theorem dX13_wrong_33 : decode cX13_wrong 33 = .ok (.iload_n 2, 1) := by decide +kernel
theorem dX13_wrong_34 : decode cX13_wrong 34 = .ok (.iastore, 1) := by decide +kernel
theorem dX13_wrong_35 : decode cX13_wrong 35 = .ok (.aload_n 0, 1) := by decide +kernel
theorem dX13_wrong_36 : decode cX13_wrong 36 = .ok (.dup, 1) := by decide +kernel
theorem dX13_wrong_37 : decode cX13_wrong 37 = .ok (.getfield 176, 3) := by decide +kernel
theorem dX13_wrong_40 : decode cX13_wrong 40 = .ok (.iconst 1, 1) := by decide +kernel
theorem dX13_wrong_41 : decode cX13_wrong 41 = .ok (.iadd, 1) := by decide +kernel
theorem dX13_wrong_42 : decode cX13_wrong 42 = .ok (.putfield 176, 3) := by decide +kernel
theorem dX13_wrong_45 : decode cX13_wrong 45 = .ok (.return_, 1) := by decide +kernel
theorem dX13_add_0 : decode cX13_add 0 = .ok (.aload_n 0, 1) := by decide +kernel
theorem dX13_add_1 : decode cX13_add 1 = .ok (.getfield 85, 3) := by decide +kernel
theorem dX13_add_4 : decode cX13_add 4 = .ok (.aload_n 0, 1) := by decide +kernel
theorem dX13_add_5 : decode cX13_add 5 = .ok (.getfield 217, 3) := by decide +kernel
theorem dX13_add_8 : decode cX13_add 8 = .ok (.aload_n 0, 1) := by decide +kernel
theorem dX13_add_9 : decode cX13_add 9 = .ok (.getfield 268, 3) := by decide +kernel
theorem dX13_add_12 : decode cX13_add 12 = .ok (.iastore, 1) := by decide +kernel
theorem dX13_add_13 : decode cX13_add 13 = .ok (.aload_n 0, 1) := by decide +kernel
theorem dX13_add_14 : decode cX13_add 14 = .ok (.getfield 88, 3) := by decide +kernel
theorem dX13_add_17 : decode cX13_add 17 = .ok (.aload_n 0, 1) := by decide +kernel
theorem dX13_add_18 : decode cX13_add 18 = .ok (.getfield 217, 3) := by decide +kernel
theorem dX13_add_21 : decode cX13_add 21 = .ok (.iload_n 1, 1) := by decide +kernel
theorem dX13_add_22 : decode cX13_add 22 = .ok (.iastore, 1) := by decide +kernel
theorem dX13_add_23 : decode cX13_add 23 = .ok (.aload_n 0, 1) := by decide +kernel
theorem dX13_add_24 : decode cX13_add 24 = .ok (.getfield 106, 3) := by decide +kernel
theorem dX13_add_27 : decode cX13_add 27 = .ok (.aload_n 0, 1) := by decide +kernel
theorem dX13_add_28 : decode cX13_add 28 = .ok (.getfield 217, 3) := by decide +kernel
theorem dX13_add_31 : decode cX13_add 31 = .ok (.lload_n 2, 1) := by decide +kernel
theorem dX13_add_32 : decode cX13_add 32 = .ok (.lastore, 1) := by decide +kernel
theorem dX13_add_33 : decode cX13_add 33 = .ok (.aload_n 0, 1) := by decide +kernel
theorem dX13_add_34 : decode cX13_add 34 = .ok (.getfield 97, 3) := by decide +kernel
theorem dX13_add_37 : decode cX13_add 37 = .ok (.aload_n 0, 1) := by decide +kernel
theorem dX13_add_38 : decode cX13_add 38 = .ok (.getfield 217, 3) := by decide +kernel
theorem dX13_add_41 : decode cX13_add 41 = .ok (.iconst 0, 1) := by decide +kernel
theorem dX13_add_42 : decode cX13_add 42 = .ok (.iastore, 1) := by decide +kernel
theorem dX13_add_43 : decode cX13_add 43 = .ok (.aload_n 0, 1) := by decide +kernel
theorem dX13_add_44 : decode cX13_add 44 = .ok (.getfield 103, 3) := by decide +kernel
theorem dX13_add_47 : decode cX13_add 47 = .ok (.aload_n 0, 1) := by decide +kernel
theorem dX13_add_48 : decode cX13_add 48 = .ok (.getfield 217, 3) := by decide +kernel
theorem dX13_add_51 : decode cX13_add 51 = .ok (.iconst 0, 1) := by decide +kernel
theorem dX13_add_52 : decode cX13_add 52 = .ok (.iastore, 1) := by decide +kernel
theorem dX13_add_53 : decode cX13_add 53 = .ok (.aload_n 0, 1) := by decide +kernel
theorem dX13_add_54 : decode cX13_add 54 = .ok (.getfield 109, 3) := by decide +kernel
theorem dX13_add_57 : decode cX13_add 57 = .ok (.aload_n 0, 1) := by decide +kernel
theorem dX13_add_58 : decode cX13_add 58 = .ok (.getfield 217, 3) := by decide +kernel
theorem dX13_add_61 : decode cX13_add 61 = .ok (.iconst 0, 1) := by decide +kernel
theorem dX13_add_62 : decode cX13_add 62 = .ok (.bastore, 1) := by decide +kernel
theorem dX13_add_63 : decode cX13_add 63 = .ok (.aload_n 0, 1) := by decide +kernel
theorem dX13_add_64 : decode cX13_add 64 = .ok (.getfield 113, 3) := by decide +kernel
theorem dX13_add_67 : decode cX13_add 67 = .ok (.aload_n 0, 1) := by decide +kernel
theorem dX13_add_68 : decode cX13_add 68 = .ok (.getfield 217, 3) := by decide +kernel
theorem dX13_add_71 : decode cX13_add 71 = .ok (.iconst 0, 1) := by decide +kernel
theorem dX13_add_72 : decode cX13_add 72 = .ok (.iastore, 1) := by decide +kernel
theorem dX13_add_73 : decode cX13_add 73 = .ok (.aload_n 0, 1) := by decide +kernel
theorem dX13_add_74 : decode cX13_add 74 = .ok (.dup, 1) := by decide +kernel
theorem dX13_add_75 : decode cX13_add 75 = .ok (.getfield 271, 3) := by decide +kernel
theorem dX13_add_78 : decode cX13_add 78 = .ok (.lload_n 2, 1) := by decide +kernel
theorem dX13_add_79 : decode cX13_add 79 = .ok (.lconst 0, 1) := by decide +kernel
theorem dX13_add_80 : decode cX13_add 80 = .ok (.lcmp, 1) := by decide +kernel
theorem dX13_add_81 : decode cX13_add 81 = .ok (.ifCond .le 7, 3) := by decide +kernel
theorem dX13_add_84 : decode cX13_add 84 = .ok (.iconst 1, 1) := by decide +kernel
theorem dX13_add_85 : decode cX13_add 85 = .ok (.goto 4, 3) := by decide +kernel
theorem dX13_add_88 : decode cX13_add 88 = .ok (.iconst 0, 1) := by decide +kernel
theorem dX13_add_89 : decode cX13_add 89 = .ok (.iadd, 1) := by decide +kernel
theorem dX13_add_90 : decode cX13_add 90 = .ok (.putfield 271, 3) := by decide +kernel
theorem dX13_add_93 : decode cX13_add 93 = .ok (.aload_n 0, 1) := by decide +kernel
theorem dX13_add_94 : decode cX13_add 94 = .ok (.dup, 1) := by decide +kernel
theorem dX13_add_95 : decode cX13_add 95 = .ok (.getfield 217, 3) := by decide +kernel
theorem dX13_add_98 : decode cX13_add 98 = .ok (.iconst 1, 1) := by decide +kernel
theorem dX13_add_99 : decode cX13_add 99 = .ok (.iadd, 1) := by decide +kernel
theorem dX13_add_100 : decode cX13_add 100 = .ok (.putfield 217, 3) := by decide +kernel
theorem dX13_add_103 : decode cX13_add 103 = .ok (.return_, 1) := by decide +kernel
theorem dX13_addSet_0 : decode cX13_addSet 0 = .ok (.aload_n 0, 1) := by decide +kernel
theorem dX13_addSet_1 : decode cX13_addSet 1 = .ok (.getfield 132, 3) := by decide +kernel
theorem dX13_addSet_4 : decode cX13_addSet 4 = .ok (.aload_n 0, 1) := by decide +kernel
theorem dX13_addSet_5 : decode cX13_addSet 5 = .ok (.getfield 283, 3) := by decide +kernel
theorem dX13_addSet_8 : decode cX13_addSet 8 = .ok (.lload_n 1, 1) := by decide +kernel
theorem dX13_addSet_9 : decode cX13_addSet 9 = .ok (.lastore, 1) := by decide +kernel
theorem dX13_addSet_10 : decode cX13_addSet 10 = .ok (.aload_n 0, 1) := by decide +kernel
theorem dX13_addSet_11 : decode cX13_addSet 11 = .ok (.getfield 135, 3) := by decide +kernel
theorem dX13_addSet_14 : decode cX13_addSet 14 = .ok (.aload_n 0, 1) := by decide +kernel
theorem dX13_addSet_15 : decode cX13_addSet 15 = .ok (.getfield 283, 3) := by decide +kernel
theorem dX13_addSet_18 : decode cX13_addSet 18 = .ok (.iload_n 3, 1) := by decide +kernel
theorem dX13_addSet_19 : decode cX13_addSet 19 = .ok (.iastore, 1) := by decide +kernel
theorem dX13_addSet_20 : decode cX13_addSet 20 = .ok (.lload_n 1, 1) := by decide +kernel
theorem dX13_addSet_21 : decode cX13_addSet 21 = .ok (.invokestatic 222, 3) := by decide +kernel
theorem dX13_addSet_24 : decode cX13_addSet 24 = .ok (.istore 4, 2) := by decide +kernel
theorem dX13_addSet_26 : decode cX13_addSet 26 = .ok (.aload_n 0, 1) := by decide +kernel
theorem dX13_addSet_27 : decode cX13_addSet 27 = .ok (.getfield 138, 3) := by decide +kernel
theorem dX13_addSet_30 : decode cX13_addSet 30 = .ok (.aload_n 0, 1) := by decide +kernel
theorem dX13_addSet_31 : decode cX13_addSet 31 = .ok (.getfield 283, 3) := by decide +kernel
theorem dX13_addSet_34 : decode cX13_addSet 34 = .ok (.aload_n 0, 1) := by decide +kernel
theorem dX13_addSet_35 : decode cX13_addSet 35 = .ok (.getfield 141, 3) := by decide +kernel
theorem dX13_addSet_38 : decode cX13_addSet 38 = .ok (.iload 4, 2) := by decide +kernel
theorem dX13_addSet_40 : decode cX13_addSet 40 = .ok (.iaload, 1) := by decide +kernel
theorem dX13_addSet_41 : decode cX13_addSet 41 = .ok (.iastore, 1) := by decide +kernel
theorem dX13_addSet_42 : decode cX13_addSet 42 = .ok (.aload_n 0, 1) := by decide +kernel
theorem dX13_addSet_43 : decode cX13_addSet 43 = .ok (.getfield 141, 3) := by decide +kernel
theorem dX13_addSet_46 : decode cX13_addSet 46 = .ok (.iload 4, 2) := by decide +kernel
theorem dX13_addSet_48 : decode cX13_addSet 48 = .ok (.aload_n 0, 1) := by decide +kernel
theorem dX13_addSet_49 : decode cX13_addSet 49 = .ok (.getfield 283, 3) := by decide +kernel
theorem dX13_addSet_52 : decode cX13_addSet 52 = .ok (.iastore, 1) := by decide +kernel
theorem dX13_addSet_53 : decode cX13_addSet 53 = .ok (.aload_n 0, 1) := by decide +kernel
theorem dX13_addSet_54 : decode cX13_addSet 54 = .ok (.dup, 1) := by decide +kernel
theorem dX13_addSet_55 : decode cX13_addSet 55 = .ok (.getfield 283, 3) := by decide +kernel
theorem dX13_addSet_58 : decode cX13_addSet 58 = .ok (.iconst 1, 1) := by decide +kernel
theorem dX13_addSet_59 : decode cX13_addSet 59 = .ok (.iadd, 1) := by decide +kernel
theorem dX13_addSet_60 : decode cX13_addSet 60 = .ok (.putfield 283, 3) := by decide +kernel
theorem dX13_addSet_63 : decode cX13_addSet 63 = .ok (.return_, 1) := by decide +kernel
theorem dX13_troubleOf_0 : decode cX13_troubleOf 0 = .ok (.lload_n 2, 1) := by decide +kernel
theorem dX13_troubleOf_1 : decode cX13_troubleOf 1 = .ok (.lconst 0, 1) := by decide +kernel
theorem dX13_troubleOf_2 : decode cX13_troubleOf 2 = .ok (.lcmp, 1) := by decide +kernel
theorem dX13_troubleOf_3 : decode cX13_troubleOf 3 = .ok (.ifCond .le 11, 3) := by decide +kernel
theorem dX13_troubleOf_6 : decode cX13_troubleOf 6 = .ok (.aload_n 0, 1) := by decide +kernel
theorem dX13_troubleOf_7 : decode cX13_troubleOf 7 = .ok (.lload_n 2, 1) := by decide +kernel
theorem dX13_troubleOf_8 : decode cX13_troubleOf 8 = .ok (.invokevirtual 280, 3) := by decide +kernel
theorem dX13_troubleOf_11 : decode cX13_troubleOf 11 = .ok (.ifCond .ne 25, 3) := by decide +kernel
theorem dX13_troubleOf_14 : decode cX13_troubleOf 14 = .ok (.iload_n 1, 1) := by decide +kernel
theorem dX13_troubleOf_15 : decode cX13_troubleOf 15 = .ok (.bipush 11, 2) := by decide +kernel
theorem dX13_troubleOf_17 : decode cX13_troubleOf 17 = .ok (.if_icmp .ne 21, 3) := by decide +kernel
theorem dX13_troubleOf_20 : decode cX13_troubleOf 20 = .ok (.aload_n 0, 1) := by decide +kernel
theorem dX13_troubleOf_21 : decode cX13_troubleOf 21 = .ok (.lload 4, 2) := by decide +kernel
theorem dX13_troubleOf_23 : decode cX13_troubleOf 23 = .ok (.invokevirtual 280, 3) := by decide +kernel
theorem dX13_troubleOf_26 : decode cX13_troubleOf 26 = .ok (.ifCond .ne 10, 3) := by decide +kernel
theorem dX13_troubleOf_29 : decode cX13_troubleOf 29 = .ok (.lload 4, 2) := by decide +kernel
theorem dX13_troubleOf_31 : decode cX13_troubleOf 31 = .ok (.lload_n 2, 1) := by decide +kernel
theorem dX13_troubleOf_32 : decode cX13_troubleOf 32 = .ok (.lcmp, 1) := by decide +kernel
theorem dX13_troubleOf_33 : decode cX13_troubleOf 33 = .ok (.ifCond .ne 5, 3) := by decide +kernel
theorem dX13_troubleOf_36 : decode cX13_troubleOf 36 = .ok (.iconst 3, 1) := by decide +kernel
theorem dX13_troubleOf_37 : decode cX13_troubleOf 37 = .ok (.ireturn, 1) := by decide +kernel
theorem dX13_troubleOf_38 : decode cX13_troubleOf 38 = .ok (.iload_n 1, 1) := by decide +kernel
theorem dX13_troubleOf_39 : decode cX13_troubleOf 39 = .ok (.bipush 11, 2) := by decide +kernel
theorem dX13_troubleOf_41 : decode cX13_troubleOf 41 = .ok (.if_icmp .eq 9, 3) := by decide +kernel
theorem dX13_troubleOf_44 : decode cX13_troubleOf 44 = .ok (.iload_n 1, 1) := by decide +kernel
theorem dX13_troubleOf_45 : decode cX13_troubleOf 45 = .ok (.bipush 9, 2) := by decide +kernel
theorem dX13_troubleOf_47 : decode cX13_troubleOf 47 = .ok (.if_icmp .ne 12, 3) := by decide +kernel
theorem dX13_troubleOf_50 : decode cX13_troubleOf 50 = .ok (.aload_n 0, 1) := by decide +kernel
theorem dX13_troubleOf_51 : decode cX13_troubleOf 51 = .ok (.getfield 259, 3) := by decide +kernel
theorem dX13_troubleOf_54 : decode cX13_troubleOf 54 = .ok (.ifCond .eq 5, 3) := by decide +kernel
theorem dX13_troubleOf_57 : decode cX13_troubleOf 57 = .ok (.iconst 4, 1) := by decide +kernel
theorem dX13_troubleOf_58 : decode cX13_troubleOf 58 = .ok (.ireturn, 1) := by decide +kernel
theorem dX13_troubleOf_59 : decode cX13_troubleOf 59 = .ok (.iload_n 1, 1) := by decide +kernel
theorem dX13_troubleOf_60 : decode cX13_troubleOf 60 = .ok (.bipush 9, 2) := by decide +kernel
theorem dX13_troubleOf_62 : decode cX13_troubleOf 62 = .ok (.if_icmp .ne 17, 3) := by decide +kernel
theorem dX13_troubleOf_65 : decode cX13_troubleOf 65 = .ok (.iload 6, 2) := by decide +kernel
theorem dX13_troubleOf_67 : decode cX13_troubleOf 67 = .ok (.iconst 0, 1) := by decide +kernel
theorem dX13_troubleOf_68 : decode cX13_troubleOf 68 = .ok (.sipush 1000, 3) := by decide +kernel
theorem dX13_troubleOf_71 : decode cX13_troubleOf 71 = .ok (.invokestatic 168, 3) := by decide +kernel
theorem dX13_troubleOf_74 : decode cX13_troubleOf 74 = .ok (.ifCond .ne 5, 3) := by decide +kernel
theorem dX13_troubleOf_77 : decode cX13_troubleOf 77 = .ok (.iconst 5, 1) := by decide +kernel
theorem dX13_troubleOf_78 : decode cX13_troubleOf 78 = .ok (.ireturn, 1) := by decide +kernel
theorem dX13_troubleOf_79 : decode cX13_troubleOf 79 = .ok (.iload_n 1, 1) := by decide +kernel
theorem dX13_troubleOf_80 : decode cX13_troubleOf 80 = .ok (.bipush 11, 2) := by decide +kernel
theorem dX13_troubleOf_82 : decode cX13_troubleOf 82 = .ok (.if_icmp .ne 16, 3) := by decide +kernel
theorem dX13_troubleOf_85 : decode cX13_troubleOf 85 = .ok (.aload_n 0, 1) := by decide +kernel
theorem dX13_troubleOf_86 : decode cX13_troubleOf 86 = .ok (.getfield 283, 3) := by decide +kernel
theorem dX13_troubleOf_89 : decode cX13_troubleOf 89 = .ok (.sipush 400, 3) := by decide +kernel
theorem dX13_troubleOf_92 : decode cX13_troubleOf 92 = .ok (.if_icmp .ne 6, 3) := by decide +kernel
theorem dX13_troubleOf_95 : decode cX13_troubleOf 95 = .ok (.bipush 6, 2) := by decide +kernel
theorem dX13_troubleOf_97 : decode cX13_troubleOf 97 = .ok (.ireturn, 1) := by decide +kernel
theorem dX13_troubleOf_98 : decode cX13_troubleOf 98 = .ok (.aload_n 0, 1) := by decide +kernel
theorem dX13_troubleOf_99 : decode cX13_troubleOf 99 = .ok (.getfield 217, 3) := by decide +kernel
theorem dX13_troubleOf_102 : decode cX13_troubleOf 102 = .ok (.sipush 400, 3) := by decide +kernel
theorem dX13_troubleOf_105 : decode cX13_troubleOf 105 = .ok (.if_icmp .ne 20, 3) := by decide +kernel
theorem dX13_troubleOf_108 : decode cX13_troubleOf 108 = .ok (.lload_n 2, 1) := by decide +kernel
theorem dX13_troubleOf_109 : decode cX13_troubleOf 109 = .ok (.lconst 0, 1) := by decide +kernel
theorem dX13_troubleOf_110 : decode cX13_troubleOf 110 = .ok (.lcmp, 1) := by decide +kernel
theorem dX13_troubleOf_111 : decode cX13_troubleOf 111 = .ok (.ifCond .gt 9, 3) := by decide +kernel
theorem dX13_troubleOf_114 : decode cX13_troubleOf 114 = .ok (.iload_n 1, 1) := by decide +kernel
theorem dX13_troubleOf_115 : decode cX13_troubleOf 115 = .ok (.bipush 11, 2) := by decide +kernel
theorem dX13_troubleOf_117 : decode cX13_troubleOf 117 = .ok (.if_icmp .eq 8, 3) := by decide +kernel
theorem dX13_troubleOf_120 : decode cX13_troubleOf 120 = .ok (.bipush 6, 2) := by decide +kernel
theorem dX13_troubleOf_122 : decode cX13_troubleOf 122 = .ok (.goto 4, 3) := by decide +kernel
theorem dX13_troubleOf_125 : decode cX13_troubleOf 125 = .ok (.iconst 0, 1) := by decide +kernel
theorem dX13_troubleOf_126 : decode cX13_troubleOf 126 = .ok (.ireturn, 1) := by decide +kernel
theorem dX13_isPlainName_0 : decode cX13_isPlainName 0 = .ok (.iconst 0, 1) := by decide +kernel
theorem dX13_isPlainName_1 : decode cX13_isPlainName 1 = .ok (.istore_n 3, 1) := by decide +kernel
theorem dX13_isPlainName_2 : decode cX13_isPlainName 2 = .ok (.iconst 0, 1) := by decide +kernel
theorem dX13_isPlainName_3 : decode cX13_isPlainName 3 = .ok (.istore 4, 2) := by decide +kernel
theorem dX13_isPlainName_5 : decode cX13_isPlainName 5 = .ok (.iload 4, 2) := by decide +kernel
theorem dX13_isPlainName_7 : decode cX13_isPlainName 7 = .ok (.bipush 7, 2) := by decide +kernel
theorem dX13_isPlainName_9 : decode cX13_isPlainName 9 = .ok (.if_icmp .ge 31, 3) := by decide +kernel
theorem dX13_isPlainName_12 : decode cX13_isPlainName 12 = .ok (.iload_n 3, 1) := by decide +kernel
theorem dX13_isPlainName_13 : decode cX13_isPlainName 13 = .ok (.ifCond .ne 15, 3) := by decide +kernel
theorem dX13_isPlainName_16 : decode cX13_isPlainName 16 = .ok (.aload_n 0, 1) := by decide +kernel
theorem dX13_isPlainName_17 : decode cX13_isPlainName 17 = .ok (.getfield 21, 3) := by decide +kernel
theorem dX13_isPlainName_20 : decode cX13_isPlainName 20 = .ok (.iload 4, 2) := by decide +kernel
theorem dX13_isPlainName_22 : decode cX13_isPlainName 22 = .ok (.laload, 1) := by decide +kernel
theorem dX13_isPlainName_23 : decode cX13_isPlainName 23 = .ok (.lload_n 1, 1) := by decide +kernel
theorem dX13_isPlainName_24 : decode cX13_isPlainName 24 = .ok (.lcmp, 1) := by decide +kernel
theorem dX13_isPlainName_25 : decode cX13_isPlainName 25 = .ok (.ifCond .ne 7, 3) := by decide +kernel
theorem dX13_isPlainName_28 : decode cX13_isPlainName 28 = .ok (.iconst 1, 1) := by decide +kernel
theorem dX13_isPlainName_29 : decode cX13_isPlainName 29 = .ok (.goto 4, 3) := by decide +kernel
theorem dX13_isPlainName_32 : decode cX13_isPlainName 32 = .ok (.iconst 0, 1) := by decide +kernel
theorem dX13_isPlainName_33 : decode cX13_isPlainName 33 = .ok (.istore_n 3, 1) := by decide +kernel
theorem dX13_isPlainName_34 : decode cX13_isPlainName 34 = .ok (.iinc 4 1, 3) := by decide +kernel
theorem dX13_isPlainName_37 : decode cX13_isPlainName 37 = .ok (.goto (-32), 3) := by decide +kernel
theorem dX13_isPlainName_40 : decode cX13_isPlainName 40 = .ok (.iload_n 3, 1) := by decide +kernel
theorem dX13_isPlainName_41 : decode cX13_isPlainName 41 = .ok (.ireturn, 1) := by decide +kernel
theorem dX13_plainOperation_0 : decode cX13_plainOperation 0 = .ok (.iconst 0, 1) := by decide +kernel
theorem dX13_plainOperation_1 : decode cX13_plainOperation 1 = .ok (.istore_n 3, 1) := by decide +kernel
theorem dX13_plainOperation_2 : decode cX13_plainOperation 2 = .ok (.iload_n 3, 1) := by decide +kernel
theorem dX13_plainOperation_3 : decode cX13_plainOperation 3 = .ok (.bipush 7, 2) := by decide +kernel
theorem dX13_plainOperation_5 : decode cX13_plainOperation 5 = .ok (.if_icmp .ge 24, 3) := by decide +kernel
theorem dX13_plainOperation_8 : decode cX13_plainOperation 8 = .ok (.aload_n 0, 1) := by decide +kernel
theorem dX13_plainOperation_9 : decode cX13_plainOperation 9 = .ok (.getfield 21, 3) := by decide +kernel
theorem dX13_plainOperation_12 : decode cX13_plainOperation 12 = .ok (.iload_n 3, 1) := by decide +kernel
theorem dX13_plainOperation_13 : decode cX13_plainOperation 13 = .ok (.laload, 1) := by decide +kernel
theorem dX13_plainOperation_14 : decode cX13_plainOperation 14 = .ok (.lload_n 1, 1) := by decide +kernel
theorem dX13_plainOperation_15 : decode cX13_plainOperation 15 = .ok (.lcmp, 1) := by decide +kernel
theorem dX13_plainOperation_16 : decode cX13_plainOperation 16 = .ok (.ifCond .ne 7, 3) := by decide +kernel
theorem dX13_plainOperation_19 : decode cX13_plainOperation 19 = .ok (.iconst 1, 1) := by decide +kernel
theorem dX13_plainOperation_20 : decode cX13_plainOperation 20 = .ok (.iload_n 3, 1) := by decide +kernel
theorem dX13_plainOperation_21 : decode cX13_plainOperation 21 = .ok (.iadd, 1) := by decide +kernel
theorem dX13_plainOperation_22 : decode cX13_plainOperation 22 = .ok (.ireturn, 1) := by decide +kernel
theorem dX13_plainOperation_23 : decode cX13_plainOperation 23 = .ok (.iinc 3 1, 3) := by decide +kernel
theorem dX13_plainOperation_26 : decode cX13_plainOperation 26 = .ok (.goto (-24), 3) := by decide +kernel
theorem dX13_plainOperation_29 : decode cX13_plainOperation 29 = .ok (.aload_n 0, 1) := by decide +kernel
theorem dX13_plainOperation_30 : decode cX13_plainOperation 30 = .ok (.lload_n 1, 1) := by decide +kernel
theorem dX13_plainOperation_31 : decode cX13_plainOperation 31 = .ok (.invokevirtual 338, 3) := by decide +kernel
theorem dX13_plainOperation_34 : decode cX13_plainOperation 34 = .ok (.ifCond .lt 14, 3) := by decide +kernel
theorem dX13_plainOperation_37 : decode cX13_plainOperation 37 = .ok (.bipush 14, 2) := by decide +kernel
theorem dX13_plainOperation_39 : decode cX13_plainOperation 39 = .ok (.aload_n 0, 1) := by decide +kernel
theorem dX13_plainOperation_40 : decode cX13_plainOperation 40 = .ok (.lload_n 1, 1) := by decide +kernel
theorem dX13_plainOperation_41 : decode cX13_plainOperation 41 = .ok (.invokevirtual 338, 3) := by decide +kernel
theorem dX13_plainOperation_44 : decode cX13_plainOperation 44 = .ok (.iadd, 1) := by decide +kernel
theorem dX13_plainOperation_45 : decode cX13_plainOperation 45 = .ok (.goto 4, 3) := by decide +kernel
theorem dX13_plainOperation_48 : decode cX13_plainOperation 48 = .ok (.iconst (-1), 1) := by decide +kernel
theorem dX13_plainOperation_49 : decode cX13_plainOperation 49 = .ok (.ireturn, 1) := by decide +kernel
theorem dX13_putIn_0 : decode cX13_putIn 0 = .ok (.aload_n 0, 1) := by decide +kernel
theorem dX13_putIn_1 : decode cX13_putIn 1 = .ok (.getfield 49, 3) := by decide +kernel
theorem dX13_putIn_4 : decode cX13_putIn 4 = .ok (.aload_n 0, 1) := by decide +kernel
theorem dX13_putIn_5 : decode cX13_putIn 5 = .ok (.getfield 192, 3) := by decide +kernel
theorem dX13_putIn_8 : decode cX13_putIn 8 = .ok (.iload_n 1, 1) := by decide +kernel
theorem dX13_putIn_9 : decode cX13_putIn 9 = .ok (.iastore, 1) := by decide +kernel
theorem dX13_putIn_10 : decode cX13_putIn 10 = .ok (.aload_n 0, 1) := by decide +kernel
theorem dX13_putIn_11 : decode cX13_putIn 11 = .ok (.dup, 1) := by decide +kernel
theorem dX13_putIn_12 : decode cX13_putIn 12 = .ok (.getfield 192, 3) := by decide +kernel
theorem dX13_putIn_15 : decode cX13_putIn 15 = .ok (.iconst 1, 1) := by decide +kernel
theorem dX13_putIn_16 : decode cX13_putIn 16 = .ok (.iadd, 1) := by decide +kernel
theorem dX13_putIn_17 : decode cX13_putIn 17 = .ok (.putfield 192, 3) := by decide +kernel
theorem dX13_putIn_20 : decode cX13_putIn 20 = .ok (.return_, 1) := by decide +kernel
theorem dX13_isPlain_0 : decode cX13_isPlain 0 = .ok (.iconst 0, 1) := by decide +kernel
theorem dX13_isPlain_1 : decode cX13_isPlain 1 = .ok (.istore_n 1, 1) := by decide +kernel
theorem dX13_isPlain_2 : decode cX13_isPlain 2 = .ok (.iload_n 1, 1) := by decide +kernel
theorem dX13_isPlain_3 : decode cX13_isPlain 3 = .ok (.aload_n 0, 1) := by decide +kernel
theorem dX13_isPlain_4 : decode cX13_isPlain 4 = .ok (.getfield 192, 3) := by decide +kernel
theorem dX13_isPlain_7 : decode cX13_isPlain 7 = .ok (.if_icmp .ge 27, 3) := by decide +kernel
theorem dX13_isPlain_10 : decode cX13_isPlain 10 = .ok (.aload_n 0, 1) := by decide +kernel
theorem dX13_isPlain_11 : decode cX13_isPlain 11 = .ok (.getfield 49, 3) := by decide +kernel
theorem dX13_isPlain_14 : decode cX13_isPlain 14 = .ok (.iload_n 1, 1) := by decide +kernel
theorem dX13_isPlain_15 : decode cX13_isPlain 15 = .ok (.iaload, 1) := by decide +kernel
theorem dX13_isPlain_16 : decode cX13_isPlain 16 = .ok (.bipush 32, 2) := by decide +kernel
theorem dX13_isPlain_18 : decode cX13_isPlain 18 = .ok (.bipush 126, 2) := by decide +kernel
theorem dX13_isPlain_20 : decode cX13_isPlain 20 = .ok (.invokestatic 168, 3) := by decide +kernel
theorem dX13_isPlain_23 : decode cX13_isPlain 23 = .ok (.ifCond .ne 5, 3) := by decide +kernel
theorem dX13_isPlain_26 : decode cX13_isPlain 26 = .ok (.iconst 0, 1) := by decide +kernel
theorem dX13_isPlain_27 : decode cX13_isPlain 27 = .ok (.ireturn, 1) := by decide +kernel
theorem dX13_isPlain_28 : decode cX13_isPlain 28 = .ok (.iinc 1 1, 3) := by decide +kernel
theorem dX13_isPlain_31 : decode cX13_isPlain 31 = .ok (.goto (-29), 3) := by decide +kernel
theorem dX13_isPlain_34 : decode cX13_isPlain 34 = .ok (.iconst 1, 1) := by decide +kernel
theorem dX13_isPlain_35 : decode cX13_isPlain 35 = .ok (.ireturn, 1) := by decide +kernel
theorem dX13_cutComment_0 : decode cX13_cutComment 0 = .ok (.iconst 0, 1) := by decide +kernel
theorem dX13_cutComment_1 : decode cX13_cutComment 1 = .ok (.istore_n 1, 1) := by decide +kernel
theorem dX13_cutComment_2 : decode cX13_cutComment 2 = .ok (.iload_n 1, 1) := by decide +kernel
theorem dX13_cutComment_3 : decode cX13_cutComment 3 = .ok (.aload_n 0, 1) := by decide +kernel
theorem dX13_cutComment_4 : decode cX13_cutComment 4 = .ok (.getfield 192, 3) := by decide +kernel
theorem dX13_cutComment_7 : decode cX13_cutComment 7 = .ok (.if_icmp .ge 20, 3) := by decide +kernel
theorem dX13_cutComment_10 : decode cX13_cutComment 10 = .ok (.aload_n 0, 1) := by decide +kernel
theorem dX13_cutComment_11 : decode cX13_cutComment 11 = .ok (.getfield 49, 3) := by decide +kernel
theorem dX13_cutComment_14 : decode cX13_cutComment 14 = .ok (.iload_n 1, 1) := by decide +kernel
theorem dX13_cutComment_15 : decode cX13_cutComment 15 = .ok (.iaload, 1) := by decide +kernel
theorem dX13_cutComment_16 : decode cX13_cutComment 16 = .ok (.bipush 59, 2) := by decide +kernel
theorem dX13_cutComment_18 : decode cX13_cutComment 18 = .ok (.if_icmp .eq 9, 3) := by decide +kernel
theorem dX13_cutComment_21 : decode cX13_cutComment 21 = .ok (.iinc 1 1, 3) := by decide +kernel
theorem dX13_cutComment_24 : decode cX13_cutComment 24 = .ok (.goto (-22), 3) := by decide +kernel
theorem dX13_cutComment_27 : decode cX13_cutComment 27 = .ok (.aload_n 0, 1) := by decide +kernel
theorem dX13_cutComment_28 : decode cX13_cutComment 28 = .ok (.iload_n 1, 1) := by decide +kernel
theorem dX13_cutComment_29 : decode cX13_cutComment 29 = .ok (.putfield 192, 3) := by decide +kernel
theorem dX13_cutComment_32 : decode cX13_cutComment 32 = .ok (.return_, 1) := by decide +kernel
theorem dX13_takeLabel_0 : decode cX13_takeLabel 0 = .ok (.aload_n 0, 1) := by decide +kernel
theorem dX13_takeLabel_1 : decode cX13_takeLabel 1 = .ok (.getfield 189, 3) := by decide +kernel
theorem dX13_takeLabel_4 : decode cX13_takeLabel 4 = .ok (.istore_n 1, 1) := by decide +kernel
theorem dX13_takeLabel_5 : decode cX13_takeLabel 5 = .ok (.iload_n 1, 1) := by decide +kernel
theorem dX13_takeLabel_6 : decode cX13_takeLabel 6 = .ok (.aload_n 0, 1) := by decide +kernel
theorem dX13_takeLabel_7 : decode cX13_takeLabel 7 = .ok (.getfield 192, 3) := by decide +kernel
theorem dX13_takeLabel_10 : decode cX13_takeLabel 10 = .ok (.if_icmp .ge 21, 3) := by decide +kernel
theorem dX13_takeLabel_13 : decode cX13_takeLabel 13 = .ok (.aload_n 0, 1) := by decide +kernel
theorem dX13_takeLabel_14 : decode cX13_takeLabel 14 = .ok (.getfield 49, 3) := by decide +kernel
theorem dX13_takeLabel_17 : decode cX13_takeLabel 17 = .ok (.iload_n 1, 1) := by decide +kernel
theorem dX13_takeLabel_18 : decode cX13_takeLabel 18 = .ok (.iaload, 1) := by decide +kernel
theorem dX13_takeLabel_19 : decode cX13_takeLabel 19 = .ok (.invokestatic 199, 3) := by decide +kernel
theorem dX13_takeLabel_22 : decode cX13_takeLabel 22 = .ok (.ifCond .eq 9, 3) := by decide +kernel
theorem dX13_takeLabel_25 : decode cX13_takeLabel 25 = .ok (.iinc 1 1, 3) := by decide +kernel
theorem dX13_takeLabel_28 : decode cX13_takeLabel 28 = .ok (.goto (-23), 3) := by decide +kernel
theorem dX13_takeLabel_31 : decode cX13_takeLabel 31 = .ok (.aload_n 0, 1) := by decide +kernel
theorem dX13_takeLabel_32 : decode cX13_takeLabel 32 = .ok (.invokevirtual 195, 3) := by decide +kernel
theorem dX13_takeLabel_35 : decode cX13_takeLabel 35 = .ok (.invokestatic 183, 3) := by decide +kernel
theorem dX13_takeLabel_38 : decode cX13_takeLabel 38 = .ok (.ifCond .eq 22, 3) := by decide +kernel
theorem dX13_takeLabel_41 : decode cX13_takeLabel 41 = .ok (.iload_n 1, 1) := by decide +kernel
theorem dX13_takeLabel_42 : decode cX13_takeLabel 42 = .ok (.aload_n 0, 1) := by decide +kernel
theorem dX13_takeLabel_43 : decode cX13_takeLabel 43 = .ok (.getfield 192, 3) := by decide +kernel
theorem dX13_takeLabel_46 : decode cX13_takeLabel 46 = .ok (.if_icmp .eq 14, 3) := by decide +kernel
theorem dX13_takeLabel_49 : decode cX13_takeLabel 49 = .ok (.aload_n 0, 1) := by decide +kernel
theorem dX13_takeLabel_50 : decode cX13_takeLabel 50 = .ok (.getfield 49, 3) := by decide +kernel
theorem dX13_takeLabel_53 : decode cX13_takeLabel 53 = .ok (.iload_n 1, 1) := by decide +kernel
theorem dX13_takeLabel_54 : decode cX13_takeLabel 54 = .ok (.iaload, 1) := by decide +kernel
theorem dX13_takeLabel_55 : decode cX13_takeLabel 55 = .ok (.bipush 58, 2) := by decide +kernel
theorem dX13_takeLabel_57 : decode cX13_takeLabel 57 = .ok (.if_icmp .eq 5, 3) := by decide +kernel
theorem dX13_takeLabel_60 : decode cX13_takeLabel 60 = .ok (.lconst 0, 1) := by decide +kernel
theorem dX13_takeLabel_61 : decode cX13_takeLabel 61 = .ok (.lreturn, 1) := by decide +kernel
theorem dX13_takeLabel_62 : decode cX13_takeLabel 62 = .ok (.aload_n 0, 1) := by decide +kernel
theorem dX13_takeLabel_63 : decode cX13_takeLabel 63 = .ok (.invokevirtual 235, 3) := by decide +kernel
theorem dX13_takeLabel_66 : decode cX13_takeLabel 66 = .ok (.lstore_n 2, 1) := by decide +kernel
theorem dX13_takeLabel_67 : decode cX13_takeLabel 67 = .ok (.aload_n 0, 1) := by decide +kernel
theorem dX13_takeLabel_68 : decode cX13_takeLabel 68 = .ok (.aload_n 0, 1) := by decide +kernel
theorem dX13_takeLabel_69 : decode cX13_takeLabel 69 = .ok (.getfield 207, 3) := by decide +kernel
theorem dX13_takeLabel_72 : decode cX13_takeLabel 72 = .ok (.ifCond .ne 10, 3) := by decide +kernel
theorem dX13_takeLabel_75 : decode cX13_takeLabel 75 = .ok (.lload_n 2, 1) := by decide +kernel
theorem dX13_takeLabel_76 : decode cX13_takeLabel 76 = .ok (.invokestatic 239, 3) := by decide +kernel
theorem dX13_takeLabel_79 : decode cX13_takeLabel 79 = .ok (.ifCond .eq 7, 3) := by decide +kernel
theorem dX13_takeLabel_82 : decode cX13_takeLabel 82 = .ok (.iconst 1, 1) := by decide +kernel
theorem dX13_takeLabel_83 : decode cX13_takeLabel 83 = .ok (.goto 4, 3) := by decide +kernel
theorem dX13_takeLabel_86 : decode cX13_takeLabel 86 = .ok (.iconst 0, 1) := by decide +kernel
theorem dX13_takeLabel_87 : decode cX13_takeLabel 87 = .ok (.putfield 207, 3) := by decide +kernel
theorem dX13_takeLabel_90 : decode cX13_takeLabel 90 = .ok (.aload_n 0, 1) := by decide +kernel
theorem dX13_takeLabel_91 : decode cX13_takeLabel 91 = .ok (.dup, 1) := by decide +kernel
theorem dX13_takeLabel_92 : decode cX13_takeLabel 92 = .ok (.getfield 189, 3) := by decide +kernel
theorem dX13_takeLabel_95 : decode cX13_takeLabel 95 = .ok (.iconst 1, 1) := by decide +kernel
theorem dX13_takeLabel_96 : decode cX13_takeLabel 96 = .ok (.iadd, 1) := by decide +kernel
theorem dX13_takeLabel_97 : decode cX13_takeLabel 97 = .ok (.putfield 189, 3) := by decide +kernel
theorem dX13_takeLabel_100 : decode cX13_takeLabel 100 = .ok (.aload_n 0, 1) := by decide +kernel
theorem dX13_takeLabel_101 : decode cX13_takeLabel 101 = .ok (.invokevirtual 232, 3) := by decide +kernel
theorem dX13_takeLabel_104 : decode cX13_takeLabel 104 = .ok (.lload_n 2, 1) := by decide +kernel
theorem dX13_takeLabel_105 : decode cX13_takeLabel 105 = .ok (.lreturn, 1) := by decide +kernel
theorem dX13_dotOperation_0 : decode cX13_dotOperation 0 = .ok (.aload_n 0, 1) := by decide +kernel
theorem dX13_dotOperation_1 : decode cX13_dotOperation 1 = .ok (.dup, 1) := by decide +kernel
theorem dX13_dotOperation_2 : decode cX13_dotOperation 2 = .ok (.getfield 189, 3) := by decide +kernel
theorem dX13_dotOperation_5 : decode cX13_dotOperation 5 = .ok (.iconst 1, 1) := by decide +kernel
theorem dX13_dotOperation_6 : decode cX13_dotOperation 6 = .ok (.iadd, 1) := by decide +kernel
theorem dX13_dotOperation_7 : decode cX13_dotOperation 7 = .ok (.putfield 189, 3) := by decide +kernel
theorem dX13_dotOperation_10 : decode cX13_dotOperation 10 = .ok (.lconst 0, 1) := by decide +kernel
theorem dX13_dotOperation_11 : decode cX13_dotOperation 11 = .ok (.lstore_n 1, 1) := by decide +kernel
theorem dX13_dotOperation_12 : decode cX13_dotOperation 12 = .ok (.iconst 0, 1) := by decide +kernel
theorem dX13_dotOperation_13 : decode cX13_dotOperation 13 = .ok (.istore_n 3, 1) := by decide +kernel
theorem dX13_dotOperation_14 : decode cX13_dotOperation 14 = .ok (.aload_n 0, 1) := by decide +kernel
theorem dX13_dotOperation_15 : decode cX13_dotOperation 15 = .ok (.invokevirtual 195, 3) := by decide +kernel
theorem dX13_dotOperation_18 : decode cX13_dotOperation 18 = .ok (.invokestatic 179, 3) := by decide +kernel
theorem dX13_dotOperation_21 : decode cX13_dotOperation 21 = .ok (.ifCond .eq 44, 3) := by decide +kernel
theorem dX13_dotOperation_24 : decode cX13_dotOperation 24 = .ok (.iload_n 3, 1) := by decide +kernel
theorem dX13_dotOperation_25 : decode cX13_dotOperation 25 = .ok (.bipush 10, 2) := by decide +kernel
theorem dX13_dotOperation_27 : decode cX13_dotOperation 27 = .ok (.if_icmp .ge 20, 3) := by decide +kernel
theorem dX13_dotOperation_30 : decode cX13_dotOperation 30 = .ok (.ldc2_w 202, 3) := by decide +kernel
theorem dX13_dotOperation_33 : decode cX13_dotOperation 33 = .ok (.lload_n 1, 1) := by decide +kernel
theorem dX13_dotOperation_34 : decode cX13_dotOperation 34 = .ok (.lmul, 1) := by decide +kernel
theorem dX13_dotOperation_35 : decode cX13_dotOperation 35 = .ok (.aload_n 0, 1) := by decide +kernel
theorem dX13_dotOperation_36 : decode cX13_dotOperation 36 = .ok (.invokevirtual 195, 3) := by decide +kernel
theorem dX13_dotOperation_39 : decode cX13_dotOperation 39 = .ok (.invokestatic 204, 3) := by decide +kernel
theorem dX13_dotOperation_42 : decode cX13_dotOperation 42 = .ok (.i2l, 1) := by decide +kernel
theorem dX13_dotOperation_43 : decode cX13_dotOperation 43 = .ok (.ladd, 1) := by decide +kernel
theorem dX13_dotOperation_44 : decode cX13_dotOperation 44 = .ok (.goto 4, 3) := by decide +kernel
theorem dX13_dotOperation_47 : decode cX13_dotOperation 47 = .ok (.lload_n 1, 1) := by decide +kernel
theorem dX13_dotOperation_48 : decode cX13_dotOperation 48 = .ok (.lstore_n 1, 1) := by decide +kernel
theorem dX13_dotOperation_49 : decode cX13_dotOperation 49 = .ok (.iinc 3 1, 3) := by decide +kernel
theorem dX13_dotOperation_52 : decode cX13_dotOperation 52 = .ok (.aload_n 0, 1) := by decide +kernel
theorem dX13_dotOperation_53 : decode cX13_dotOperation 53 = .ok (.dup, 1) := by decide +kernel
theorem dX13_dotOperation_54 : decode cX13_dotOperation 54 = .ok (.getfield 189, 3) := by decide +kernel
theorem dX13_dotOperation_57 : decode cX13_dotOperation 57 = .ok (.iconst 1, 1) := by decide +kernel
theorem dX13_dotOperation_58 : decode cX13_dotOperation 58 = .ok (.iadd, 1) := by decide +kernel
theorem dX13_dotOperation_59 : decode cX13_dotOperation 59 = .ok (.putfield 189, 3) := by decide +kernel
theorem dX13_dotOperation_62 : decode cX13_dotOperation 62 = .ok (.goto (-48), 3) := by decide +kernel
theorem dX13_dotOperation_65 : decode cX13_dotOperation 65 = .ok (.aload_n 0, 1) := by decide +kernel
theorem dX13_dotOperation_66 : decode cX13_dotOperation 66 = .ok (.aload_n 0, 1) := by decide +kernel
theorem dX13_dotOperation_67 : decode cX13_dotOperation 67 = .ok (.getfield 207, 3) := by decide +kernel
theorem dX13_dotOperation_70 : decode cX13_dotOperation 70 = .ok (.ifCond .ne 7, 3) := by decide +kernel
theorem dX13_dotOperation_73 : decode cX13_dotOperation 73 = .ok (.iload_n 3, 1) := by decide +kernel
theorem dX13_dotOperation_74 : decode cX13_dotOperation 74 = .ok (.ifCond .ne 7, 3) := by decide +kernel
theorem dX13_dotOperation_77 : decode cX13_dotOperation 77 = .ok (.iconst 1, 1) := by decide +kernel
theorem dX13_dotOperation_78 : decode cX13_dotOperation 78 = .ok (.goto 4, 3) := by decide +kernel
theorem dX13_dotOperation_81 : decode cX13_dotOperation 81 = .ok (.iconst 0, 1) := by decide +kernel
theorem dX13_dotOperation_82 : decode cX13_dotOperation 82 = .ok (.putfield 207, 3) := by decide +kernel
theorem dX13_dotOperation_85 : decode cX13_dotOperation 85 = .ok (.iconst 0, 1) := by decide +kernel
theorem dX13_dotOperation_86 : decode cX13_dotOperation 86 = .ok (.istore 4, 2) := by decide +kernel
theorem dX13_dotOperation_88 : decode cX13_dotOperation 88 = .ok (.iload 4, 2) := by decide +kernel
theorem dX13_dotOperation_90 : decode cX13_dotOperation 90 = .ok (.bipush 6, 2) := by decide +kernel
theorem dX13_dotOperation_92 : decode cX13_dotOperation 92 = .ok (.if_icmp .ge 33, 3) := by decide +kernel
theorem dX13_dotOperation_95 : decode cX13_dotOperation 95 = .ok (.iload_n 3, 1) := by decide +kernel
theorem dX13_dotOperation_96 : decode cX13_dotOperation 96 = .ok (.bipush 6, 2) := by decide +kernel
theorem dX13_dotOperation_98 : decode cX13_dotOperation 98 = .ok (.if_icmp .ge 27, 3) := by decide +kernel
theorem dX13_dotOperation_101 : decode cX13_dotOperation 101 = .ok (.aload_n 0, 1) := by decide +kernel
theorem dX13_dotOperation_102 : decode cX13_dotOperation 102 = .ok (.getfield 39, 3) := by decide +kernel
theorem dX13_dotOperation_105 : decode cX13_dotOperation 105 = .ok (.iload 4, 2) := by decide +kernel
theorem dX13_dotOperation_107 : decode cX13_dotOperation 107 = .ok (.laload, 1) := by decide +kernel
theorem dX13_dotOperation_108 : decode cX13_dotOperation 108 = .ok (.lload_n 1, 1) := by decide +kernel
theorem dX13_dotOperation_109 : decode cX13_dotOperation 109 = .ok (.lcmp, 1) := by decide +kernel
theorem dX13_dotOperation_110 : decode cX13_dotOperation 110 = .ok (.ifCond .ne 9, 3) := by decide +kernel
theorem dX13_dotOperation_113 : decode cX13_dotOperation 113 = .ok (.bipush 8, 2) := by decide +kernel
theorem dX13_dotOperation_115 : decode cX13_dotOperation 115 = .ok (.iload 4, 2) := by decide +kernel
theorem dX13_dotOperation_117 : decode cX13_dotOperation 117 = .ok (.iadd, 1) := by decide +kernel
theorem dX13_dotOperation_118 : decode cX13_dotOperation 118 = .ok (.ireturn, 1) := by decide +kernel
theorem dX13_dotOperation_119 : decode cX13_dotOperation 119 = .ok (.iinc 4 1, 3) := by decide +kernel
theorem dX13_dotOperation_122 : decode cX13_dotOperation 122 = .ok (.goto (-34), 3) := by decide +kernel
theorem dX13_dotOperation_125 : decode cX13_dotOperation 125 = .ok (.iconst (-1), 1) := by decide +kernel
theorem dX13_dotOperation_126 : decode cX13_dotOperation 126 = .ok (.ireturn, 1) := by decide +kernel

