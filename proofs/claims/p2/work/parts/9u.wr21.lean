set_option maxRecDepth 20000 in
theorem w_7_162 : (Jvm.Cond.methodLink "AssembleLinesModel" (425 : Nat) ({ cls := "AssembleLinesModel", name := "findPlaces", desc := "()V" } : Jvm.MethodName)) ∈ b_Ws := bw_7 (List.mem_of_getElem? (i := 162) rfl) rfl
set_option maxRecDepth 20000 in
theorem w_7_164 : (Jvm.Cond.instanceMethod ({ cls := "AssembleLinesModel", name := "findPlaces", desc := "()V" } : Jvm.MethodName)) ∈ b_Ws := bw_7 (List.mem_of_getElem? (i := 164) rfl) rfl
set_option maxRecDepth 20000 in
theorem w_7_165 : (Jvm.Cond.code ({ cls := "AssembleLinesModel", name := "findPlaces", desc := "()V" } : Jvm.MethodName) prog_15_method_54_code (3 : Nat) (Option.none : Option Jvm.ClassFile.FieldType)) ∈ b_Ws := bw_7 (List.mem_of_getElem? (i := 165) rfl) rfl
set_option maxRecDepth 20000 in
theorem w_7_178 : (Jvm.Cond.methodLink "AssembleLinesModel" (431 : Nat) ({ cls := "AssembleLinesModel", name := "fitsShort", desc := "(I)Z" } : Jvm.MethodName)) ∈ b_Ws := bw_7 (List.mem_of_getElem? (i := 178) rfl) rfl
set_option maxRecDepth 20000 in
theorem w_7_180 : (Jvm.Cond.instanceMethod ({ cls := "AssembleLinesModel", name := "fitsShort", desc := "(I)Z" } : Jvm.MethodName)) ∈ b_Ws := bw_7 (List.mem_of_getElem? (i := 180) rfl) rfl
set_option maxRecDepth 20000 in
theorem w_7_181 : (Jvm.Cond.code ({ cls := "AssembleLinesModel", name := "fitsShort", desc := "(I)Z" } : Jvm.MethodName) prog_15_method_57_code (4 : Nat) (Option.some Jvm.ClassFile.FieldType.boolean)) ∈ b_Ws := bw_7 (List.mem_of_getElem? (i := 181) rfl) rfl
theorem dX13_findForms_0 : decode cX13_findForms 0 = .ok (.iconst 1, 1) := by decide +kernel
theorem dX13_findForms_1 : decode cX13_findForms 1 = .ok (.istore_n 1, 1) := by decide +kernel
theorem dX13_findForms_2 : decode cX13_findForms 2 = .ok (.aload_n 0, 1) := by decide +kernel
theorem dX13_findForms_3 : decode cX13_findForms 3 = .ok (.iconst 0, 1) := by decide +kernel
theorem dX13_findForms_4 : decode cX13_findForms 4 = .ok (.putfield 422, 3) := by decide +kernel
theorem dX13_findForms_7 : decode cX13_findForms 7 = .ok (.iload_n 1, 1) := by decide +kernel
theorem dX13_findForms_8 : decode cX13_findForms 8 = .ok (.ifCond .eq 117, 3) := by decide +kernel
theorem dX13_findForms_11 : decode cX13_findForms 11 = .ok (.iconst 0, 1) := by decide +kernel
theorem dX13_findForms_12 : decode cX13_findForms 12 = .ok (.istore_n 1, 1) := by decide +kernel
theorem dX13_findForms_13 : decode cX13_findForms 13 = .ok (.aload_n 0, 1) := by decide +kernel
theorem dX13_findForms_14 : decode cX13_findForms 14 = .ok (.dup, 1) := by decide +kernel
theorem dX13_findForms_15 : decode cX13_findForms 15 = .ok (.getfield 422, 3) := by decide +kernel
theorem dX13_findForms_18 : decode cX13_findForms 18 = .ok (.iconst 1, 1) := by decide +kernel
theorem dX13_findForms_19 : decode cX13_findForms 19 = .ok (.iadd, 1) := by decide +kernel
theorem dX13_findForms_20 : decode cX13_findForms 20 = .ok (.putfield 422, 3) := by decide +kernel
theorem dX13_findForms_23 : decode cX13_findForms 23 = .ok (.aload_n 0, 1) := by decide +kernel
theorem dX13_findForms_24 : decode cX13_findForms 24 = .ok (.invokevirtual 425, 3) := by decide +kernel
theorem dX13_findForms_27 : decode cX13_findForms 27 = .ok (.iconst 0, 1) := by decide +kernel
theorem dX13_findForms_28 : decode cX13_findForms 28 = .ok (.istore_n 2, 1) := by decide +kernel
theorem dX13_findForms_29 : decode cX13_findForms 29 = .ok (.iload_n 2, 1) := by decide +kernel
theorem dX13_findForms_30 : decode cX13_findForms 30 = .ok (.aload_n 0, 1) := by decide +kernel
theorem dX13_findForms_31 : decode cX13_findForms 31 = .ok (.getfield 217, 3) := by decide +kernel
theorem dX13_findForms_34 : decode cX13_findForms 34 = .ok (.if_icmp .ge 43, 3) := by decide +kernel
theorem dX13_findForms_37 : decode cX13_findForms 37 = .ok (.aload_n 0, 1) := by decide +kernel
theorem dX13_findForms_38 : decode cX13_findForms 38 = .ok (.iload_n 2, 1) := by decide +kernel
theorem dX13_findForms_39 : decode cX13_findForms 39 = .ok (.invokevirtual 428, 3) := by decide +kernel
theorem dX13_findForms_42 : decode cX13_findForms 42 = .ok (.ifCond .eq 29, 3) := by decide +kernel
theorem dX13_findForms_45 : decode cX13_findForms 45 = .ok (.aload_n 0, 1) := by decide +kernel
theorem dX13_findForms_46 : decode cX13_findForms 46 = .ok (.getfield 109, 3) := by decide +kernel
theorem dX13_findForms_49 : decode cX13_findForms 49 = .ok (.iload_n 2, 1) := by decide +kernel
theorem dX13_findForms_50 : decode cX13_findForms 50 = .ok (.baload, 1) := by decide +kernel
theorem dX13_findForms_51 : decode cX13_findForms 51 = .ok (.ifCond .ne 20, 3) := by decide +kernel
theorem dX13_findForms_54 : decode cX13_findForms 54 = .ok (.aload_n 0, 1) := by decide +kernel
theorem dX13_findForms_55 : decode cX13_findForms 55 = .ok (.iload_n 2, 1) := by decide +kernel
theorem dX13_findForms_56 : decode cX13_findForms 56 = .ok (.invokevirtual 431, 3) := by decide +kernel
theorem dX13_findForms_59 : decode cX13_findForms 59 = .ok (.ifCond .ne 12, 3) := by decide +kernel
theorem dX13_findForms_62 : decode cX13_findForms 62 = .ok (.aload_n 0, 1) := by decide +kernel
theorem dX13_findForms_63 : decode cX13_findForms 63 = .ok (.getfield 154, 3) := by decide +kernel
theorem dX13_findForms_66 : decode cX13_findForms 66 = .ok (.iload_n 2, 1) := by decide +kernel
theorem dX13_findForms_67 : decode cX13_findForms 67 = .ok (.iconst 1, 1) := by decide +kernel
theorem dX13_findForms_68 : decode cX13_findForms 68 = .ok (.bastore, 1) := by decide +kernel
theorem dX13_findForms_69 : decode cX13_findForms 69 = .ok (.iconst 1, 1) := by decide +kernel
theorem dX13_findForms_70 : decode cX13_findForms 70 = .ok (.istore_n 1, 1) := by decide +kernel
theorem dX13_findForms_71 : decode cX13_findForms 71 = .ok (.iinc 2 1, 3) := by decide +kernel
theorem dX13_findForms_74 : decode cX13_findForms 74 = .ok (.goto (-45), 3) := by decide +kernel
theorem dX13_findForms_77 : decode cX13_findForms 77 = .ok (.iconst 0, 1) := by decide +kernel
theorem dX13_findForms_78 : decode cX13_findForms 78 = .ok (.istore_n 2, 1) := by decide +kernel
theorem dX13_findForms_79 : decode cX13_findForms 79 = .ok (.iload_n 2, 1) := by decide +kernel
theorem dX13_findForms_80 : decode cX13_findForms 80 = .ok (.aload_n 0, 1) := by decide +kernel
theorem dX13_findForms_81 : decode cX13_findForms 81 = .ok (.getfield 217, 3) := by decide +kernel
theorem dX13_findForms_84 : decode cX13_findForms 84 = .ok (.if_icmp .ge 38, 3) := by decide +kernel
theorem dX13_findForms_87 : decode cX13_findForms 87 = .ok (.aload_n 0, 1) := by decide +kernel
theorem dX13_findForms_88 : decode cX13_findForms 88 = .ok (.getfield 109, 3) := by decide +kernel
theorem dX13_findForms_91 : decode cX13_findForms 91 = .ok (.iload_n 2, 1) := by decide +kernel
theorem dX13_findForms_92 : decode cX13_findForms 92 = .ok (.aload_n 0, 1) := by decide +kernel
theorem dX13_findForms_93 : decode cX13_findForms 93 = .ok (.getfield 109, 3) := by decide +kernel
theorem dX13_findForms_96 : decode cX13_findForms 96 = .ok (.iload_n 2, 1) := by decide +kernel
theorem dX13_findForms_97 : decode cX13_findForms 97 = .ok (.baload, 1) := by decide +kernel
theorem dX13_findForms_98 : decode cX13_findForms 98 = .ok (.ifCond .ne 12, 3) := by decide +kernel
theorem dX13_findForms_101 : decode cX13_findForms 101 = .ok (.aload_n 0, 1) := by decide +kernel
theorem dX13_findForms_102 : decode cX13_findForms 102 = .ok (.getfield 154, 3) := by decide +kernel
theorem dX13_findForms_105 : decode cX13_findForms 105 = .ok (.iload_n 2, 1) := by decide +kernel
theorem dX13_findForms_106 : decode cX13_findForms 106 = .ok (.baload, 1) := by decide +kernel
theorem dX13_findForms_107 : decode cX13_findForms 107 = .ok (.ifCond .eq 7, 3) := by decide +kernel
theorem dX13_findForms_110 : decode cX13_findForms 110 = .ok (.iconst 1, 1) := by decide +kernel
theorem dX13_findForms_111 : decode cX13_findForms 111 = .ok (.goto 4, 3) := by decide +kernel
theorem dX13_findForms_114 : decode cX13_findForms 114 = .ok (.iconst 0, 1) := by decide +kernel
theorem dX13_findForms_115 : decode cX13_findForms 115 = .ok (.bastore, 1) := by decide +kernel
theorem dX13_findForms_116 : decode cX13_findForms 116 = .ok (.iinc 2 1, 3) := by decide +kernel
theorem dX13_findForms_119 : decode cX13_findForms 119 = .ok (.goto (-40), 3) := by decide +kernel
theorem dX13_findForms_122 : decode cX13_findForms 122 = .ok (.goto (-115), 3) := by decide +kernel
theorem dX13_findForms_125 : decode cX13_findForms 125 = .ok (.return_, 1) := by decide +kernel

