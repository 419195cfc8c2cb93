set_option maxRecDepth 20000 in
theorem w_6_217 : (Jvm.Cond.methodLink "AssembleLinesModel" (457 : Nat) ({ cls := "AssembleLinesModel", name := "forget", desc := "()V" } : Jvm.MethodName)) ∈ b_Ws := bw_6 (List.mem_of_getElem? (i := 217) rfl) rfl
set_option maxRecDepth 20000 in
theorem w_6_219 : (Jvm.Cond.instanceMethod ({ cls := "AssembleLinesModel", name := "forget", desc := "()V" } : Jvm.MethodName)) ∈ b_Ws := bw_6 (List.mem_of_getElem? (i := 219) rfl) rfl
set_option maxRecDepth 20000 in
theorem w_6_220 : (Jvm.Cond.code ({ cls := "AssembleLinesModel", name := "forget", desc := "()V" } : Jvm.MethodName) prog_15_method_66_code (2 : Nat) (Option.none : Option Jvm.ClassFile.FieldType)) ∈ b_Ws := bw_6 (List.mem_of_getElem? (i := 220) rfl) rfl
set_option maxRecDepth 20000 in
theorem w_6_221 : (Jvm.Cond.methodLink "AssembleLinesModel" (460 : Nat) ({ cls := "AssembleLinesModel", name := "turnOne", desc := "()V" } : Jvm.MethodName)) ∈ b_Ws := bw_6 (List.mem_of_getElem? (i := 221) rfl) rfl
set_option maxRecDepth 20000 in
theorem w_6_223 : (Jvm.Cond.instanceMethod ({ cls := "AssembleLinesModel", name := "turnOne", desc := "()V" } : Jvm.MethodName)) ∈ b_Ws := bw_6 (List.mem_of_getElem? (i := 223) rfl) rfl
set_option maxRecDepth 20000 in
theorem w_6_224 : (Jvm.Cond.code ({ cls := "AssembleLinesModel", name := "turnOne", desc := "()V" } : Jvm.MethodName) prog_15_method_51_code (3 : Nat) (Option.none : Option Jvm.ClassFile.FieldType)) ∈ b_Ws := bw_6 (List.mem_of_getElem? (i := 224) rfl) rfl
set_option maxRecDepth 20000 in
theorem w_7_158 : (Jvm.Cond.methodLink "AssembleLinesModel" (463 : Nat) ({ cls := "AssembleLinesModel", name := "findForms", desc := "()V" } : Jvm.MethodName)) ∈ b_Ws := bw_7 (List.mem_of_getElem? (i := 158) rfl) rfl
set_option maxRecDepth 20000 in
theorem w_7_160 : (Jvm.Cond.instanceMethod ({ cls := "AssembleLinesModel", name := "findForms", desc := "()V" } : Jvm.MethodName)) ∈ b_Ws := bw_7 (List.mem_of_getElem? (i := 160) rfl) rfl
set_option maxRecDepth 20000 in
theorem w_7_161 : (Jvm.Cond.code ({ cls := "AssembleLinesModel", name := "findForms", desc := "()V" } : Jvm.MethodName) prog_15_method_58_code (3 : Nat) (Option.none : Option Jvm.ClassFile.FieldType)) ∈ b_Ws := bw_7 (List.mem_of_getElem? (i := 161) rfl) rfl
set_option maxRecDepth 20000 in
theorem w_7_186 : (Jvm.Cond.methodLink "AssembleLinesModel" (466 : Nat) ({ cls := "AssembleLinesModel", name := "turnTwo", desc := "()V" } : Jvm.MethodName)) ∈ b_Ws := bw_7 (List.mem_of_getElem? (i := 186) rfl) rfl
set_option maxRecDepth 20000 in
theorem w_7_188 : (Jvm.Cond.instanceMethod ({ cls := "AssembleLinesModel", name := "turnTwo", desc := "()V" } : Jvm.MethodName)) ∈ b_Ws := bw_7 (List.mem_of_getElem? (i := 188) rfl) rfl
set_option maxRecDepth 20000 in
theorem w_7_189 : (Jvm.Cond.code ({ cls := "AssembleLinesModel", name := "turnTwo", desc := "()V" } : Jvm.MethodName) prog_15_method_61_code (4 : Nat) (Option.none : Option Jvm.ClassFile.FieldType)) ∈ b_Ws := bw_7 (List.mem_of_getElem? (i := 189) rfl) rfl
set_option maxRecDepth 20000 in
theorem w_7_199 : (Jvm.Cond.methodLink "AssembleLinesModel" (469 : Nat) ({ cls := "AssembleLinesModel", name := "sayStatement", desc := "(I)V" } : Jvm.MethodName)) ∈ b_Ws := bw_7 (List.mem_of_getElem? (i := 199) rfl) rfl
set_option maxRecDepth 20000 in
theorem w_7_201 : (Jvm.Cond.instanceMethod ({ cls := "AssembleLinesModel", name := "sayStatement", desc := "(I)V" } : Jvm.MethodName)) ∈ b_Ws := bw_7 (List.mem_of_getElem? (i := 201) rfl) rfl
set_option maxRecDepth 20000 in
theorem w_7_202 : (Jvm.Cond.code ({ cls := "AssembleLinesModel", name := "sayStatement", desc := "(I)V" } : Jvm.MethodName) prog_15_method_65_code (6 : Nat) (Option.none : Option Jvm.ClassFile.FieldType)) ∈ b_Ws := bw_7 (List.mem_of_getElem? (i := 202) rfl) rfl
theorem dX13_assemble_0 : decode cX13_assemble 0 = .ok (.aload_n 0, 1) := by decide +kernel
theorem dX13_assemble_1 : decode cX13_assemble 1 = .ok (.iconst 0, 1) := by decide +kernel
theorem dX13_assemble_2 : decode cX13_assemble 2 = .ok (.putfield 157, 3) := by decide +kernel
theorem dX13_assemble_5 : decode cX13_assemble 5 = .ok (.aload_n 0, 1) := by decide +kernel
theorem dX13_assemble_6 : decode cX13_assemble 6 = .ok (.invokevirtual 457, 3) := by decide +kernel
theorem dX13_assemble_9 : decode cX13_assemble 9 = .ok (.aload_n 0, 1) := by decide +kernel
theorem dX13_assemble_10 : decode cX13_assemble 10 = .ok (.iconst 0, 1) := by decide +kernel
theorem dX13_assemble_11 : decode cX13_assemble 11 = .ok (.putfield 176, 3) := by decide +kernel
theorem dX13_assemble_14 : decode cX13_assemble 14 = .ok (.aload_n 0, 1) := by decide +kernel
theorem dX13_assemble_15 : decode cX13_assemble 15 = .ok (.iconst 0, 1) := by decide +kernel
theorem dX13_assemble_16 : decode cX13_assemble 16 = .ok (.putfield 172, 3) := by decide +kernel
theorem dX13_assemble_19 : decode cX13_assemble 19 = .ok (.aload_n 0, 1) := by decide +kernel
theorem dX13_assemble_20 : decode cX13_assemble 20 = .ok (.aload_n 0, 1) := by decide +kernel
theorem dX13_assemble_21 : decode cX13_assemble 21 = .ok (.getfield 161, 3) := by decide +kernel
theorem dX13_assemble_24 : decode cX13_assemble 24 = .ok (.putfield 403, 3) := by decide +kernel
theorem dX13_assemble_27 : decode cX13_assemble 27 = .ok (.iconst 0, 1) := by decide +kernel
theorem dX13_assemble_28 : decode cX13_assemble 28 = .ok (.istore_n 1, 1) := by decide +kernel
theorem dX13_assemble_29 : decode cX13_assemble 29 = .ok (.iload_n 1, 1) := by decide +kernel
theorem dX13_assemble_30 : decode cX13_assemble 30 = .ok (.aload_n 0, 1) := by decide +kernel
theorem dX13_assemble_31 : decode cX13_assemble 31 = .ok (.getfield 161, 3) := by decide +kernel
theorem dX13_assemble_34 : decode cX13_assemble 34 = .ok (.if_icmp .ge 21, 3) := by decide +kernel
theorem dX13_assemble_37 : decode cX13_assemble 37 = .ok (.aload_n 0, 1) := by decide +kernel
theorem dX13_assemble_38 : decode cX13_assemble 38 = .ok (.getfield 46, 3) := by decide +kernel
theorem dX13_assemble_41 : decode cX13_assemble 41 = .ok (.iload_n 1, 1) := by decide +kernel
theorem dX13_assemble_42 : decode cX13_assemble 42 = .ok (.aload_n 0, 1) := by decide +kernel
theorem dX13_assemble_43 : decode cX13_assemble 43 = .ok (.getfield 42, 3) := by decide +kernel
theorem dX13_assemble_46 : decode cX13_assemble 46 = .ok (.iload_n 1, 1) := by decide +kernel
theorem dX13_assemble_47 : decode cX13_assemble 47 = .ok (.iaload, 1) := by decide +kernel
theorem dX13_assemble_48 : decode cX13_assemble 48 = .ok (.iastore, 1) := by decide +kernel
theorem dX13_assemble_49 : decode cX13_assemble 49 = .ok (.iinc 1 1, 3) := by decide +kernel
theorem dX13_assemble_52 : decode cX13_assemble 52 = .ok (.goto (-23), 3) := by decide +kernel
theorem dX13_assemble_55 : decode cX13_assemble 55 = .ok (.aload_n 0, 1) := by decide +kernel
theorem dX13_assemble_56 : decode cX13_assemble 56 = .ok (.iconst 0, 1) := by decide +kernel
theorem dX13_assemble_57 : decode cX13_assemble 57 = .ok (.putfield 161, 3) := by decide +kernel
theorem dX13_assemble_60 : decode cX13_assemble 60 = .ok (.aload_n 0, 1) := by decide +kernel
theorem dX13_assemble_61 : decode cX13_assemble 61 = .ok (.invokevirtual 460, 3) := by decide +kernel
theorem dX13_assemble_64 : decode cX13_assemble 64 = .ok (.aload_n 0, 1) := by decide +kernel
theorem dX13_assemble_65 : decode cX13_assemble 65 = .ok (.getfield 172, 3) := by decide +kernel
theorem dX13_assemble_68 : decode cX13_assemble 68 = .ok (.ifCond .ne 11, 3) := by decide +kernel
theorem dX13_assemble_71 : decode cX13_assemble 71 = .ok (.aload_n 0, 1) := by decide +kernel
theorem dX13_assemble_72 : decode cX13_assemble 72 = .ok (.invokevirtual 463, 3) := by decide +kernel
theorem dX13_assemble_75 : decode cX13_assemble 75 = .ok (.aload_n 0, 1) := by decide +kernel
theorem dX13_assemble_76 : decode cX13_assemble 76 = .ok (.invokevirtual 466, 3) := by decide +kernel
theorem dX13_assemble_79 : decode cX13_assemble 79 = .ok (.aload_n 0, 1) := by decide +kernel
theorem dX13_assemble_80 : decode cX13_assemble 80 = .ok (.getfield 172, 3) := by decide +kernel
theorem dX13_assemble_83 : decode cX13_assemble 83 = .ok (.ifCond .eq 13, 3) := by decide +kernel
theorem dX13_assemble_86 : decode cX13_assemble 86 = .ok (.aload_n 0, 1) := by decide +kernel
theorem dX13_assemble_87 : decode cX13_assemble 87 = .ok (.invokevirtual 457, 3) := by decide +kernel
theorem dX13_assemble_90 : decode cX13_assemble 90 = .ok (.aload_n 0, 1) := by decide +kernel
theorem dX13_assemble_91 : decode cX13_assemble 91 = .ok (.iconst 1, 1) := by decide +kernel
theorem dX13_assemble_92 : decode cX13_assemble 92 = .ok (.invokevirtual 164, 3) := by decide +kernel
theorem dX13_assemble_95 : decode cX13_assemble 95 = .ok (.ireturn, 1) := by decide +kernel
theorem dX13_assemble_96 : decode cX13_assemble 96 = .ok (.iconst 0, 1) := by decide +kernel
theorem dX13_assemble_97 : decode cX13_assemble 97 = .ok (.istore_n 1, 1) := by decide +kernel
theorem dX13_assemble_98 : decode cX13_assemble 98 = .ok (.iload_n 1, 1) := by decide +kernel
theorem dX13_assemble_99 : decode cX13_assemble 99 = .ok (.aload_n 0, 1) := by decide +kernel
theorem dX13_assemble_100 : decode cX13_assemble 100 = .ok (.getfield 217, 3) := by decide +kernel
theorem dX13_assemble_103 : decode cX13_assemble 103 = .ok (.if_icmp .ge 14, 3) := by decide +kernel
theorem dX13_assemble_106 : decode cX13_assemble 106 = .ok (.aload_n 0, 1) := by decide +kernel
theorem dX13_assemble_107 : decode cX13_assemble 107 = .ok (.iload_n 1, 1) := by decide +kernel
theorem dX13_assemble_108 : decode cX13_assemble 108 = .ok (.invokevirtual 469, 3) := by decide +kernel
theorem dX13_assemble_111 : decode cX13_assemble 111 = .ok (.iinc 1 1, 3) := by decide +kernel
theorem dX13_assemble_114 : decode cX13_assemble 114 = .ok (.goto (-16), 3) := by decide +kernel
theorem dX13_assemble_117 : decode cX13_assemble 117 = .ok (.aload_n 0, 1) := by decide +kernel
theorem dX13_assemble_118 : decode cX13_assemble 118 = .ok (.aload_n 0, 1) := by decide +kernel
theorem dX13_assemble_119 : decode cX13_assemble 119 = .ok (.getfield 217, 3) := by decide +kernel
theorem dX13_assemble_122 : decode cX13_assemble 122 = .ok (.invokevirtual 451, 3) := by decide +kernel
theorem dX13_assemble_125 : decode cX13_assemble 125 = .ok (.aload_n 0, 1) := by decide +kernel
theorem dX13_assemble_126 : decode cX13_assemble 126 = .ok (.getfield 441, 3) := by decide +kernel
theorem dX13_assemble_129 : decode cX13_assemble 129 = .ok (.ireturn, 1) := by decide +kernel

