set_option maxRecDepth 20000 in
theorem w_5_221 : (Jvm.Cond.fieldLink "AssembleLinesModel" (403 : Nat) "AssembleLinesModel" "sourceSize" "I") ∈ b_Ws := bw_5 (List.mem_of_getElem? (i := 221) rfl) rfl
set_option maxRecDepth 20000 in
theorem w_5_225 : (Jvm.Cond.fieldLink "AssembleLinesModel" (268 : Nat) "AssembleLinesModel" "lineNumber" "I") ∈ b_Ws := bw_5 (List.mem_of_getElem? (i := 225) rfl) rfl
set_option maxRecDepth 20000 in
theorem w_5_228 : (Jvm.Cond.fieldLink "AssembleLinesModel" (214 : Nat) "AssembleLinesModel" "macros" "I") ∈ b_Ws := bw_5 (List.mem_of_getElem? (i := 228) rfl) rfl
set_option maxRecDepth 20000 in
theorem w_5_229 : (Jvm.Cond.fieldLink "AssembleLinesModel" (347 : Nat) "AssembleLinesModel" "bodies" "I") ∈ b_Ws := bw_5 (List.mem_of_getElem? (i := 229) rfl) rfl
set_option maxRecDepth 20000 in
theorem w_5_230 : (Jvm.Cond.fieldLink "AssembleLinesModel" (359 : Nat) "AssembleLinesModel" "calls" "I") ∈ b_Ws := bw_5 (List.mem_of_getElem? (i := 230) rfl) rfl
set_option maxRecDepth 20000 in
theorem w_5_236 : (Jvm.Cond.fieldLink "AssembleLinesModel" (335 : Nat) "AssembleLinesModel" "frames" "I") ∈ b_Ws := bw_5 (List.mem_of_getElem? (i := 236) rfl) rfl
set_option maxRecDepth 20000 in
theorem w_6_4 : (Jvm.Cond.fieldLink "AssembleLinesModel" (217 : Nat) "AssembleLinesModel" "statements" "I") ∈ b_Ws := bw_6 (List.mem_of_getElem? (i := 4) rfl) rfl
set_option maxRecDepth 20000 in
theorem w_6_15 : (Jvm.Cond.fieldLink "AssembleLinesModel" (271 : Nat) "AssembleLinesModel" "labels" "I") ∈ b_Ws := bw_6 (List.mem_of_getElem? (i := 15) rfl) rfl
set_option maxRecDepth 20000 in
theorem w_6_16 : (Jvm.Cond.fieldLink "AssembleLinesModel" (274 : Nat) "AssembleLinesModel" "expressions" "I") ∈ b_Ws := bw_6 (List.mem_of_getElem? (i := 16) rfl) rfl
set_option maxRecDepth 20000 in
theorem w_6_17 : (Jvm.Cond.fieldLink "AssembleLinesModel" (277 : Nat) "AssembleLinesModel" "poolSize" "I") ∈ b_Ws := bw_6 (List.mem_of_getElem? (i := 17) rfl) rfl
set_option maxRecDepth 20000 in
theorem w_6_24 : (Jvm.Cond.fieldLink "AssembleLinesModel" (283 : Nat) "AssembleLinesModel" "sets" "I") ∈ b_Ws := bw_6 (List.mem_of_getElem? (i := 24) rfl) rfl
set_option maxRecDepth 20000 in
theorem w_6_29 : (Jvm.Cond.fieldLink "AssembleLinesModel" (176 : Nat) "AssembleLinesModel" "errors" "I") ∈ b_Ws := bw_6 (List.mem_of_getElem? (i := 29) rfl) rfl
set_option maxRecDepth 20000 in
theorem w_6_30 : (Jvm.Cond.fieldLink "AssembleLinesModel" (172 : Nat) "AssembleLinesModel" "hasErrors" "Z") ∈ b_Ws := bw_6 (List.mem_of_getElem? (i := 30) rfl) rfl
set_option maxRecDepth 20000 in
theorem w_6_33 : (Jvm.Cond.fieldLink "AssembleLinesModel" (441 : Nat) "AssembleLinesModel" "words" "I") ∈ b_Ws := bw_6 (List.mem_of_getElem? (i := 33) rfl) rfl
set_option maxRecDepth 20000 in
theorem w_6_34 : (Jvm.Cond.fieldLink "AssembleLinesModel" (422 : Nat) "AssembleLinesModel" "rounds" "I") ∈ b_Ws := bw_6 (List.mem_of_getElem? (i := 34) rfl) rfl
set_option maxRecDepth 20000 in
theorem w_6_35 : (Jvm.Cond.fieldLink "AssembleLinesModel" (454 : Nat) "AssembleLinesModel" "longs" "I") ∈ b_Ws := bw_6 (List.mem_of_getElem? (i := 35) rfl) rfl
set_option maxRecDepth 20000 in
theorem w_6_36 : (Jvm.Cond.fieldLink "AssembleLinesModel" (415 : Nat) "AssembleLinesModel" "end" "I") ∈ b_Ws := bw_6 (List.mem_of_getElem? (i := 36) rfl) rfl
set_option maxRecDepth 20000 in
theorem w_6_44 : (Jvm.Cond.fieldLink "AssembleLinesModel" (350 : Nat) "AssembleLinesModel" "isOpen" "Z") ∈ b_Ws := bw_6 (List.mem_of_getElem? (i := 44) rfl) rfl
set_option maxRecDepth 20000 in
theorem w_6_45 : (Jvm.Cond.fieldLink "AssembleLinesModel" (344 : Nat) "AssembleLinesModel" "isPassing" "Z") ∈ b_Ws := bw_6 (List.mem_of_getElem? (i := 45) rfl) rfl
set_option maxRecDepth 20000 in
theorem w_6_217 : (Jvm.Cond.methodLink "AssembleLinesModel" (457 : Nat) ({ cls := "AssembleLinesModel", name := "forget", desc := "()V" } : Jvm.MethodName)) ∈ b_Ws := bw_6 (List.mem_of_getElem? (i := 217) rfl) rfl
set_option maxRecDepth 20000 in
theorem w_6_219 : (Jvm.Cond.instanceMethod ({ cls := "AssembleLinesModel", name := "forget", desc := "()V" } : Jvm.MethodName)) ∈ b_Ws := bw_6 (List.mem_of_getElem? (i := 219) rfl) rfl
set_option maxRecDepth 20000 in
theorem w_6_220 : (Jvm.Cond.code ({ cls := "AssembleLinesModel", name := "forget", desc := "()V" } : Jvm.MethodName) prog_15_method_66_code (2 : Nat) (Option.none : Option Jvm.ClassFile.FieldType)) ∈ b_Ws := bw_6 (List.mem_of_getElem? (i := 220) rfl) rfl
set_option maxRecDepth 20000 in
theorem w_6_221 : (Jvm.Cond.methodLink "AssembleLinesModel" (460 : Nat) ({ cls := "AssembleLinesModel", name := "turnOne", desc := "()V" } : Jvm.MethodName)) ∈ b_Ws := bw_6 (List.mem_of_getElem? (i := 221) rfl) rfl
set_option maxRecDepth 20000 in
theorem w_6_223 : (Jvm.Cond.instanceMethod ({ cls := "AssembleLinesModel", name := "turnOne", desc := "()V" } : Jvm.MethodName)) ∈ b_Ws := bw_6 (List.mem_of_getElem? (i := 223) rfl) rfl
set_option maxRecDepth 20000 in
theorem w_6_224 : (Jvm.Cond.code ({ cls := "AssembleLinesModel", name := "turnOne", desc := "()V" } : Jvm.MethodName) prog_15_method_51_code (3 : Nat) (Option.none : Option Jvm.ClassFile.FieldType)) ∈ b_Ws := bw_6 (List.mem_of_getElem? (i := 224) rfl) rfl
set_option maxRecDepth 20000 in
theorem w_7_158 : (Jvm.Cond.methodLink "AssembleLinesModel" (463 : Nat) ({ cls := "AssembleLinesModel", name := "findForms", desc := "()V" } : Jvm.MethodName)) ∈ b_Ws := bw_7 (List.mem_of_getElem? (i := 158) rfl) rfl
set_option maxRecDepth 20000 in
theorem w_7_160 : (Jvm.Cond.instanceMethod ({ cls := "AssembleLinesModel", name := "findForms", desc := "()V" } : Jvm.MethodName)) ∈ b_Ws := bw_7 (List.mem_of_getElem? (i := 160) rfl) rfl
set_option maxRecDepth 20000 in
theorem w_7_161 : (Jvm.Cond.code ({ cls := "AssembleLinesModel", name := "findForms", desc := "()V" } : Jvm.MethodName) prog_15_method_58_code (3 : Nat) (Option.none : Option Jvm.ClassFile.FieldType)) ∈ b_Ws := bw_7 (List.mem_of_getElem? (i := 161) rfl) rfl
set_option maxRecDepth 20000 in
theorem w_7_162 : (Jvm.Cond.methodLink "AssembleLinesModel" (425 : Nat) ({ cls := "AssembleLinesModel", name := "findPlaces", desc := "()V" } : Jvm.MethodName)) ∈ b_Ws := bw_7 (List.mem_of_getElem? (i := 162) rfl) rfl
set_option maxRecDepth 20000 in
theorem w_7_164 : (Jvm.Cond.instanceMethod ({ cls := "AssembleLinesModel", name := "findPlaces", desc := "()V" } : Jvm.MethodName)) ∈ b_Ws := bw_7 (List.mem_of_getElem? (i := 164) rfl) rfl
set_option maxRecDepth 20000 in
theorem w_7_165 : (Jvm.Cond.code ({ cls := "AssembleLinesModel", name := "findPlaces", desc := "()V" } : Jvm.MethodName) prog_15_method_54_code (3 : Nat) (Option.none : Option Jvm.ClassFile.FieldType)) ∈ b_Ws := bw_7 (List.mem_of_getElem? (i := 165) rfl) rfl
set_option maxRecDepth 20000 in
theorem w_7_170 : (Jvm.Cond.methodLink "AssembleLinesModel" (409 : Nat) ({ cls := "AssembleLinesModel", name := "literalsBefore", desc := "(I)I" } : Jvm.MethodName)) ∈ b_Ws := bw_7 (List.mem_of_getElem? (i := 170) rfl) rfl
set_option maxRecDepth 20000 in
theorem w_7_172 : (Jvm.Cond.instanceMethod ({ cls := "AssembleLinesModel", name := "literalsBefore", desc := "(I)I" } : Jvm.MethodName)) ∈ b_Ws := bw_7 (List.mem_of_getElem? (i := 172) rfl) rfl
set_option maxRecDepth 20000 in
theorem w_7_173 : (Jvm.Cond.code ({ cls := "AssembleLinesModel", name := "literalsBefore", desc := "(I)I" } : Jvm.MethodName) prog_15_method_52_code (4 : Nat) (Option.some Jvm.ClassFile.FieldType.int)) ∈ b_Ws := bw_7 (List.mem_of_getElem? (i := 173) rfl) rfl
set_option maxRecDepth 20000 in
theorem w_7_186 : (Jvm.Cond.methodLink "AssembleLinesModel" (466 : Nat) ({ cls := "AssembleLinesModel", name := "turnTwo", desc := "()V" } : Jvm.MethodName)) ∈ b_Ws := bw_7 (List.mem_of_getElem? (i := 186) rfl) rfl
set_option maxRecDepth 20000 in
theorem w_7_188 : (Jvm.Cond.instanceMethod ({ cls := "AssembleLinesModel", name := "turnTwo", desc := "()V" } : Jvm.MethodName)) ∈ b_Ws := bw_7 (List.mem_of_getElem? (i := 188) rfl) rfl
set_option maxRecDepth 20000 in
theorem w_7_189 : (Jvm.Cond.code ({ cls := "AssembleLinesModel", name := "turnTwo", desc := "()V" } : Jvm.MethodName) prog_15_method_61_code (4 : Nat) (Option.none : Option Jvm.ClassFile.FieldType)) ∈ b_Ws := bw_7 (List.mem_of_getElem? (i := 189) rfl) rfl
set_option maxRecDepth 20000 in
theorem w_7_190 : (Jvm.Cond.constant "AssembleLinesModel" (434 : Nat) (65535 : Int32)) ∈ b_Ws := bw_7 (List.mem_of_getElem? (i := 190) rfl) rfl
set_option maxRecDepth 20000 in
theorem w_7_212 : (Jvm.Cond.methodLink "AssembleLinesModel" (451 : Nat) ({ cls := "AssembleLinesModel", name := "sayPool", desc := "(I)V" } : Jvm.MethodName)) ∈ b_Ws := bw_7 (List.mem_of_getElem? (i := 212) rfl) rfl
set_option maxRecDepth 20000 in
theorem w_7_214 : (Jvm.Cond.instanceMethod ({ cls := "AssembleLinesModel", name := "sayPool", desc := "(I)V" } : Jvm.MethodName)) ∈ b_Ws := bw_7 (List.mem_of_getElem? (i := 214) rfl) rfl
set_option maxRecDepth 20000 in
theorem w_7_215 : (Jvm.Cond.code ({ cls := "AssembleLinesModel", name := "sayPool", desc := "(I)V" } : Jvm.MethodName) prog_15_method_64_code (4 : Nat) (Option.none : Option Jvm.ClassFile.FieldType)) ∈ b_Ws := bw_7 (List.mem_of_getElem? (i := 215) rfl) rfl
theorem dX13_forget_0 : decode cX13_forget 0 = .ok (.aload_n 0, 1) := by decide +kernel
theorem dX13_forget_1 : decode cX13_forget 1 = .ok (.iconst 0, 1) := by decide +kernel
theorem dX13_forget_2 : decode cX13_forget 2 = .ok (.putfield 214, 3) := by decide +kernel
theorem dX13_forget_5 : decode cX13_forget 5 = .ok (.aload_n 0, 1) := by decide +kernel
theorem dX13_forget_6 : decode cX13_forget 6 = .ok (.iconst 0, 1) := by decide +kernel
theorem dX13_forget_7 : decode cX13_forget 7 = .ok (.putfield 347, 3) := by decide +kernel
theorem dX13_forget_10 : decode cX13_forget 10 = .ok (.aload_n 0, 1) := by decide +kernel
theorem dX13_forget_11 : decode cX13_forget 11 = .ok (.iconst 0, 1) := by decide +kernel
theorem dX13_forget_12 : decode cX13_forget 12 = .ok (.putfield 359, 3) := by decide +kernel
theorem dX13_forget_15 : decode cX13_forget 15 = .ok (.aload_n 0, 1) := by decide +kernel
theorem dX13_forget_16 : decode cX13_forget 16 = .ok (.iconst 0, 1) := by decide +kernel
theorem dX13_forget_17 : decode cX13_forget 17 = .ok (.putfield 335, 3) := by decide +kernel
theorem dX13_forget_20 : decode cX13_forget 20 = .ok (.aload_n 0, 1) := by decide +kernel
theorem dX13_forget_21 : decode cX13_forget 21 = .ok (.iconst 0, 1) := by decide +kernel
theorem dX13_forget_22 : decode cX13_forget 22 = .ok (.putfield 217, 3) := by decide +kernel
theorem dX13_forget_25 : decode cX13_forget 25 = .ok (.aload_n 0, 1) := by decide +kernel
theorem dX13_forget_26 : decode cX13_forget 26 = .ok (.iconst 0, 1) := by decide +kernel
theorem dX13_forget_27 : decode cX13_forget 27 = .ok (.putfield 271, 3) := by decide +kernel
theorem dX13_forget_30 : decode cX13_forget 30 = .ok (.aload_n 0, 1) := by decide +kernel
theorem dX13_forget_31 : decode cX13_forget 31 = .ok (.iconst 0, 1) := by decide +kernel
theorem dX13_forget_32 : decode cX13_forget 32 = .ok (.putfield 274, 3) := by decide +kernel
theorem dX13_forget_35 : decode cX13_forget 35 = .ok (.aload_n 0, 1) := by decide +kernel
theorem dX13_forget_36 : decode cX13_forget 36 = .ok (.iconst 0, 1) := by decide +kernel
theorem dX13_forget_37 : decode cX13_forget 37 = .ok (.putfield 277, 3) := by decide +kernel
theorem dX13_forget_40 : decode cX13_forget 40 = .ok (.aload_n 0, 1) := by decide +kernel
theorem dX13_forget_41 : decode cX13_forget 41 = .ok (.iconst 0, 1) := by decide +kernel
theorem dX13_forget_42 : decode cX13_forget 42 = .ok (.putfield 283, 3) := by decide +kernel
theorem dX13_forget_45 : decode cX13_forget 45 = .ok (.aload_n 0, 1) := by decide +kernel
theorem dX13_forget_46 : decode cX13_forget 46 = .ok (.iconst 0, 1) := by decide +kernel
theorem dX13_forget_47 : decode cX13_forget 47 = .ok (.putfield 441, 3) := by decide +kernel
theorem dX13_forget_50 : decode cX13_forget 50 = .ok (.aload_n 0, 1) := by decide +kernel
theorem dX13_forget_51 : decode cX13_forget 51 = .ok (.iconst 0, 1) := by decide +kernel
theorem dX13_forget_52 : decode cX13_forget 52 = .ok (.putfield 422, 3) := by decide +kernel
theorem dX13_forget_55 : decode cX13_forget 55 = .ok (.aload_n 0, 1) := by decide +kernel
theorem dX13_forget_56 : decode cX13_forget 56 = .ok (.iconst 0, 1) := by decide +kernel
theorem dX13_forget_57 : decode cX13_forget 57 = .ok (.putfield 454, 3) := by decide +kernel
theorem dX13_forget_60 : decode cX13_forget 60 = .ok (.aload_n 0, 1) := by decide +kernel
theorem dX13_forget_61 : decode cX13_forget 61 = .ok (.iconst 0, 1) := by decide +kernel
theorem dX13_forget_62 : decode cX13_forget 62 = .ok (.putfield 350, 3) := by decide +kernel
theorem dX13_forget_65 : decode cX13_forget 65 = .ok (.aload_n 0, 1) := by decide +kernel
theorem dX13_forget_66 : decode cX13_forget 66 = .ok (.iconst 0, 1) := by decide +kernel
theorem dX13_forget_67 : decode cX13_forget 67 = .ok (.putfield 344, 3) := by decide +kernel
theorem dX13_forget_70 : decode cX13_forget 70 = .ok (.iconst 0, 1) := by decide +kernel
theorem dX13_forget_71 : decode cX13_forget 71 = .ok (.istore_n 1, 1) := by decide +kernel
theorem dX13_forget_72 : decode cX13_forget 72 = .ok (.iload_n 1, 1) := by decide +kernel
theorem dX13_forget_73 : decode cX13_forget 73 = .ok (.sipush 1021, 3) := by decide +kernel
theorem dX13_forget_76 : decode cX13_forget 76 = .ok (.if_icmp .ge 16, 3) := by decide +kernel
theorem dX13_forget_79 : decode cX13_forget 79 = .ok (.aload_n 0, 1) := by decide +kernel
theorem dX13_forget_80 : decode cX13_forget 80 = .ok (.getfield 141, 3) := by decide +kernel
theorem dX13_forget_83 : decode cX13_forget 83 = .ok (.iload_n 1, 1) := by decide +kernel
theorem dX13_forget_84 : decode cX13_forget 84 = .ok (.iconst (-1), 1) := by decide +kernel
theorem dX13_forget_85 : decode cX13_forget 85 = .ok (.iastore, 1) := by decide +kernel
theorem dX13_forget_86 : decode cX13_forget 86 = .ok (.iinc 1 1, 3) := by decide +kernel
theorem dX13_forget_89 : decode cX13_forget 89 = .ok (.goto (-17), 3) := by decide +kernel
theorem dX13_forget_92 : decode cX13_forget 92 = .ok (.iconst 0, 1) := by decide +kernel
theorem dX13_forget_93 : decode cX13_forget 93 = .ok (.istore_n 1, 1) := by decide +kernel
theorem dX13_forget_94 : decode cX13_forget 94 = .ok (.iload_n 1, 1) := by decide +kernel
theorem dX13_forget_95 : decode cX13_forget 95 = .ok (.sipush 400, 3) := by decide +kernel
theorem dX13_forget_98 : decode cX13_forget 98 = .ok (.if_icmp .ge 16, 3) := by decide +kernel
theorem dX13_forget_101 : decode cX13_forget 101 = .ok (.aload_n 0, 1) := by decide +kernel
theorem dX13_forget_102 : decode cX13_forget 102 = .ok (.getfield 154, 3) := by decide +kernel
theorem dX13_forget_105 : decode cX13_forget 105 = .ok (.iload_n 1, 1) := by decide +kernel
theorem dX13_forget_106 : decode cX13_forget 106 = .ok (.iconst 0, 1) := by decide +kernel
theorem dX13_forget_107 : decode cX13_forget 107 = .ok (.bastore, 1) := by decide +kernel
theorem dX13_forget_108 : decode cX13_forget 108 = .ok (.iinc 1 1, 3) := by decide +kernel
theorem dX13_forget_111 : decode cX13_forget 111 = .ok (.goto (-17), 3) := by decide +kernel
theorem dX13_forget_114 : decode cX13_forget 114 = .ok (.return_, 1) := by decide +kernel
theorem dX13_turnOne_0 : decode cX13_turnOne 0 = .ok (.iconst 0, 1) := by decide +kernel
theorem dX13_turnOne_1 : decode cX13_turnOne 1 = .ok (.istore_n 1, 1) := by decide +kernel
theorem dX13_turnOne_2 : decode cX13_turnOne 2 = .ok (.aload_n 0, 1) := by decide +kernel
theorem dX13_turnOne_3 : decode cX13_turnOne 3 = .ok (.iconst 0, 1) := by decide +kernel
theorem dX13_turnOne_4 : decode cX13_turnOne 4 = .ok (.putfield 268, 3) := by decide +kernel
theorem dX13_turnOne_7 : decode cX13_turnOne 7 = .ok (.iload_n 1, 1) := by decide +kernel
theorem dX13_turnOne_8 : decode cX13_turnOne 8 = .ok (.aload_n 0, 1) := by decide +kernel
theorem dX13_turnOne_9 : decode cX13_turnOne 9 = .ok (.getfield 403, 3) := by decide +kernel
theorem dX13_turnOne_12 : decode cX13_turnOne 12 = .ok (.if_icmp .ge 53, 3) := by decide +kernel
theorem dX13_turnOne_15 : decode cX13_turnOne 15 = .ok (.iload_n 1, 1) := by decide +kernel
theorem dX13_turnOne_16 : decode cX13_turnOne 16 = .ok (.istore_n 2, 1) := by decide +kernel
theorem dX13_turnOne_17 : decode cX13_turnOne 17 = .ok (.iload_n 2, 1) := by decide +kernel
theorem dX13_turnOne_18 : decode cX13_turnOne 18 = .ok (.aload_n 0, 1) := by decide +kernel
theorem dX13_turnOne_19 : decode cX13_turnOne 19 = .ok (.getfield 403, 3) := by decide +kernel
theorem dX13_turnOne_22 : decode cX13_turnOne 22 = .ok (.if_icmp .ge 20, 3) := by decide +kernel
theorem dX13_turnOne_25 : decode cX13_turnOne 25 = .ok (.aload_n 0, 1) := by decide +kernel
theorem dX13_turnOne_26 : decode cX13_turnOne 26 = .ok (.getfield 46, 3) := by decide +kernel
theorem dX13_turnOne_29 : decode cX13_turnOne 29 = .ok (.iload_n 2, 1) := by decide +kernel
theorem dX13_turnOne_30 : decode cX13_turnOne 30 = .ok (.iaload, 1) := by decide +kernel
theorem dX13_turnOne_31 : decode cX13_turnOne 31 = .ok (.bipush 10, 2) := by decide +kernel
theorem dX13_turnOne_33 : decode cX13_turnOne 33 = .ok (.if_icmp .eq 9, 3) := by decide +kernel
theorem dX13_turnOne_36 : decode cX13_turnOne 36 = .ok (.iinc 2 1, 3) := by decide +kernel
theorem dX13_turnOne_39 : decode cX13_turnOne 39 = .ok (.goto (-22), 3) := by decide +kernel
theorem dX13_turnOne_42 : decode cX13_turnOne 42 = .ok (.aload_n 0, 1) := by decide +kernel
theorem dX13_turnOne_43 : decode cX13_turnOne 43 = .ok (.dup, 1) := by decide +kernel
theorem dX13_turnOne_44 : decode cX13_turnOne 44 = .ok (.getfield 268, 3) := by decide +kernel
theorem dX13_turnOne_47 : decode cX13_turnOne 47 = .ok (.iconst 1, 1) := by decide +kernel
theorem dX13_turnOne_48 : decode cX13_turnOne 48 = .ok (.iadd, 1) := by decide +kernel
theorem dX13_turnOne_49 : decode cX13_turnOne 49 = .ok (.putfield 268, 3) := by decide +kernel
theorem dX13_turnOne_52 : decode cX13_turnOne 52 = .ok (.aload_n 0, 1) := by decide +kernel
theorem dX13_turnOne_53 : decode cX13_turnOne 53 = .ok (.iload_n 1, 1) := by decide +kernel
theorem dX13_turnOne_54 : decode cX13_turnOne 54 = .ok (.iload_n 2, 1) := by decide +kernel
theorem dX13_turnOne_55 : decode cX13_turnOne 55 = .ok (.invokevirtual 406, 3) := by decide +kernel
theorem dX13_turnOne_58 : decode cX13_turnOne 58 = .ok (.iload_n 2, 1) := by decide +kernel
theorem dX13_turnOne_59 : decode cX13_turnOne 59 = .ok (.iconst 1, 1) := by decide +kernel
theorem dX13_turnOne_60 : decode cX13_turnOne 60 = .ok (.iadd, 1) := by decide +kernel
theorem dX13_turnOne_61 : decode cX13_turnOne 61 = .ok (.istore_n 1, 1) := by decide +kernel
theorem dX13_turnOne_62 : decode cX13_turnOne 62 = .ok (.goto (-55), 3) := by decide +kernel
theorem dX13_turnOne_65 : decode cX13_turnOne 65 = .ok (.aload_n 0, 1) := by decide +kernel
theorem dX13_turnOne_66 : decode cX13_turnOne 66 = .ok (.getfield 350, 3) := by decide +kernel
theorem dX13_turnOne_69 : decode cX13_turnOne 69 = .ok (.ifCond .eq 12, 3) := by decide +kernel
theorem dX13_turnOne_72 : decode cX13_turnOne 72 = .ok (.aload_n 0, 1) := by decide +kernel
theorem dX13_turnOne_73 : decode cX13_turnOne 73 = .ok (.iconst 1, 1) := by decide +kernel
theorem dX13_turnOne_74 : decode cX13_turnOne 74 = .ok (.aload_n 0, 1) := by decide +kernel
theorem dX13_turnOne_75 : decode cX13_turnOne 75 = .ok (.getfield 353, 3) := by decide +kernel
theorem dX13_turnOne_78 : decode cX13_turnOne 78 = .ok (.invokevirtual 312, 3) := by decide +kernel
theorem dX13_turnOne_81 : decode cX13_turnOne 81 = .ok (.return_, 1) := by decide +kernel
theorem dX13_literalsBefore_0 : decode cX13_literalsBefore 0 = .ok (.iconst 0, 1) := by decide +kernel
theorem dX13_literalsBefore_1 : decode cX13_literalsBefore 1 = .ok (.istore_n 2, 1) := by decide +kernel
theorem dX13_literalsBefore_2 : decode cX13_literalsBefore 2 = .ok (.iload_n 1, 1) := by decide +kernel
theorem dX13_literalsBefore_3 : decode cX13_literalsBefore 3 = .ok (.iconst 1, 1) := by decide +kernel
theorem dX13_literalsBefore_4 : decode cX13_literalsBefore 4 = .ok (.isub, 1) := by decide +kernel
theorem dX13_literalsBefore_5 : decode cX13_literalsBefore 5 = .ok (.istore_n 3, 1) := by decide +kernel
theorem dX13_literalsBefore_6 : decode cX13_literalsBefore 6 = .ok (.iload_n 3, 1) := by decide +kernel
theorem dX13_literalsBefore_7 : decode cX13_literalsBefore 7 = .ok (.ifCond .lt 39, 3) := by decide +kernel
theorem dX13_literalsBefore_10 : decode cX13_literalsBefore 10 = .ok (.aload_n 0, 1) := by decide +kernel
theorem dX13_literalsBefore_11 : decode cX13_literalsBefore 11 = .ok (.getfield 88, 3) := by decide +kernel
theorem dX13_literalsBefore_14 : decode cX13_literalsBefore 14 = .ok (.iload_n 3, 1) := by decide +kernel
theorem dX13_literalsBefore_15 : decode cX13_literalsBefore 15 = .ok (.iaload, 1) := by decide +kernel
theorem dX13_literalsBefore_16 : decode cX13_literalsBefore 16 = .ok (.bipush 10, 2) := by decide +kernel
theorem dX13_literalsBefore_18 : decode cX13_literalsBefore 18 = .ok (.if_icmp .eq 28, 3) := by decide +kernel
theorem dX13_literalsBefore_21 : decode cX13_literalsBefore 21 = .ok (.iload_n 2, 1) := by decide +kernel
theorem dX13_literalsBefore_22 : decode cX13_literalsBefore 22 = .ok (.aload_n 0, 1) := by decide +kernel
theorem dX13_literalsBefore_23 : decode cX13_literalsBefore 23 = .ok (.getfield 88, 3) := by decide +kernel
theorem dX13_literalsBefore_26 : decode cX13_literalsBefore 26 = .ok (.iload_n 3, 1) := by decide +kernel
theorem dX13_literalsBefore_27 : decode cX13_literalsBefore 27 = .ok (.iaload, 1) := by decide +kernel
theorem dX13_literalsBefore_28 : decode cX13_literalsBefore 28 = .ok (.bipush 7, 2) := by decide +kernel
theorem dX13_literalsBefore_30 : decode cX13_literalsBefore 30 = .ok (.if_icmp .ne 7, 3) := by decide +kernel
theorem dX13_literalsBefore_33 : decode cX13_literalsBefore 33 = .ok (.iconst 1, 1) := by decide +kernel
theorem dX13_literalsBefore_34 : decode cX13_literalsBefore 34 = .ok (.goto 4, 3) := by decide +kernel
theorem dX13_literalsBefore_37 : decode cX13_literalsBefore 37 = .ok (.iconst 0, 1) := by decide +kernel
theorem dX13_literalsBefore_38 : decode cX13_literalsBefore 38 = .ok (.iadd, 1) := by decide +kernel
theorem dX13_literalsBefore_39 : decode cX13_literalsBefore 39 = .ok (.istore_n 2, 1) := by decide +kernel
theorem dX13_literalsBefore_40 : decode cX13_literalsBefore 40 = .ok (.iinc 3 (-1), 3) := by decide +kernel
theorem dX13_literalsBefore_43 : decode cX13_literalsBefore 43 = .ok (.goto (-37), 3) := by decide +kernel
theorem dX13_literalsBefore_46 : decode cX13_literalsBefore 46 = .ok (.iload_n 2, 1) := by decide +kernel
theorem dX13_literalsBefore_47 : decode cX13_literalsBefore 47 = .ok (.ireturn, 1) := by decide +kernel
theorem dX13_findPlaces_0 : decode cX13_findPlaces 0 = .ok (.iconst 0, 1) := by decide +kernel
theorem dX13_findPlaces_1 : decode cX13_findPlaces 1 = .ok (.istore_n 1, 1) := by decide +kernel
theorem dX13_findPlaces_2 : decode cX13_findPlaces 2 = .ok (.iconst 0, 1) := by decide +kernel
theorem dX13_findPlaces_3 : decode cX13_findPlaces 3 = .ok (.istore_n 2, 1) := by decide +kernel
theorem dX13_findPlaces_4 : decode cX13_findPlaces 4 = .ok (.iload_n 2, 1) := by decide +kernel
theorem dX13_findPlaces_5 : decode cX13_findPlaces 5 = .ok (.aload_n 0, 1) := by decide +kernel
theorem dX13_findPlaces_6 : decode cX13_findPlaces 6 = .ok (.getfield 217, 3) := by decide +kernel
theorem dX13_findPlaces_9 : decode cX13_findPlaces 9 = .ok (.if_icmp .ge 24, 3) := by decide +kernel
theorem dX13_findPlaces_12 : decode cX13_findPlaces 12 = .ok (.aload_n 0, 1) := by decide +kernel
theorem dX13_findPlaces_13 : decode cX13_findPlaces 13 = .ok (.getfield 113, 3) := by decide +kernel
theorem dX13_findPlaces_16 : decode cX13_findPlaces 16 = .ok (.iload_n 2, 1) := by decide +kernel
theorem dX13_findPlaces_17 : decode cX13_findPlaces 17 = .ok (.iload_n 1, 1) := by decide +kernel
theorem dX13_findPlaces_18 : decode cX13_findPlaces 18 = .ok (.iastore, 1) := by decide +kernel
theorem dX13_findPlaces_19 : decode cX13_findPlaces 19 = .ok (.iload_n 1, 1) := by decide +kernel
theorem dX13_findPlaces_20 : decode cX13_findPlaces 20 = .ok (.aload_n 0, 1) := by decide +kernel
theorem dX13_findPlaces_21 : decode cX13_findPlaces 21 = .ok (.iload_n 2, 1) := by decide +kernel
theorem dX13_findPlaces_22 : decode cX13_findPlaces 22 = .ok (.invokevirtual 412, 3) := by decide +kernel
theorem dX13_findPlaces_25 : decode cX13_findPlaces 25 = .ok (.iadd, 1) := by decide +kernel
theorem dX13_findPlaces_26 : decode cX13_findPlaces 26 = .ok (.istore_n 1, 1) := by decide +kernel
theorem dX13_findPlaces_27 : decode cX13_findPlaces 27 = .ok (.iinc 2 1, 3) := by decide +kernel
theorem dX13_findPlaces_30 : decode cX13_findPlaces 30 = .ok (.goto (-26), 3) := by decide +kernel
theorem dX13_findPlaces_33 : decode cX13_findPlaces 33 = .ok (.aload_n 0, 1) := by decide +kernel
theorem dX13_findPlaces_34 : decode cX13_findPlaces 34 = .ok (.iload_n 1, 1) := by decide +kernel
theorem dX13_findPlaces_35 : decode cX13_findPlaces 35 = .ok (.aload_n 0, 1) := by decide +kernel
theorem dX13_findPlaces_36 : decode cX13_findPlaces 36 = .ok (.aload_n 0, 1) := by decide +kernel
theorem dX13_findPlaces_37 : decode cX13_findPlaces 37 = .ok (.getfield 217, 3) := by decide +kernel
theorem dX13_findPlaces_40 : decode cX13_findPlaces 40 = .ok (.invokevirtual 409, 3) := by decide +kernel
theorem dX13_findPlaces_43 : decode cX13_findPlaces 43 = .ok (.iadd, 1) := by decide +kernel
theorem dX13_findPlaces_44 : decode cX13_findPlaces 44 = .ok (.putfield 415, 3) := by decide +kernel
theorem dX13_findPlaces_47 : decode cX13_findPlaces 47 = .ok (.return_, 1) := by decide +kernel
theorem dX13_findForms_0 : decode cX13_findForms 0 = .ok (.iconst 1, 1) := by decide +kernel
theorem dX13_findForms_1 : decode cX13_findForms 1 = .ok (.istore_n 1, 1) := by decide +kernel
theorem dX13_findForms_2 : decode cX13_findForms 2 = .ok (.aload_n 0, 1) := by decide +kernel
theorem dX13_findForms_3 : decode cX13_findForms 3 = .ok (.iconst 0, 1) := by decide +kernel
theorem dX13_findForms_4 : decode cX13_findForms 4 = .ok (.putfield 422, 3) := by decide +kernel
theorem dX13_findForms_7 : decode cX13_findForms 7 = .ok (.iload_n 1, 1) := by decide +kernel
theorem dX13_findForms_8 : decode cX13_findForms 8 = .ok (.ifCond .eq 117, 3) := by decide +kernel
theorem dX13_findForms_11 : decode cX13_findForms 11 = .ok (.iconst 0, 1) := by decide +kernel
theorem dX13_findForms_12 : decode cX13_findForms 12 = .ok (.istore_n 1, 1) := by decide +kernel
theorem dX13_findForms_13 : decode cX13_findForms 13 = .ok (.aload_n 0, 1) := by decide +kernel
theorem dX13_findForms_14 : decode cX13_findForms 14 = .ok (.dup, 1) := by decide +kernel
theorem dX13_findForms_15 : decode cX13_findForms 15 = .ok (.getfield 422, 3) := by decide +kernel
theorem dX13_findForms_18 : decode cX13_findForms 18 = .ok (.iconst 1, 1) := by decide +kernel
theorem dX13_findForms_19 : decode cX13_findForms 19 = .ok (.iadd, 1) := by decide +kernel
theorem dX13_findForms_20 : decode cX13_findForms 20 = .ok (.putfield 422, 3) := by decide +kernel
theorem dX13_findForms_23 : decode cX13_findForms 23 = .ok (.aload_n 0, 1) := by decide +kernel
theorem dX13_findForms_24 : decode cX13_findForms 24 = .ok (.invokevirtual 425, 3) := by decide +kernel
theorem dX13_findForms_27 : decode cX13_findForms 27 = .ok (.iconst 0, 1) := by decide +kernel
theorem dX13_findForms_28 : decode cX13_findForms 28 = .ok (.istore_n 2, 1) := by decide +kernel
theorem dX13_findForms_29 : decode cX13_findForms 29 = .ok (.iload_n 2, 1) := by decide +kernel
theorem dX13_findForms_30 : decode cX13_findForms 30 = .ok (.aload_n 0, 1) := by decide +kernel
theorem dX13_findForms_31 : decode cX13_findForms 31 = .ok (.getfield 217, 3) := by decide +kernel
theorem dX13_findForms_34 : decode cX13_findForms 34 = .ok (.if_icmp .ge 43, 3) := by decide +kernel
theorem dX13_findForms_37 : decode cX13_findForms 37 = .ok (.aload_n 0, 1) := by decide +kernel
theorem dX13_findForms_38 : decode cX13_findForms 38 = .ok (.iload_n 2, 1) := by decide +kernel
theorem dX13_findForms_39 : decode cX13_findForms 39 = .ok (.invokevirtual 428, 3) := by decide +kernel
theorem dX13_findForms_42 : decode cX13_findForms 42 = .ok (.ifCond .eq 29, 3) := by decide +kernel
theorem dX13_findForms_45 : decode cX13_findForms 45 = .ok (.aload_n 0, 1) := by decide +kernel
theorem dX13_findForms_46 : decode cX13_findForms 46 = .ok (.getfield 109, 3) := by decide +kernel
theorem dX13_findForms_49 : decode cX13_findForms 49 = .ok (.iload_n 2, 1) := by decide +kernel
theorem dX13_findForms_50 : decode cX13_findForms 50 = .ok (.baload, 1) := by decide +kernel
theorem dX13_findForms_51 : decode cX13_findForms 51 = .ok (.ifCond .ne 20, 3) := by decide +kernel
theorem dX13_findForms_54 : decode cX13_findForms 54 = .ok (.aload_n 0, 1) := by decide +kernel
theorem dX13_findForms_55 : decode cX13_findForms 55 = .ok (.iload_n 2, 1) := by decide +kernel
theorem dX13_findForms_56 : decode cX13_findForms 56 = .ok (.invokevirtual 431, 3) := by decide +kernel
theorem dX13_findForms_59 : decode cX13_findForms 59 = .ok (.ifCond .ne 12, 3) := by decide +kernel
theorem dX13_findForms_62 : decode cX13_findForms 62 = .ok (.aload_n 0, 1) := by decide +kernel
theorem dX13_findForms_63 : decode cX13_findForms 63 = .ok (.getfield 154, 3) := by decide +kernel
theorem dX13_findForms_66 : decode cX13_findForms 66 = .ok (.iload_n 2, 1) := by decide +kernel
theorem dX13_findForms_67 : decode cX13_findForms 67 = .ok (.iconst 1, 1) := by decide +kernel
theorem dX13_findForms_68 : decode cX13_findForms 68 = .ok (.bastore, 1) := by decide +kernel
theorem dX13_findForms_69 : decode cX13_findForms 69 = .ok (.iconst 1, 1) := by decide +kernel
theorem dX13_findForms_70 : decode cX13_findForms 70 = .ok (.istore_n 1, 1) := by decide +kernel
theorem dX13_findForms_71 : decode cX13_findForms 71 = .ok (.iinc 2 1, 3) := by decide +kernel
theorem dX13_findForms_74 : decode cX13_findForms 74 = .ok (.goto (-45), 3) := by decide +kernel
theorem dX13_findForms_77 : decode cX13_findForms 77 = .ok (.iconst 0, 1) := by decide +kernel
theorem dX13_findForms_78 : decode cX13_findForms 78 = .ok (.istore_n 2, 1) := by decide +kernel
theorem dX13_findForms_79 : decode cX13_findForms 79 = .ok (.iload_n 2, 1) := by decide +kernel
theorem dX13_findForms_80 : decode cX13_findForms 80 = .ok (.aload_n 0, 1) := by decide +kernel
theorem dX13_findForms_81 : decode cX13_findForms 81 = .ok (.getfield 217, 3) := by decide +kernel
theorem dX13_findForms_84 : decode cX13_findForms 84 = .ok (.if_icmp .ge 38, 3) := by decide +kernel
theorem dX13_findForms_87 : decode cX13_findForms 87 = .ok (.aload_n 0, 1) := by decide +kernel
theorem dX13_findForms_88 : decode cX13_findForms 88 = .ok (.getfield 109, 3) := by decide +kernel
theorem dX13_findForms_91 : decode cX13_findForms 91 = .ok (.iload_n 2, 1) := by decide +kernel
theorem dX13_findForms_92 : decode cX13_findForms 92 = .ok (.aload_n 0, 1) := by decide +kernel
theorem dX13_findForms_93 : decode cX13_findForms 93 = .ok (.getfield 109, 3) := by decide +kernel
theorem dX13_findForms_96 : decode cX13_findForms 96 = .ok (.iload_n 2, 1) := by decide +kernel
theorem dX13_findForms_97 : decode cX13_findForms 97 = .ok (.baload, 1) := by decide +kernel
theorem dX13_findForms_98 : decode cX13_findForms 98 = .ok (.ifCond .ne 12, 3) := by decide +kernel
theorem dX13_findForms_101 : decode cX13_findForms 101 = .ok (.aload_n 0, 1) := by decide +kernel
theorem dX13_findForms_102 : decode cX13_findForms 102 = .ok (.getfield 154, 3) := by decide +kernel
theorem dX13_findForms_105 : decode cX13_findForms 105 = .ok (.iload_n 2, 1) := by decide +kernel
theorem dX13_findForms_106 : decode cX13_findForms 106 = .ok (.baload, 1) := by decide +kernel
theorem dX13_findForms_107 : decode cX13_findForms 107 = .ok (.ifCond .eq 7, 3) := by decide +kernel
theorem dX13_findForms_110 : decode cX13_findForms 110 = .ok (.iconst 1, 1) := by decide +kernel
theorem dX13_findForms_111 : decode cX13_findForms 111 = .ok (.goto 4, 3) := by decide +kernel
theorem dX13_findForms_114 : decode cX13_findForms 114 = .ok (.iconst 0, 1) := by decide +kernel
theorem dX13_findForms_115 : decode cX13_findForms 115 = .ok (.bastore, 1) := by decide +kernel
theorem dX13_findForms_116 : decode cX13_findForms 116 = .ok (.iinc 2 1, 3) := by decide +kernel
theorem dX13_findForms_119 : decode cX13_findForms 119 = .ok (.goto (-40), 3) := by decide +kernel
theorem dX13_findForms_122 : decode cX13_findForms 122 = .ok (.goto (-115), 3) := by decide +kernel
theorem dX13_findForms_125 : decode cX13_findForms 125 = .ok (.return_, 1) := by decide +kernel
theorem dX13_turnTwo_0 : decode cX13_turnTwo 0 = .ok (.aload_n 0, 1) := by decide +kernel
theorem dX13_turnTwo_1 : decode cX13_turnTwo 1 = .ok (.getfield 415, 3) := by decide +kernel
theorem dX13_turnTwo_4 : decode cX13_turnTwo 4 = .ok (.ldc_w 434, 3) := by decide +kernel
theorem dX13_turnTwo_7 : decode cX13_turnTwo 7 = .ok (.if_icmp .le 10, 3) := by decide +kernel
theorem dX13_turnTwo_10 : decode cX13_turnTwo 10 = .ok (.aload_n 0, 1) := by decide +kernel
theorem dX13_turnTwo_11 : decode cX13_turnTwo 11 = .ok (.iconst 5, 1) := by decide +kernel
theorem dX13_turnTwo_12 : decode cX13_turnTwo 12 = .ok (.iconst 0, 1) := by decide +kernel
theorem dX13_turnTwo_13 : decode cX13_turnTwo 13 = .ok (.invokevirtual 312, 3) := by decide +kernel
theorem dX13_turnTwo_16 : decode cX13_turnTwo 16 = .ok (.return_, 1) := by decide +kernel
theorem dX13_turnTwo_17 : decode cX13_turnTwo 17 = .ok (.iconst 0, 1) := by decide +kernel
theorem dX13_turnTwo_18 : decode cX13_turnTwo 18 = .ok (.istore_n 1, 1) := by decide +kernel
theorem dX13_turnTwo_19 : decode cX13_turnTwo 19 = .ok (.iload_n 1, 1) := by decide +kernel
theorem dX13_turnTwo_20 : decode cX13_turnTwo 20 = .ok (.aload_n 0, 1) := by decide +kernel
theorem dX13_turnTwo_21 : decode cX13_turnTwo 21 = .ok (.getfield 217, 3) := by decide +kernel
theorem dX13_turnTwo_24 : decode cX13_turnTwo 24 = .ok (.if_icmp .ge 77, 3) := by decide +kernel
theorem dX13_turnTwo_27 : decode cX13_turnTwo 27 = .ok (.iconst 0, 1) := by decide +kernel
theorem dX13_turnTwo_28 : decode cX13_turnTwo 28 = .ok (.istore_n 2, 1) := by decide +kernel
theorem dX13_turnTwo_29 : decode cX13_turnTwo 29 = .ok (.iload_n 2, 1) := by decide +kernel
theorem dX13_turnTwo_30 : decode cX13_turnTwo 30 = .ok (.aload_n 0, 1) := by decide +kernel
theorem dX13_turnTwo_31 : decode cX13_turnTwo 31 = .ok (.getfield 97, 3) := by decide +kernel
theorem dX13_turnTwo_34 : decode cX13_turnTwo 34 = .ok (.iload_n 1, 1) := by decide +kernel
theorem dX13_turnTwo_35 : decode cX13_turnTwo 35 = .ok (.iaload, 1) := by decide +kernel
theorem dX13_turnTwo_36 : decode cX13_turnTwo 36 = .ok (.if_icmp .ge 59, 3) := by decide +kernel
theorem dX13_turnTwo_39 : decode cX13_turnTwo 39 = .ok (.aload_n 0, 1) := by decide +kernel
theorem dX13_turnTwo_40 : decode cX13_turnTwo 40 = .ok (.iload_n 1, 1) := by decide +kernel
theorem dX13_turnTwo_41 : decode cX13_turnTwo 41 = .ok (.iload_n 2, 1) := by decide +kernel
theorem dX13_turnTwo_42 : decode cX13_turnTwo 42 = .ok (.invokevirtual 438, 3) := by decide +kernel
theorem dX13_turnTwo_45 : decode cX13_turnTwo 45 = .ok (.istore_n 3, 1) := by decide +kernel
theorem dX13_turnTwo_46 : decode cX13_turnTwo 46 = .ok (.aload_n 0, 1) := by decide +kernel
theorem dX13_turnTwo_47 : decode cX13_turnTwo 47 = .ok (.iload_n 1, 1) := by decide +kernel
theorem dX13_turnTwo_48 : decode cX13_turnTwo 48 = .ok (.iload_n 2, 1) := by decide +kernel
theorem dX13_turnTwo_49 : decode cX13_turnTwo 49 = .ok (.invokevirtual 418, 3) := by decide +kernel
theorem dX13_turnTwo_52 : decode cX13_turnTwo 52 = .ok (.pop, 1) := by decide +kernel
theorem dX13_turnTwo_53 : decode cX13_turnTwo 53 = .ok (.aload_n 0, 1) := by decide +kernel
theorem dX13_turnTwo_54 : decode cX13_turnTwo 54 = .ok (.getfield 259, 3) := by decide +kernel
theorem dX13_turnTwo_57 : decode cX13_turnTwo 57 = .ok (.ifCond .eq 17, 3) := by decide +kernel
theorem dX13_turnTwo_60 : decode cX13_turnTwo 60 = .ok (.aload_n 0, 1) := by decide +kernel
theorem dX13_turnTwo_61 : decode cX13_turnTwo 61 = .ok (.iconst 4, 1) := by decide +kernel
theorem dX13_turnTwo_62 : decode cX13_turnTwo 62 = .ok (.aload_n 0, 1) := by decide +kernel
theorem dX13_turnTwo_63 : decode cX13_turnTwo 63 = .ok (.getfield 85, 3) := by decide +kernel
theorem dX13_turnTwo_66 : decode cX13_turnTwo 66 = .ok (.iload_n 1, 1) := by decide +kernel
theorem dX13_turnTwo_67 : decode cX13_turnTwo 67 = .ok (.iaload, 1) := by decide +kernel
theorem dX13_turnTwo_68 : decode cX13_turnTwo 68 = .ok (.invokevirtual 312, 3) := by decide +kernel
theorem dX13_turnTwo_71 : decode cX13_turnTwo 71 = .ok (.goto 18, 3) := by decide +kernel
theorem dX13_turnTwo_74 : decode cX13_turnTwo 74 = .ok (.iload_n 3, 1) := by decide +kernel
theorem dX13_turnTwo_75 : decode cX13_turnTwo 75 = .ok (.ifCond .ne 14, 3) := by decide +kernel
theorem dX13_turnTwo_78 : decode cX13_turnTwo 78 = .ok (.aload_n 0, 1) := by decide +kernel
theorem dX13_turnTwo_79 : decode cX13_turnTwo 79 = .ok (.iconst 5, 1) := by decide +kernel
theorem dX13_turnTwo_80 : decode cX13_turnTwo 80 = .ok (.aload_n 0, 1) := by decide +kernel
theorem dX13_turnTwo_81 : decode cX13_turnTwo 81 = .ok (.getfield 85, 3) := by decide +kernel
theorem dX13_turnTwo_84 : decode cX13_turnTwo 84 = .ok (.iload_n 1, 1) := by decide +kernel
theorem dX13_turnTwo_85 : decode cX13_turnTwo 85 = .ok (.iaload, 1) := by decide +kernel
theorem dX13_turnTwo_86 : decode cX13_turnTwo 86 = .ok (.invokevirtual 312, 3) := by decide +kernel
theorem dX13_turnTwo_89 : decode cX13_turnTwo 89 = .ok (.iinc 2 1, 3) := by decide +kernel
theorem dX13_turnTwo_92 : decode cX13_turnTwo 92 = .ok (.goto (-63), 3) := by decide +kernel
theorem dX13_turnTwo_95 : decode cX13_turnTwo 95 = .ok (.iinc 1 1, 3) := by decide +kernel
theorem dX13_turnTwo_98 : decode cX13_turnTwo 98 = .ok (.goto (-79), 3) := by decide +kernel
theorem dX13_turnTwo_101 : decode cX13_turnTwo 101 = .ok (.return_, 1) := by decide +kernel
theorem dX13_sayPool_0 : decode cX13_sayPool 0 = .ok (.iload_n 1, 1) := by decide +kernel
theorem dX13_sayPool_1 : decode cX13_sayPool 1 = .ok (.iconst 1, 1) := by decide +kernel
theorem dX13_sayPool_2 : decode cX13_sayPool 2 = .ok (.isub, 1) := by decide +kernel
theorem dX13_sayPool_3 : decode cX13_sayPool 3 = .ok (.istore_n 2, 1) := by decide +kernel
theorem dX13_sayPool_4 : decode cX13_sayPool 4 = .ok (.iload_n 2, 1) := by decide +kernel
theorem dX13_sayPool_5 : decode cX13_sayPool 5 = .ok (.ifCond .lt 20, 3) := by decide +kernel
theorem dX13_sayPool_8 : decode cX13_sayPool 8 = .ok (.aload_n 0, 1) := by decide +kernel
theorem dX13_sayPool_9 : decode cX13_sayPool 9 = .ok (.getfield 88, 3) := by decide +kernel
theorem dX13_sayPool_12 : decode cX13_sayPool 12 = .ok (.iload_n 2, 1) := by decide +kernel
theorem dX13_sayPool_13 : decode cX13_sayPool 13 = .ok (.iaload, 1) := by decide +kernel
theorem dX13_sayPool_14 : decode cX13_sayPool 14 = .ok (.bipush 10, 2) := by decide +kernel
theorem dX13_sayPool_16 : decode cX13_sayPool 16 = .ok (.if_icmp .eq 9, 3) := by decide +kernel
theorem dX13_sayPool_19 : decode cX13_sayPool 19 = .ok (.iinc 2 (-1), 3) := by decide +kernel
theorem dX13_sayPool_22 : decode cX13_sayPool 22 = .ok (.goto (-18), 3) := by decide +kernel
theorem dX13_sayPool_25 : decode cX13_sayPool 25 = .ok (.iload_n 2, 1) := by decide +kernel
theorem dX13_sayPool_26 : decode cX13_sayPool 26 = .ok (.iconst 1, 1) := by decide +kernel
theorem dX13_sayPool_27 : decode cX13_sayPool 27 = .ok (.iadd, 1) := by decide +kernel
theorem dX13_sayPool_28 : decode cX13_sayPool 28 = .ok (.istore_n 3, 1) := by decide +kernel
theorem dX13_sayPool_29 : decode cX13_sayPool 29 = .ok (.iload_n 3, 1) := by decide +kernel
theorem dX13_sayPool_30 : decode cX13_sayPool 30 = .ok (.iload_n 1, 1) := by decide +kernel
theorem dX13_sayPool_31 : decode cX13_sayPool 31 = .ok (.if_icmp .ge 30, 3) := by decide +kernel
theorem dX13_sayPool_34 : decode cX13_sayPool 34 = .ok (.aload_n 0, 1) := by decide +kernel
theorem dX13_sayPool_35 : decode cX13_sayPool 35 = .ok (.getfield 88, 3) := by decide +kernel
theorem dX13_sayPool_38 : decode cX13_sayPool 38 = .ok (.iload_n 3, 1) := by decide +kernel
theorem dX13_sayPool_39 : decode cX13_sayPool 39 = .ok (.iaload, 1) := by decide +kernel
theorem dX13_sayPool_40 : decode cX13_sayPool 40 = .ok (.bipush 7, 2) := by decide +kernel
theorem dX13_sayPool_42 : decode cX13_sayPool 42 = .ok (.if_icmp .ne 13, 3) := by decide +kernel
theorem dX13_sayPool_45 : decode cX13_sayPool 45 = .ok (.aload_n 0, 1) := by decide +kernel
theorem dX13_sayPool_46 : decode cX13_sayPool 46 = .ok (.aload_n 0, 1) := by decide +kernel
theorem dX13_sayPool_47 : decode cX13_sayPool 47 = .ok (.iload_n 3, 1) := by decide +kernel
theorem dX13_sayPool_48 : decode cX13_sayPool 48 = .ok (.iconst 0, 1) := by decide +kernel
theorem dX13_sayPool_49 : decode cX13_sayPool 49 = .ok (.invokevirtual 418, 3) := by decide +kernel
theorem dX13_sayPool_52 : decode cX13_sayPool 52 = .ok (.invokevirtual 444, 3) := by decide +kernel
theorem dX13_sayPool_55 : decode cX13_sayPool 55 = .ok (.iinc 3 1, 3) := by decide +kernel
theorem dX13_sayPool_58 : decode cX13_sayPool 58 = .ok (.goto (-29), 3) := by decide +kernel
theorem dX13_sayPool_61 : decode cX13_sayPool 61 = .ok (.return_, 1) := by decide +kernel
theorem dX13_assemble_0 : decode cX13_assemble 0 = .ok (.aload_n 0, 1) := by decide +kernel
theorem dX13_assemble_1 : decode cX13_assemble 1 = .ok (.iconst 0, 1) := by decide +kernel
theorem dX13_assemble_2 : decode cX13_assemble 2 = .ok (.putfield 157, 3) := by decide +kernel
theorem dX13_assemble_5 : decode cX13_assemble 5 = .ok (.aload_n 0, 1) := by decide +kernel
theorem dX13_assemble_6 : decode cX13_assemble 6 = .ok (.invokevirtual 457, 3) := by decide +kernel
theorem dX13_assemble_9 : decode cX13_assemble 9 = .ok (.aload_n 0, 1) := by decide +kernel
theorem dX13_assemble_10 : decode cX13_assemble 10 = .ok (.iconst 0, 1) := by decide +kernel
theorem dX13_assemble_11 : decode cX13_assemble 11 = .ok (.putfield 176, 3) := by decide +kernel
theorem dX13_assemble_14 : decode cX13_assemble 14 = .ok (.aload_n 0, 1) := by decide +kernel
theorem dX13_assemble_15 : decode cX13_assemble 15 = .ok (.iconst 0, 1) := by decide +kernel
theorem dX13_assemble_16 : decode cX13_assemble 16 = .ok (.putfield 172, 3) := by decide +kernel
theorem dX13_assemble_19 : decode cX13_assemble 19 = .ok (.aload_n 0, 1) := by decide +kernel
theorem dX13_assemble_20 : decode cX13_assemble 20 = .ok (.aload_n 0, 1) := by decide +kernel
theorem dX13_assemble_21 : decode cX13_assemble 21 = .ok (.getfield 161, 3) := by decide +kernel
theorem dX13_assemble_24 : decode cX13_assemble 24 = .ok (.putfield 403, 3) := by decide +kernel
theorem dX13_assemble_27 : decode cX13_assemble 27 = .ok (.iconst 0, 1) := by decide +kernel
theorem dX13_assemble_28 : decode cX13_assemble 28 = .ok (.istore_n 1, 1) := by decide +kernel
theorem dX13_assemble_29 : decode cX13_assemble 29 = .ok (.iload_n 1, 1) := by decide +kernel
theorem dX13_assemble_30 : decode cX13_assemble 30 = .ok (.aload_n 0, 1) := by decide +kernel
theorem dX13_assemble_31 : decode cX13_assemble 31 = .ok (.getfield 161, 3) := by decide +kernel
theorem dX13_assemble_34 : decode cX13_assemble 34 = .ok (.if_icmp .ge 21, 3) := by decide +kernel
theorem dX13_assemble_37 : decode cX13_assemble 37 = .ok (.aload_n 0, 1) := by decide +kernel
theorem dX13_assemble_38 : decode cX13_assemble 38 = .ok (.getfield 46, 3) := by decide +kernel
theorem dX13_assemble_41 : decode cX13_assemble 41 = .ok (.iload_n 1, 1) := by decide +kernel
theorem dX13_assemble_42 : decode cX13_assemble 42 = .ok (.aload_n 0, 1) := by decide +kernel
theorem dX13_assemble_43 : decode cX13_assemble 43 = .ok (.getfield 42, 3) := by decide +kernel
theorem dX13_assemble_46 : decode cX13_assemble 46 = .ok (.iload_n 1, 1) := by decide +kernel
theorem dX13_assemble_47 : decode cX13_assemble 47 = .ok (.iaload, 1) := by decide +kernel
theorem dX13_assemble_48 : decode cX13_assemble 48 = .ok (.iastore, 1) := by decide +kernel
theorem dX13_assemble_49 : decode cX13_assemble 49 = .ok (.iinc 1 1, 3) := by decide +kernel
theorem dX13_assemble_52 : decode cX13_assemble 52 = .ok (.goto (-23), 3) := by decide +kernel
theorem dX13_assemble_55 : decode cX13_assemble 55 = .ok (.aload_n 0, 1) := by decide +kernel
theorem dX13_assemble_56 : decode cX13_assemble 56 = .ok (.iconst 0, 1) := by decide +kernel
theorem dX13_assemble_57 : decode cX13_assemble 57 = .ok (.putfield 161, 3) := by decide +kernel
theorem dX13_assemble_60 : decode cX13_assemble 60 = .ok (.aload_n 0, 1) := by decide +kernel
theorem dX13_assemble_61 : decode cX13_assemble 61 = .ok (.invokevirtual 460, 3) := by decide +kernel
theorem dX13_assemble_64 : decode cX13_assemble 64 = .ok (.aload_n 0, 1) := by decide +kernel
theorem dX13_assemble_65 : decode cX13_assemble 65 = .ok (.getfield 172, 3) := by decide +kernel
theorem dX13_assemble_68 : decode cX13_assemble 68 = .ok (.ifCond .ne 11, 3) := by decide +kernel
theorem dX13_assemble_71 : decode cX13_assemble 71 = .ok (.aload_n 0, 1) := by decide +kernel
theorem dX13_assemble_72 : decode cX13_assemble 72 = .ok (.invokevirtual 463, 3) := by decide +kernel
theorem dX13_assemble_75 : decode cX13_assemble 75 = .ok (.aload_n 0, 1) := by decide +kernel
theorem dX13_assemble_76 : decode cX13_assemble 76 = .ok (.invokevirtual 466, 3) := by decide +kernel
theorem dX13_assemble_79 : decode cX13_assemble 79 = .ok (.aload_n 0, 1) := by decide +kernel
theorem dX13_assemble_80 : decode cX13_assemble 80 = .ok (.getfield 172, 3) := by decide +kernel
theorem dX13_assemble_83 : decode cX13_assemble 83 = .ok (.ifCond .eq 13, 3) := by decide +kernel
theorem dX13_assemble_86 : decode cX13_assemble 86 = .ok (.aload_n 0, 1) := by decide +kernel
theorem dX13_assemble_87 : decode cX13_assemble 87 = .ok (.invokevirtual 457, 3) := by decide +kernel
theorem dX13_assemble_90 : decode cX13_assemble 90 = .ok (.aload_n 0, 1) := by decide +kernel
theorem dX13_assemble_91 : decode cX13_assemble 91 = .ok (.iconst 1, 1) := by decide +kernel
theorem dX13_assemble_92 : decode cX13_assemble 92 = .ok (.invokevirtual 164, 3) := by decide +kernel
theorem dX13_assemble_95 : decode cX13_assemble 95 = .ok (.ireturn, 1) := by decide +kernel
theorem dX13_assemble_96 : decode cX13_assemble 96 = .ok (.iconst 0, 1) := by decide +kernel
theorem dX13_assemble_97 : decode cX13_assemble 97 = .ok (.istore_n 1, 1) := by decide +kernel
theorem dX13_assemble_98 : decode cX13_assemble 98 = .ok (.iload_n 1, 1) := by decide +kernel
theorem dX13_assemble_99 : decode cX13_assemble 99 = .ok (.aload_n 0, 1) := by decide +kernel
theorem dX13_assemble_100 : decode cX13_assemble 100 = .ok (.getfield 217, 3) := by decide +kernel
theorem dX13_assemble_103 : decode cX13_assemble 103 = .ok (.if_icmp .ge 14, 3) := by decide +kernel
theorem dX13_assemble_106 : decode cX13_assemble 106 = .ok (.aload_n 0, 1) := by decide +kernel
theorem dX13_assemble_107 : decode cX13_assemble 107 = .ok (.iload_n 1, 1) := by decide +kernel
theorem dX13_assemble_108 : decode cX13_assemble 108 = .ok (.invokevirtual 469, 3) := by decide +kernel
theorem dX13_assemble_111 : decode cX13_assemble 111 = .ok (.iinc 1 1, 3) := by decide +kernel
theorem dX13_assemble_114 : decode cX13_assemble 114 = .ok (.goto (-16), 3) := by decide +kernel
theorem dX13_assemble_117 : decode cX13_assemble 117 = .ok (.aload_n 0, 1) := by decide +kernel
theorem dX13_assemble_118 : decode cX13_assemble 118 = .ok (.aload_n 0, 1) := by decide +kernel
theorem dX13_assemble_119 : decode cX13_assemble 119 = .ok (.getfield 217, 3) := by decide +kernel
theorem dX13_assemble_122 : decode cX13_assemble 122 = .ok (.invokevirtual 451, 3) := by decide +kernel
theorem dX13_assemble_125 : decode cX13_assemble 125 = .ok (.aload_n 0, 1) := by decide +kernel
theorem dX13_assemble_126 : decode cX13_assemble 126 = .ok (.getfield 441, 3) := by decide +kernel
theorem dX13_assemble_129 : decode cX13_assemble 129 = .ok (.ireturn, 1) := by decide +kernel
theorem dX13_error_0 : decode cX13_error 0 = .ok (.aload_n 0, 1) := by decide +kernel
theorem dX13_error_1 : decode cX13_error 1 = .ok (.iconst 0, 1) := by decide +kernel
theorem dX13_error_2 : decode cX13_error 2 = .ok (.putfield 157, 3) := by decide +kernel
theorem dX13_error_5 : decode cX13_error 5 = .ok (.iload_n 1, 1) := by decide +kernel
theorem dX13_error_6 : decode cX13_error 6 = .ok (.iconst 0, 1) := by decide +kernel
theorem dX13_error_7 : decode cX13_error 7 = .ok (.aload_n 0, 1) := by decide +kernel
theorem dX13_error_8 : decode cX13_error 8 = .ok (.getfield 176, 3) := by decide +kernel
theorem dX13_error_11 : decode cX13_error 11 = .ok (.iconst 1, 1) := by decide +kernel
theorem dX13_error_12 : decode cX13_error 12 = .ok (.isub, 1) := by decide +kernel
theorem dX13_error_13 : decode cX13_error 13 = .ok (.invokestatic 168, 3) := by decide +kernel
theorem dX13_error_16 : decode cX13_error 16 = .ok (.ifCond .eq 12, 3) := by decide +kernel
theorem dX13_error_19 : decode cX13_error 19 = .ok (.iload_n 2, 1) := by decide +kernel
theorem dX13_error_20 : decode cX13_error 20 = .ok (.iconst 0, 1) := by decide +kernel
theorem dX13_error_21 : decode cX13_error 21 = .ok (.iconst 1, 1) := by decide +kernel
theorem dX13_error_22 : decode cX13_error 22 = .ok (.invokestatic 168, 3) := by decide +kernel
theorem dX13_error_25 : decode cX13_error 25 = .ok (.ifCond .ne 9, 3) := by decide +kernel
theorem dX13_error_28 : decode cX13_error 28 = .ok (.aload_n 0, 1) := by decide +kernel
theorem dX13_error_29 : decode cX13_error 29 = .ok (.iconst 1, 1) := by decide +kernel
theorem dX13_error_30 : decode cX13_error 30 = .ok (.invokevirtual 164, 3) := by decide +kernel
theorem dX13_error_33 : decode cX13_error 33 = .ok (.ireturn, 1) := by decide +kernel
theorem dX13_error_34 : decode cX13_error 34 = .ok (.iload_n 2, 1) := by decide +kernel
theorem dX13_error_35 : decode cX13_error 35 = .ok (.ifCond .ne 12, 3) := by decide +kernel
theorem dX13_error_38 : decode cX13_error 38 = .ok (.aload_n 0, 1) := by decide +kernel
theorem dX13_error_39 : decode cX13_error 39 = .ok (.getfield 144, 3) := by decide +kernel
theorem dX13_error_42 : decode cX13_error 42 = .ok (.iload_n 1, 1) := by decide +kernel
theorem dX13_error_43 : decode cX13_error 43 = .ok (.iaload, 1) := by decide +kernel
theorem dX13_error_44 : decode cX13_error 44 = .ok (.goto 9, 3) := by decide +kernel
theorem dX13_error_47 : decode cX13_error 47 = .ok (.aload_n 0, 1) := by decide +kernel
theorem dX13_error_48 : decode cX13_error 48 = .ok (.getfield 147, 3) := by decide +kernel
theorem dX13_error_51 : decode cX13_error 51 = .ok (.iload_n 1, 1) := by decide +kernel
theorem dX13_error_52 : decode cX13_error 52 = .ok (.iaload, 1) := by decide +kernel
theorem dX13_error_53 : decode cX13_error 53 = .ok (.ireturn, 1) := by decide +kernel
theorem dX13_word_0 : decode cX13_word 0 = .ok (.aload_n 0, 1) := by decide +kernel
theorem dX13_word_1 : decode cX13_word 1 = .ok (.iconst 0, 1) := by decide +kernel
theorem dX13_word_2 : decode cX13_word 2 = .ok (.putfield 157, 3) := by decide +kernel
theorem dX13_word_5 : decode cX13_word 5 = .ok (.iload_n 1, 1) := by decide +kernel
theorem dX13_word_6 : decode cX13_word 6 = .ok (.iconst 0, 1) := by decide +kernel
theorem dX13_word_7 : decode cX13_word 7 = .ok (.aload_n 0, 1) := by decide +kernel
theorem dX13_word_8 : decode cX13_word 8 = .ok (.getfield 441, 3) := by decide +kernel
theorem dX13_word_11 : decode cX13_word 11 = .ok (.iconst 1, 1) := by decide +kernel
theorem dX13_word_12 : decode cX13_word 12 = .ok (.isub, 1) := by decide +kernel
theorem dX13_word_13 : decode cX13_word 13 = .ok (.invokestatic 168, 3) := by decide +kernel
theorem dX13_word_16 : decode cX13_word 16 = .ok (.ifCond .eq 12, 3) := by decide +kernel
theorem dX13_word_19 : decode cX13_word 19 = .ok (.aload_n 0, 1) := by decide +kernel
theorem dX13_word_20 : decode cX13_word 20 = .ok (.getfield 151, 3) := by decide +kernel
theorem dX13_word_23 : decode cX13_word 23 = .ok (.iload_n 1, 1) := by decide +kernel
theorem dX13_word_24 : decode cX13_word 24 = .ok (.iaload, 1) := by decide +kernel
theorem dX13_word_25 : decode cX13_word 25 = .ok (.goto 8, 3) := by decide +kernel
theorem dX13_word_28 : decode cX13_word 28 = .ok (.aload_n 0, 1) := by decide +kernel
theorem dX13_word_29 : decode cX13_word 29 = .ok (.iconst 1, 1) := by decide +kernel
theorem dX13_word_30 : decode cX13_word 30 = .ok (.invokevirtual 164, 3) := by decide +kernel
theorem dX13_word_33 : decode cX13_word 33 = .ok (.ireturn, 1) := by decide +kernel
theorem dX13_statement_0 : decode cX13_statement 0 = .ok (.aload_n 0, 1) := by decide +kernel
theorem dX13_statement_1 : decode cX13_statement 1 = .ok (.iconst 0, 1) := by decide +kernel
theorem dX13_statement_2 : decode cX13_statement 2 = .ok (.putfield 157, 3) := by decide +kernel
theorem dX13_statement_5 : decode cX13_statement 5 = .ok (.iload_n 1, 1) := by decide +kernel
theorem dX13_statement_6 : decode cX13_statement 6 = .ok (.iconst 0, 1) := by decide +kernel
theorem dX13_statement_7 : decode cX13_statement 7 = .ok (.aload_n 0, 1) := by decide +kernel
theorem dX13_statement_8 : decode cX13_statement 8 = .ok (.getfield 217, 3) := by decide +kernel
theorem dX13_statement_11 : decode cX13_statement 11 = .ok (.iconst 1, 1) := by decide +kernel
theorem dX13_statement_12 : decode cX13_statement 12 = .ok (.isub, 1) := by decide +kernel
theorem dX13_statement_13 : decode cX13_statement 13 = .ok (.invokestatic 168, 3) := by decide +kernel
theorem dX13_statement_16 : decode cX13_statement 16 = .ok (.ifCond .eq 12, 3) := by decide +kernel
theorem dX13_statement_19 : decode cX13_statement 19 = .ok (.iload_n 2, 1) := by decide +kernel
theorem dX13_statement_20 : decode cX13_statement 20 = .ok (.iconst 0, 1) := by decide +kernel
theorem dX13_statement_21 : decode cX13_statement 21 = .ok (.iconst 3, 1) := by decide +kernel
theorem dX13_statement_22 : decode cX13_statement 22 = .ok (.invokestatic 168, 3) := by decide +kernel
theorem dX13_statement_25 : decode cX13_statement 25 = .ok (.ifCond .ne 9, 3) := by decide +kernel
theorem dX13_statement_28 : decode cX13_statement 28 = .ok (.aload_n 0, 1) := by decide +kernel
theorem dX13_statement_29 : decode cX13_statement 29 = .ok (.iconst 1, 1) := by decide +kernel
theorem dX13_statement_30 : decode cX13_statement 30 = .ok (.invokevirtual 164, 3) := by decide +kernel
theorem dX13_statement_33 : decode cX13_statement 33 = .ok (.ireturn, 1) := by decide +kernel
theorem dX13_statement_34 : decode cX13_statement 34 = .ok (.iload_n 2, 1) := by decide +kernel
theorem dX13_statement_35 : decode cX13_statement 35 = .ok (.ifCond .ne 12, 3) := by decide +kernel
theorem dX13_statement_38 : decode cX13_statement 38 = .ok (.aload_n 0, 1) := by decide +kernel
theorem dX13_statement_39 : decode cX13_statement 39 = .ok (.getfield 85, 3) := by decide +kernel
theorem dX13_statement_42 : decode cX13_statement 42 = .ok (.iload_n 1, 1) := by decide +kernel
theorem dX13_statement_43 : decode cX13_statement 43 = .ok (.iaload, 1) := by decide +kernel
theorem dX13_statement_44 : decode cX13_statement 44 = .ok (.goto 44, 3) := by decide +kernel
theorem dX13_statement_47 : decode cX13_statement 47 = .ok (.iload_n 2, 1) := by decide +kernel
theorem dX13_statement_48 : decode cX13_statement 48 = .ok (.iconst 1, 1) := by decide +kernel
theorem dX13_statement_49 : decode cX13_statement 49 = .ok (.if_icmp .ne 12, 3) := by decide +kernel
theorem dX13_statement_52 : decode cX13_statement 52 = .ok (.aload_n 0, 1) := by decide +kernel
theorem dX13_statement_53 : decode cX13_statement 53 = .ok (.getfield 113, 3) := by decide +kernel
theorem dX13_statement_56 : decode cX13_statement 56 = .ok (.iload_n 1, 1) := by decide +kernel
theorem dX13_statement_57 : decode cX13_statement 57 = .ok (.iaload, 1) := by decide +kernel
theorem dX13_statement_58 : decode cX13_statement 58 = .ok (.goto 30, 3) := by decide +kernel
theorem dX13_statement_61 : decode cX13_statement 61 = .ok (.iload_n 2, 1) := by decide +kernel
theorem dX13_statement_62 : decode cX13_statement 62 = .ok (.iconst 2, 1) := by decide +kernel
theorem dX13_statement_63 : decode cX13_statement 63 = .ok (.if_icmp .ne 11, 3) := by decide +kernel
theorem dX13_statement_66 : decode cX13_statement 66 = .ok (.aload_n 0, 1) := by decide +kernel
theorem dX13_statement_67 : decode cX13_statement 67 = .ok (.iload_n 1, 1) := by decide +kernel
theorem dX13_statement_68 : decode cX13_statement 68 = .ok (.invokevirtual 412, 3) := by decide +kernel
theorem dX13_statement_71 : decode cX13_statement 71 = .ok (.goto 17, 3) := by decide +kernel
theorem dX13_statement_74 : decode cX13_statement 74 = .ok (.aload_n 0, 1) := by decide +kernel
theorem dX13_statement_75 : decode cX13_statement 75 = .ok (.getfield 109, 3) := by decide +kernel
theorem dX13_statement_78 : decode cX13_statement 78 = .ok (.iload_n 1, 1) := by decide +kernel
theorem dX13_statement_79 : decode cX13_statement 79 = .ok (.baload, 1) := by decide +kernel
theorem dX13_statement_80 : decode cX13_statement 80 = .ok (.ifCond .eq 7, 3) := by decide +kernel
theorem dX13_statement_83 : decode cX13_statement 83 = .ok (.iconst 1, 1) := by decide +kernel
theorem dX13_statement_84 : decode cX13_statement 84 = .ok (.goto 4, 3) := by decide +kernel
theorem dX13_statement_87 : decode cX13_statement 87 = .ok (.iconst 0, 1) := by decide +kernel
theorem dX13_statement_88 : decode cX13_statement 88 = .ok (.ireturn, 1) := by decide +kernel
theorem dX13_name_0 : decode cX13_name 0 = .ok (.aload_n 0, 1) := by decide +kernel
theorem dX13_name_1 : decode cX13_name 1 = .ok (.iconst 0, 1) := by decide +kernel
theorem dX13_name_2 : decode cX13_name 2 = .ok (.putfield 157, 3) := by decide +kernel
theorem dX13_name_5 : decode cX13_name 5 = .ok (.iload_n 2, 1) := by decide +kernel
theorem dX13_name_6 : decode cX13_name 6 = .ok (.iconst 0, 1) := by decide +kernel
theorem dX13_name_7 : decode cX13_name 7 = .ok (.iconst 1, 1) := by decide +kernel
theorem dX13_name_8 : decode cX13_name 8 = .ok (.invokestatic 168, 3) := by decide +kernel
theorem dX13_name_11 : decode cX13_name 11 = .ok (.ifCond .eq 28, 3) := by decide +kernel
theorem dX13_name_14 : decode cX13_name 14 = .ok (.iload_n 1, 1) := by decide +kernel
theorem dX13_name_15 : decode cX13_name 15 = .ok (.iconst 0, 1) := by decide +kernel
theorem dX13_name_16 : decode cX13_name 16 = .ok (.iload_n 2, 1) := by decide +kernel
theorem dX13_name_17 : decode cX13_name 17 = .ok (.ifCond .ne 10, 3) := by decide +kernel
theorem dX13_name_20 : decode cX13_name 20 = .ok (.aload_n 0, 1) := by decide +kernel
theorem dX13_name_21 : decode cX13_name 21 = .ok (.getfield 271, 3) := by decide +kernel
theorem dX13_name_24 : decode cX13_name 24 = .ok (.goto 7, 3) := by decide +kernel
theorem dX13_name_27 : decode cX13_name 27 = .ok (.aload_n 0, 1) := by decide +kernel
theorem dX13_name_28 : decode cX13_name 28 = .ok (.getfield 283, 3) := by decide +kernel
theorem dX13_name_31 : decode cX13_name 31 = .ok (.iconst 1, 1) := by decide +kernel
theorem dX13_name_32 : decode cX13_name 32 = .ok (.isub, 1) := by decide +kernel
theorem dX13_name_33 : decode cX13_name 33 = .ok (.invokestatic 168, 3) := by decide +kernel
theorem dX13_name_36 : decode cX13_name 36 = .ok (.ifCond .ne 9, 3) := by decide +kernel
theorem dX13_name_39 : decode cX13_name 39 = .ok (.aload_n 0, 1) := by decide +kernel
theorem dX13_name_40 : decode cX13_name 40 = .ok (.iconst 1, 1) := by decide +kernel
theorem dX13_name_41 : decode cX13_name 41 = .ok (.invokevirtual 164, 3) := by decide +kernel
theorem dX13_name_44 : decode cX13_name 44 = .ok (.ireturn, 1) := by decide +kernel
theorem dX13_name_45 : decode cX13_name 45 = .ok (.iload_n 2, 1) := by decide +kernel
theorem dX13_name_46 : decode cX13_name 46 = .ok (.iconst 1, 1) := by decide +kernel
theorem dX13_name_47 : decode cX13_name 47 = .ok (.if_icmp .ne 10, 3) := by decide +kernel
theorem dX13_name_50 : decode cX13_name 50 = .ok (.aload_n 0, 1) := by decide +kernel
theorem dX13_name_51 : decode cX13_name 51 = .ok (.getfield 135, 3) := by decide +kernel
theorem dX13_name_54 : decode cX13_name 54 = .ok (.iload_n 1, 1) := by decide +kernel
theorem dX13_name_55 : decode cX13_name 55 = .ok (.iaload, 1) := by decide +kernel
theorem dX13_name_56 : decode cX13_name 56 = .ok (.ireturn, 1) := by decide +kernel
theorem dX13_name_57 : decode cX13_name 57 = .ok (.iconst (-1), 1) := by decide +kernel
theorem dX13_name_58 : decode cX13_name 58 = .ok (.istore_n 3, 1) := by decide +kernel
theorem dX13_name_59 : decode cX13_name 59 = .ok (.iconst (-1), 1) := by decide +kernel
theorem dX13_name_60 : decode cX13_name 60 = .ok (.istore 4, 2) := by decide +kernel
theorem dX13_name_62 : decode cX13_name 62 = .ok (.iload_n 3, 1) := by decide +kernel
theorem dX13_name_63 : decode cX13_name 63 = .ok (.iload_n 1, 1) := by decide +kernel
theorem dX13_name_64 : decode cX13_name 64 = .ok (.if_icmp .ge 29, 3) := by decide +kernel
theorem dX13_name_67 : decode cX13_name 67 = .ok (.iinc 4 1, 3) := by decide +kernel
theorem dX13_name_70 : decode cX13_name 70 = .ok (.iload_n 3, 1) := by decide +kernel
theorem dX13_name_71 : decode cX13_name 71 = .ok (.aload_n 0, 1) := by decide +kernel
theorem dX13_name_72 : decode cX13_name 72 = .ok (.getfield 106, 3) := by decide +kernel
theorem dX13_name_75 : decode cX13_name 75 = .ok (.iload 4, 2) := by decide +kernel
theorem dX13_name_77 : decode cX13_name 77 = .ok (.laload, 1) := by decide +kernel
theorem dX13_name_78 : decode cX13_name 78 = .ok (.lconst 0, 1) := by decide +kernel
theorem dX13_name_79 : decode cX13_name 79 = .ok (.lcmp, 1) := by decide +kernel
theorem dX13_name_80 : decode cX13_name 80 = .ok (.ifCond .le 7, 3) := by decide +kernel
theorem dX13_name_83 : decode cX13_name 83 = .ok (.iconst 1, 1) := by decide +kernel
theorem dX13_name_84 : decode cX13_name 84 = .ok (.goto 4, 3) := by decide +kernel
theorem dX13_name_87 : decode cX13_name 87 = .ok (.iconst 0, 1) := by decide +kernel
theorem dX13_name_88 : decode cX13_name 88 = .ok (.iadd, 1) := by decide +kernel
theorem dX13_name_89 : decode cX13_name 89 = .ok (.istore_n 3, 1) := by decide +kernel
theorem dX13_name_90 : decode cX13_name 90 = .ok (.goto (-28), 3) := by decide +kernel
theorem dX13_name_93 : decode cX13_name 93 = .ok (.aload_n 0, 1) := by decide +kernel
theorem dX13_name_94 : decode cX13_name 94 = .ok (.getfield 113, 3) := by decide +kernel
theorem dX13_name_97 : decode cX13_name 97 = .ok (.iload 4, 2) := by decide +kernel
theorem dX13_name_99 : decode cX13_name 99 = .ok (.iaload, 1) := by decide +kernel
theorem dX13_name_100 : decode cX13_name 100 = .ok (.ireturn, 1) := by decide +kernel
theorem dX13_count_0 : decode cX13_count 0 = .ok (.aload_n 0, 1) := by decide +kernel
theorem dX13_count_1 : decode cX13_count 1 = .ok (.iconst 0, 1) := by decide +kernel
theorem dX13_count_2 : decode cX13_count 2 = .ok (.putfield 157, 3) := by decide +kernel
theorem dX13_count_5 : decode cX13_count 5 = .ok (.iload_n 1, 1) := by decide +kernel
theorem dX13_count_6 : decode cX13_count 6 = .ok (.tableswitch 104 0 9 #[54, 59, 64, 69, 74, 79, 84, 89, 94, 99], 54) := by decide +kernel
theorem dX13_count_60 : decode cX13_count 60 = .ok (.aload_n 0, 1) := by decide +kernel
theorem dX13_count_61 : decode cX13_count 61 = .ok (.getfield 161, 3) := by decide +kernel
theorem dX13_count_64 : decode cX13_count 64 = .ok (.ireturn, 1) := by decide +kernel
theorem dX13_count_65 : decode cX13_count 65 = .ok (.aload_n 0, 1) := by decide +kernel
theorem dX13_count_66 : decode cX13_count 66 = .ok (.getfield 441, 3) := by decide +kernel
theorem dX13_count_69 : decode cX13_count 69 = .ok (.ireturn, 1) := by decide +kernel
theorem dX13_count_70 : decode cX13_count 70 = .ok (.aload_n 0, 1) := by decide +kernel
theorem dX13_count_71 : decode cX13_count 71 = .ok (.getfield 217, 3) := by decide +kernel
theorem dX13_count_74 : decode cX13_count 74 = .ok (.ireturn, 1) := by decide +kernel
theorem dX13_count_75 : decode cX13_count 75 = .ok (.aload_n 0, 1) := by decide +kernel
theorem dX13_count_76 : decode cX13_count 76 = .ok (.getfield 271, 3) := by decide +kernel
theorem dX13_count_79 : decode cX13_count 79 = .ok (.ireturn, 1) := by decide +kernel
theorem dX13_count_80 : decode cX13_count 80 = .ok (.aload_n 0, 1) := by decide +kernel
theorem dX13_count_81 : decode cX13_count 81 = .ok (.getfield 283, 3) := by decide +kernel
theorem dX13_count_84 : decode cX13_count 84 = .ok (.ireturn, 1) := by decide +kernel
theorem dX13_count_85 : decode cX13_count 85 = .ok (.aload_n 0, 1) := by decide +kernel
theorem dX13_count_86 : decode cX13_count 86 = .ok (.getfield 214, 3) := by decide +kernel
theorem dX13_count_89 : decode cX13_count 89 = .ok (.ireturn, 1) := by decide +kernel
theorem dX13_count_90 : decode cX13_count 90 = .ok (.aload_n 0, 1) := by decide +kernel
theorem dX13_count_91 : decode cX13_count 91 = .ok (.getfield 359, 3) := by decide +kernel
theorem dX13_count_94 : decode cX13_count 94 = .ok (.ireturn, 1) := by decide +kernel
theorem dX13_count_95 : decode cX13_count 95 = .ok (.aload_n 0, 1) := by decide +kernel
theorem dX13_count_96 : decode cX13_count 96 = .ok (.getfield 422, 3) := by decide +kernel
theorem dX13_count_99 : decode cX13_count 99 = .ok (.ireturn, 1) := by decide +kernel
theorem dX13_count_100 : decode cX13_count 100 = .ok (.aload_n 0, 1) := by decide +kernel
theorem dX13_count_101 : decode cX13_count 101 = .ok (.getfield 176, 3) := by decide +kernel
theorem dX13_count_104 : decode cX13_count 104 = .ok (.ireturn, 1) := by decide +kernel
theorem dX13_count_105 : decode cX13_count 105 = .ok (.aload_n 0, 1) := by decide +kernel
theorem dX13_count_106 : decode cX13_count 106 = .ok (.getfield 454, 3) := by decide +kernel
theorem dX13_count_109 : decode cX13_count 109 = .ok (.ireturn, 1) := by decide +kernel
theorem dX13_count_110 : decode cX13_count 110 = .ok (.iconst (-1), 1) := by decide +kernel
theorem dX13_count_111 : decode cX13_count 111 = .ok (.ireturn, 1) := by decide +kernel

