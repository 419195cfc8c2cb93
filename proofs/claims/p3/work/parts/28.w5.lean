set_option maxRecDepth 20000 in
theorem w_1_2 : (Jvm.Cond.initialized "AssembleLines$Errors") ∈ b_Ws := bw_1 (List.mem_of_getElem? (i := 2) rfl) rfl
set_option maxRecDepth 20000 in
theorem w_1_3 : (Jvm.Cond.initialized "AssembleLines$Program") ∈ b_Ws := bw_1 (List.mem_of_getElem? (i := 3) rfl) rfl
set_option maxRecDepth 20000 in
theorem w_1_10 : (Jvm.Cond.initialized "AssembleLines$TurnOne") ∈ b_Ws := bw_1 (List.mem_of_getElem? (i := 10) rfl) rfl
set_option maxRecDepth 20000 in
theorem w_1_11 : (Jvm.Cond.initialized "AssembleLines$Scanner") ∈ b_Ws := bw_1 (List.mem_of_getElem? (i := 11) rfl) rfl
set_option maxRecDepth 20000 in
theorem w_1_12 : (Jvm.Cond.initialized "AssembleLines$Macros") ∈ b_Ws := bw_1 (List.mem_of_getElem? (i := 12) rfl) rfl
set_option maxRecDepth 20000 in
theorem w_1_13 : (Jvm.Cond.initialized "AssembleLines$Lines") ∈ b_Ws := bw_1 (List.mem_of_getElem? (i := 13) rfl) rfl
set_option maxRecDepth 20000 in
theorem w_1_15 : (Jvm.Cond.initialized "java/lang/Math") ∈ b_Ws := bw_1 (List.mem_of_getElem? (i := 15) rfl) rfl
set_option maxRecDepth 20000 in
theorem w_1_34 : (Jvm.Cond.methodLink "AssembleLines" (3 : Nat) ({ cls := "java/lang/Object", name := "<init>", desc := "()V" } : Jvm.MethodName)) ∈ b_Ws := bw_1 (List.mem_of_getElem? (i := 34) rfl) rfl
set_option maxRecDepth 20000 in
theorem w_1_37 : (Jvm.Cond.classLink "AssembleLines" (13 : Nat) "AssembleLines$Errors") ∈ b_Ws := bw_1 (List.mem_of_getElem? (i := 37) rfl) rfl
set_option maxRecDepth 20000 in
theorem w_1_38 : (Jvm.Cond.instantiable "AssembleLines$Errors" (3 : Nat)) ∈ b_Ws := bw_1 (List.mem_of_getElem? (i := 38) rfl) rfl
set_option maxRecDepth 20000 in
theorem w_1_40 : (Jvm.Cond.instanceMethod ({ cls := "AssembleLines$Errors", name := "<init>", desc := "()V" } : Jvm.MethodName)) ∈ b_Ws := bw_1 (List.mem_of_getElem? (i := 40) rfl) rfl
set_option maxRecDepth 20000 in
theorem w_1_41 : (Jvm.Cond.code ({ cls := "AssembleLines$Errors", name := "<init>", desc := "()V" } : Jvm.MethodName) prog_4_method_1_code (1 : Nat) (Option.none : Option Jvm.ClassFile.FieldType)) ∈ b_Ws := bw_1 (List.mem_of_getElem? (i := 41) rfl) rfl
set_option maxRecDepth 20000 in
theorem w_1_58 : (Jvm.Cond.classLink "AssembleLines" (20 : Nat) "AssembleLines$Program") ∈ b_Ws := bw_1 (List.mem_of_getElem? (i := 58) rfl) rfl
set_option maxRecDepth 20000 in
theorem w_1_59 : (Jvm.Cond.instantiable "AssembleLines$Program" (7 : Nat)) ∈ b_Ws := bw_1 (List.mem_of_getElem? (i := 59) rfl) rfl
set_option maxRecDepth 20000 in
theorem w_1_60 : (Jvm.Cond.methodLink "AssembleLines" (22 : Nat) ({ cls := "AssembleLines$Program", name := "<init>", desc := "(LAssembleLines$Errors;)V" } : Jvm.MethodName)) ∈ b_Ws := bw_1 (List.mem_of_getElem? (i := 60) rfl) rfl
set_option maxRecDepth 20000 in
theorem w_1_61 : (Jvm.Cond.instanceMethod ({ cls := "AssembleLines$Program", name := "<init>", desc := "(LAssembleLines$Errors;)V" } : Jvm.MethodName)) ∈ b_Ws := bw_1 (List.mem_of_getElem? (i := 61) rfl) rfl
set_option maxRecDepth 20000 in
theorem w_1_62 : (Jvm.Cond.code ({ cls := "AssembleLines$Program", name := "<init>", desc := "(LAssembleLines$Errors;)V" } : Jvm.MethodName) prog_10_method_1_code (3 : Nat) (Option.none : Option Jvm.ClassFile.FieldType)) ∈ b_Ws := bw_1 (List.mem_of_getElem? (i := 62) rfl) rfl
set_option maxRecDepth 20000 in
theorem w_1_194 : (Jvm.Cond.fieldLink "AssembleLines$TurnOne" (45 : Nat) "AssembleLines$Program" "names" "LAssembleLines$Names;") ∈ b_Ws := bw_1 (List.mem_of_getElem? (i := 194) rfl) rfl
set_option maxRecDepth 20000 in
theorem w_1_197 : (Jvm.Cond.fieldLink "AssembleLines$TurnOne" (52 : Nat) "AssembleLines$Program" "expressions" "LAssembleLines$Expressions;") ∈ b_Ws := bw_1 (List.mem_of_getElem? (i := 197) rfl) rfl
set_option maxRecDepth 20000 in
theorem w_1_200 : (Jvm.Cond.fieldLink "AssembleLines$Program" (45 : Nat) "AssembleLines$Program" "kept" "I") ∈ b_Ws := bw_1 (List.mem_of_getElem? (i := 200) rfl) rfl
set_option maxRecDepth 20000 in
theorem w_1_221 : (Jvm.Cond.classLink "AssembleLines" (29 : Nat) "AssembleLines$TurnOne") ∈ b_Ws := bw_1 (List.mem_of_getElem? (i := 221) rfl) rfl
set_option maxRecDepth 20000 in
theorem w_1_222 : (Jvm.Cond.instantiable "AssembleLines$TurnOne" (16 : Nat)) ∈ b_Ws := bw_1 (List.mem_of_getElem? (i := 222) rfl) rfl
set_option maxRecDepth 20000 in
theorem w_1_223 : (Jvm.Cond.methodLink "AssembleLines" (31 : Nat) ({ cls := "AssembleLines$TurnOne", name := "<init>", desc := "(LAssembleLines$Program;LAssembleLines$Errors;)V" } : Jvm.MethodName)) ∈ b_Ws := bw_1 (List.mem_of_getElem? (i := 223) rfl) rfl
set_option maxRecDepth 20000 in
theorem w_1_224 : (Jvm.Cond.instanceMethod ({ cls := "AssembleLines$TurnOne", name := "<init>", desc := "(LAssembleLines$Program;LAssembleLines$Errors;)V" } : Jvm.MethodName)) ∈ b_Ws := bw_1 (List.mem_of_getElem? (i := 224) rfl) rfl
set_option maxRecDepth 20000 in
theorem w_1_225 : (Jvm.Cond.code ({ cls := "AssembleLines$TurnOne", name := "<init>", desc := "(LAssembleLines$Program;LAssembleLines$Errors;)V" } : Jvm.MethodName) prog_13_method_1_code (3 : Nat) (Option.none : Option Jvm.ClassFile.FieldType)) ∈ b_Ws := bw_1 (List.mem_of_getElem? (i := 225) rfl) rfl
set_option maxRecDepth 20000 in
theorem w_1_226 : (Jvm.Cond.methodLink "AssembleLines$TurnOne" (3 : Nat) ({ cls := "java/lang/Object", name := "<init>", desc := "()V" } : Jvm.MethodName)) ∈ b_Ws := bw_1 (List.mem_of_getElem? (i := 226) rfl) rfl
set_option maxRecDepth 20000 in
theorem w_1_227 : (Jvm.Cond.classLink "AssembleLines$TurnOne" (9 : Nat) "AssembleLines$Scanner") ∈ b_Ws := bw_1 (List.mem_of_getElem? (i := 227) rfl) rfl
set_option maxRecDepth 20000 in
theorem w_1_228 : (Jvm.Cond.instantiable "AssembleLines$Scanner" (6 : Nat)) ∈ b_Ws := bw_1 (List.mem_of_getElem? (i := 228) rfl) rfl
set_option maxRecDepth 20000 in
theorem w_1_230 : (Jvm.Cond.instanceMethod ({ cls := "AssembleLines$Scanner", name := "<init>", desc := "()V" } : Jvm.MethodName)) ∈ b_Ws := bw_1 (List.mem_of_getElem? (i := 230) rfl) rfl
set_option maxRecDepth 20000 in
theorem w_1_231 : (Jvm.Cond.code ({ cls := "AssembleLines$Scanner", name := "<init>", desc := "()V" } : Jvm.MethodName) prog_11_method_1_code (1 : Nat) (Option.none : Option Jvm.ClassFile.FieldType)) ∈ b_Ws := bw_1 (List.mem_of_getElem? (i := 231) rfl) rfl
set_option maxRecDepth 20000 in
theorem w_2_15 : (Jvm.Cond.classLink "AssembleLines$TurnOne" (18 : Nat) "AssembleLines$Macros") ∈ b_Ws := bw_2 (List.mem_of_getElem? (i := 15) rfl) rfl
set_option maxRecDepth 20000 in
theorem w_2_16 : (Jvm.Cond.instantiable "AssembleLines$Macros" (4 : Nat)) ∈ b_Ws := bw_2 (List.mem_of_getElem? (i := 16) rfl) rfl
set_option maxRecDepth 20000 in
theorem w_2_18 : (Jvm.Cond.instanceMethod ({ cls := "AssembleLines$Macros", name := "<init>", desc := "()V" } : Jvm.MethodName)) ∈ b_Ws := bw_2 (List.mem_of_getElem? (i := 18) rfl) rfl
set_option maxRecDepth 20000 in
theorem w_2_19 : (Jvm.Cond.code ({ cls := "AssembleLines$Macros", name := "<init>", desc := "()V" } : Jvm.MethodName) prog_7_method_1_code (1 : Nat) (Option.none : Option Jvm.ClassFile.FieldType)) ∈ b_Ws := bw_2 (List.mem_of_getElem? (i := 19) rfl) rfl
set_option maxRecDepth 20000 in
theorem w_2_35 : (Jvm.Cond.classLink "AssembleLines$TurnOne" (25 : Nat) "AssembleLines$Lines") ∈ b_Ws := bw_2 (List.mem_of_getElem? (i := 35) rfl) rfl
set_option maxRecDepth 20000 in
theorem w_2_36 : (Jvm.Cond.instantiable "AssembleLines$Lines" (11 : Nat)) ∈ b_Ws := bw_2 (List.mem_of_getElem? (i := 36) rfl) rfl
set_option maxRecDepth 20000 in
theorem w_2_37 : (Jvm.Cond.methodLink "AssembleLines$TurnOne" (27 : Nat) ({ cls := "AssembleLines$Lines", name := "<init>", desc := "()V" } : Jvm.MethodName)) ∈ b_Ws := bw_2 (List.mem_of_getElem? (i := 37) rfl) rfl
set_option maxRecDepth 20000 in
theorem w_2_38 : (Jvm.Cond.instanceMethod ({ cls := "AssembleLines$Lines", name := "<init>", desc := "()V" } : Jvm.MethodName)) ∈ b_Ws := bw_2 (List.mem_of_getElem? (i := 38) rfl) rfl
set_option maxRecDepth 20000 in
theorem w_2_39 : (Jvm.Cond.code ({ cls := "AssembleLines$Lines", name := "<init>", desc := "()V" } : Jvm.MethodName) prog_6_method_1_code (2 : Nat) (Option.none : Option Jvm.ClassFile.FieldType)) ∈ b_Ws := bw_2 (List.mem_of_getElem? (i := 39) rfl) rfl
set_option maxRecDepth 20000 in
theorem w_2_116 : (Jvm.Cond.fieldLink "AssembleLines$TurnOne" (32 : Nat) "AssembleLines$Operation" "NOTHING" "LAssembleLines$Operation;") ∈ b_Ws := bw_2 (List.mem_of_getElem? (i := 116) rfl) rfl
set_option maxRecDepth 20000 in
theorem w_2_117 : (Jvm.Cond.methodLink "AssembleLines$TurnOne" (61 : Nat) ({ cls := "AssembleLines$Program", name := "draft", desc := "()LAssembleLines$Statement;" } : Jvm.MethodName)) ∈ b_Ws := bw_2 (List.mem_of_getElem? (i := 117) rfl) rfl
set_option maxRecDepth 20000 in
theorem w_2_118 : (Jvm.Cond.instanceMethod ({ cls := "AssembleLines$Program", name := "draft", desc := "()LAssembleLines$Statement;" } : Jvm.MethodName)) ∈ b_Ws := bw_2 (List.mem_of_getElem? (i := 118) rfl) rfl
set_option maxRecDepth 20000 in
theorem w_2_119 : (Jvm.Cond.selects "AssembleLines$Program" ({ cls := "AssembleLines$Program", name := "draft", desc := "()LAssembleLines$Statement;" } : Jvm.MethodName) ({ cls := "AssembleLines$Program", name := "draft", desc := "()LAssembleLines$Statement;" } : Jvm.MethodName)) ∈ b_Ws := bw_2 (List.mem_of_getElem? (i := 119) rfl) rfl
set_option maxRecDepth 20000 in
theorem w_2_120 : (Jvm.Cond.code ({ cls := "AssembleLines$Program", name := "draft", desc := "()LAssembleLines$Statement;" } : Jvm.MethodName) prog_10_method_3_code (1 : Nat) (Option.some (Jvm.ClassFile.FieldType.object "AssembleLines$Statement"))) ∈ b_Ws := bw_2 (List.mem_of_getElem? (i := 120) rfl) rfl
set_option maxRecDepth 20000 in
theorem w_2_121 : (Jvm.Cond.methodLink "AssembleLines$Program" (55 : Nat) ({ cls := "java/lang/Math", name := "min", desc := "(II)I" } : Jvm.MethodName)) ∈ b_Ws := bw_2 (List.mem_of_getElem? (i := 121) rfl) rfl
set_option maxRecDepth 20000 in
theorem w_2_122 : (Jvm.Cond.static ({ cls := "java/lang/Math", name := "min", desc := "(II)I" } : Jvm.MethodName)) ∈ b_Ws := bw_2 (List.mem_of_getElem? (i := 122) rfl) rfl
set_option maxRecDepth 20000 in
theorem w_2_123 : (Jvm.Cond.code ({ cls := "java/lang/Math", name := "min", desc := "(II)I" } : Jvm.MethodName) prog_22_method_69_code (2 : Nat) (Option.some Jvm.ClassFile.FieldType.int)) ∈ b_Ws := bw_2 (List.mem_of_getElem? (i := 123) rfl) rfl
set_option maxRecDepth 20000 in
theorem w_2_124 : (Jvm.Cond.fieldLink "AssembleLines$TurnOne" (41 : Nat) "AssembleLines$TurnOne" "program" "LAssembleLines$Program;") ∈ b_Ws := bw_2 (List.mem_of_getElem? (i := 124) rfl) rfl
set_option maxRecDepth 20000 in
theorem w_2_125 : (Jvm.Cond.fieldLink "AssembleLines$TurnOne" (51 : Nat) "AssembleLines$TurnOne" "names" "LAssembleLines$Names;") ∈ b_Ws := bw_2 (List.mem_of_getElem? (i := 125) rfl) rfl
set_option maxRecDepth 20000 in
theorem w_2_126 : (Jvm.Cond.fieldLink "AssembleLines$TurnOne" (56 : Nat) "AssembleLines$TurnOne" "expressions" "LAssembleLines$Expressions;") ∈ b_Ws := bw_2 (List.mem_of_getElem? (i := 126) rfl) rfl
set_option maxRecDepth 20000 in
theorem w_2_127 : (Jvm.Cond.fieldLink "AssembleLines$TurnOne" (57 : Nat) "AssembleLines$TurnOne" "errors" "LAssembleLines$Errors;") ∈ b_Ws := bw_2 (List.mem_of_getElem? (i := 127) rfl) rfl
set_option maxRecDepth 20000 in
theorem w_2_128 : (Jvm.Cond.fieldLink "AssembleLines$TurnOne" (12 : Nat) "AssembleLines$TurnOne" "scanner" "LAssembleLines$Scanner;") ∈ b_Ws := bw_2 (List.mem_of_getElem? (i := 128) rfl) rfl
set_option maxRecDepth 20000 in
theorem w_2_129 : (Jvm.Cond.fieldLink "AssembleLines$TurnOne" (21 : Nat) "AssembleLines$TurnOne" "macros" "LAssembleLines$Macros;") ∈ b_Ws := bw_2 (List.mem_of_getElem? (i := 129) rfl) rfl
set_option maxRecDepth 20000 in
theorem w_2_131 : (Jvm.Cond.fieldLink "AssembleLines$TurnOne" (28 : Nat) "AssembleLines$TurnOne" "lines" "LAssembleLines$Lines;") ∈ b_Ws := bw_2 (List.mem_of_getElem? (i := 131) rfl) rfl
set_option maxRecDepth 20000 in
theorem w_2_133 : (Jvm.Cond.fieldLink "AssembleLines$TurnOne" (65 : Nat) "AssembleLines$TurnOne" "draft" "LAssembleLines$Statement;") ∈ b_Ws := bw_2 (List.mem_of_getElem? (i := 133) rfl) rfl
set_option maxRecDepth 20000 in
theorem w_2_134 : (Jvm.Cond.fieldLink "AssembleLines$TurnOne" (38 : Nat) "AssembleLines$TurnOne" "operation" "LAssembleLines$Operation;") ∈ b_Ws := bw_2 (List.mem_of_getElem? (i := 134) rfl) rfl
set_option maxRecDepth 20000 in
theorem w_2_175 : (Jvm.Cond.fieldLink "AssembleLines" (9 : Nat) "AssembleLines" "text" "[B") ∈ b_Ws := bw_2 (List.mem_of_getElem? (i := 175) rfl) rfl
set_option maxRecDepth 20000 in
theorem w_2_177 : (Jvm.Cond.fieldLink "AssembleLines" (16 : Nat) "AssembleLines" "errors" "LAssembleLines$Errors;") ∈ b_Ws := bw_2 (List.mem_of_getElem? (i := 177) rfl) rfl
set_option maxRecDepth 20000 in
theorem w_2_178 : (Jvm.Cond.fieldLink "AssembleLines" (25 : Nat) "AssembleLines" "program" "LAssembleLines$Program;") ∈ b_Ws := bw_2 (List.mem_of_getElem? (i := 178) rfl) rfl
set_option maxRecDepth 20000 in
theorem w_2_179 : (Jvm.Cond.fieldLink "AssembleLines" (34 : Nat) "AssembleLines" "turnOne" "LAssembleLines$TurnOne;") ∈ b_Ws := bw_2 (List.mem_of_getElem? (i := 179) rfl) rfl
theorem dX8_draft_0 : decode cX8_draft 0 = .ok (.aload_n 0, 1) := by decide +kernel
theorem dX8_draft_1 : decode cX8_draft 1 = .ok (.getfield 29, 3) := by decide +kernel
theorem dX8_draft_4 : decode cX8_draft 4 = .ok (.aload_n 0, 1) := by decide +kernel
theorem dX8_draft_5 : decode cX8_draft 5 = .ok (.getfield 45, 3) := by decide +kernel
theorem dX8_draft_8 : decode cX8_draft 8 = .ok (.sipush 400, 3) := by decide +kernel
theorem dX8_draft_11 : decode cX8_draft 11 = .ok (.invokestatic 55, 3) := by decide +kernel
theorem dX8_draft_14 : decode cX8_draft 14 = .ok (.aaload, 1) := by decide +kernel
theorem dX8_draft_15 : decode cX8_draft 15 = .ok (.areturn, 1) := by decide +kernel
theorem dX11_init_0 : decode cX11_init 0 = .ok (.aload_n 0, 1) := by decide +kernel
theorem dX11_init_1 : decode cX11_init 1 = .ok (.invokespecial 3, 3) := by decide +kernel
theorem dX11_init_4 : decode cX11_init 4 = .ok (.aload_n 0, 1) := by decide +kernel
theorem dX11_init_5 : decode cX11_init 5 = .ok (.new 9, 3) := by decide +kernel
theorem dX11_init_8 : decode cX11_init 8 = .ok (.dup, 1) := by decide +kernel
theorem dX11_init_9 : decode cX11_init 9 = .ok (.invokespecial 11, 3) := by decide +kernel
theorem dX11_init_12 : decode cX11_init 12 = .ok (.putfield 12, 3) := by decide +kernel
theorem dX11_init_15 : decode cX11_init 15 = .ok (.aload_n 0, 1) := by decide +kernel
theorem dX11_init_16 : decode cX11_init 16 = .ok (.new 18, 3) := by decide +kernel
theorem dX11_init_19 : decode cX11_init 19 = .ok (.dup, 1) := by decide +kernel
theorem dX11_init_20 : decode cX11_init 20 = .ok (.invokespecial 20, 3) := by decide +kernel
theorem dX11_init_23 : decode cX11_init 23 = .ok (.putfield 21, 3) := by decide +kernel
theorem dX11_init_26 : decode cX11_init 26 = .ok (.aload_n 0, 1) := by decide +kernel
theorem dX11_init_27 : decode cX11_init 27 = .ok (.new 25, 3) := by decide +kernel
theorem dX11_init_30 : decode cX11_init 30 = .ok (.dup, 1) := by decide +kernel
theorem dX11_init_31 : decode cX11_init 31 = .ok (.invokespecial 27, 3) := by decide +kernel
theorem dX11_init_34 : decode cX11_init 34 = .ok (.putfield 28, 3) := by decide +kernel
theorem dX11_init_37 : decode cX11_init 37 = .ok (.aload_n 0, 1) := by decide +kernel
theorem dX11_init_38 : decode cX11_init 38 = .ok (.getstatic 32, 3) := by decide +kernel
theorem dX11_init_41 : decode cX11_init 41 = .ok (.putfield 38, 3) := by decide +kernel
theorem dX11_init_44 : decode cX11_init 44 = .ok (.aload_n 0, 1) := by decide +kernel
theorem dX11_init_45 : decode cX11_init 45 = .ok (.aload_n 1, 1) := by decide +kernel
theorem dX11_init_46 : decode cX11_init 46 = .ok (.putfield 41, 3) := by decide +kernel
theorem dX11_init_49 : decode cX11_init 49 = .ok (.aload_n 0, 1) := by decide +kernel
theorem dX11_init_50 : decode cX11_init 50 = .ok (.aload_n 1, 1) := by decide +kernel
theorem dX11_init_51 : decode cX11_init 51 = .ok (.getfield 45, 3) := by decide +kernel
theorem dX11_init_54 : decode cX11_init 54 = .ok (.putfield 51, 3) := by decide +kernel
theorem dX11_init_57 : decode cX11_init 57 = .ok (.aload_n 0, 1) := by decide +kernel
theorem dX11_init_58 : decode cX11_init 58 = .ok (.aload_n 1, 1) := by decide +kernel
theorem dX11_init_59 : decode cX11_init 59 = .ok (.getfield 52, 3) := by decide +kernel
theorem dX11_init_62 : decode cX11_init 62 = .ok (.putfield 56, 3) := by decide +kernel
theorem dX11_init_65 : decode cX11_init 65 = .ok (.aload_n 0, 1) := by decide +kernel
theorem dX11_init_66 : decode cX11_init 66 = .ok (.aload_n 2, 1) := by decide +kernel
theorem dX11_init_67 : decode cX11_init 67 = .ok (.putfield 57, 3) := by decide +kernel
theorem dX11_init_70 : decode cX11_init 70 = .ok (.aload_n 0, 1) := by decide +kernel
theorem dX11_init_71 : decode cX11_init 71 = .ok (.aload_n 1, 1) := by decide +kernel
theorem dX11_init_72 : decode cX11_init 72 = .ok (.invokevirtual 61, 3) := by decide +kernel
theorem dX11_init_75 : decode cX11_init 75 = .ok (.putfield 65, 3) := by decide +kernel
theorem dX11_init_78 : decode cX11_init 78 = .ok (.return_, 1) := by decide +kernel
theorem dX12_init_0 : decode cX12_init 0 = .ok (.aload_n 0, 1) := by decide +kernel
theorem dX12_init_1 : decode cX12_init 1 = .ok (.invokespecial 3, 3) := by decide +kernel
theorem dX12_init_4 : decode cX12_init 4 = .ok (.aload_n 0, 1) := by decide +kernel
theorem dX12_init_5 : decode cX12_init 5 = .ok (.sipush 4096, 3) := by decide +kernel
theorem dX12_init_8 : decode cX12_init 8 = .ok (.newarray .byte, 2) := by decide +kernel
theorem dX12_init_10 : decode cX12_init 10 = .ok (.putfield 9, 3) := by decide +kernel
theorem dX12_init_13 : decode cX12_init 13 = .ok (.aload_n 0, 1) := by decide +kernel
theorem dX12_init_14 : decode cX12_init 14 = .ok (.new 13, 3) := by decide +kernel
theorem dX12_init_17 : decode cX12_init 17 = .ok (.dup, 1) := by decide +kernel
theorem dX12_init_18 : decode cX12_init 18 = .ok (.invokespecial 15, 3) := by decide +kernel
theorem dX12_init_21 : decode cX12_init 21 = .ok (.putfield 16, 3) := by decide +kernel
theorem dX12_init_24 : decode cX12_init 24 = .ok (.aload_n 0, 1) := by decide +kernel
theorem dX12_init_25 : decode cX12_init 25 = .ok (.new 20, 3) := by decide +kernel
theorem dX12_init_28 : decode cX12_init 28 = .ok (.dup, 1) := by decide +kernel
theorem dX12_init_29 : decode cX12_init 29 = .ok (.aload_n 0, 1) := by decide +kernel
theorem dX12_init_30 : decode cX12_init 30 = .ok (.getfield 16, 3) := by decide +kernel
theorem dX12_init_33 : decode cX12_init 33 = .ok (.invokespecial 22, 3) := by decide +kernel
theorem dX12_init_36 : decode cX12_init 36 = .ok (.putfield 25, 3) := by decide +kernel
theorem dX12_init_39 : decode cX12_init 39 = .ok (.aload_n 0, 1) := by decide +kernel
theorem dX12_init_40 : decode cX12_init 40 = .ok (.new 29, 3) := by decide +kernel
theorem dX12_init_43 : decode cX12_init 43 = .ok (.dup, 1) := by decide +kernel
theorem dX12_init_44 : decode cX12_init 44 = .ok (.aload_n 0, 1) := by decide +kernel
theorem dX12_init_45 : decode cX12_init 45 = .ok (.getfield 25, 3) := by decide +kernel
theorem dX12_init_48 : decode cX12_init 48 = .ok (.aload_n 0, 1) := by decide +kernel
theorem dX12_init_49 : decode cX12_init 49 = .ok (.getfield 16, 3) := by decide +kernel
theorem dX12_init_52 : decode cX12_init 52 = .ok (.invokespecial 31, 3) := by decide +kernel
theorem dX12_init_55 : decode cX12_init 55 = .ok (.putfield 34, 3) := by decide +kernel
theorem dX12_init_58 : decode cX12_init 58 = .ok (.return_, 1) := by decide +kernel

