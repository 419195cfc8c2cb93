set_option maxRecDepth 20000 in
theorem w_1_28 : (Jvm.Cond.initialized "java/lang/IndexOutOfBoundsException") ∈ b_Ws := bw_1 (List.mem_of_getElem? (i := 28) rfl) rfl
set_option maxRecDepth 20000 in
theorem w_1_47 : (Jvm.Cond.fieldLink "AssembleLines$Errors" (16 : Nat) "AssembleLines$Errors" "told" "I") ∈ b_Ws := bw_1 (List.mem_of_getElem? (i := 47) rfl) rfl
set_option maxRecDepth 20000 in
theorem w_1_48 : (Jvm.Cond.fieldLink "AssembleLines" (70 : Nat) "AssembleLines$Errors" "told" "I") ∈ b_Ws := bw_1 (List.mem_of_getElem? (i := 48) rfl) rfl
set_option maxRecDepth 20000 in
theorem w_1_82 : (Jvm.Cond.fieldLink "AssembleLines" (117 : Nat) "AssembleLines$Names" "labels" "I") ∈ b_Ws := bw_1 (List.mem_of_getElem? (i := 82) rfl) rfl
set_option maxRecDepth 20000 in
theorem w_1_84 : (Jvm.Cond.fieldLink "AssembleLines" (122 : Nat) "AssembleLines$Names" "sets" "I") ∈ b_Ws := bw_1 (List.mem_of_getElem? (i := 84) rfl) rfl
set_option maxRecDepth 20000 in
theorem w_1_110 : (Jvm.Cond.fieldLink "AssembleLines$Expressions" (29 : Nat) "AssembleLines$Expressions" "held" "I") ∈ b_Ws := bw_1 (List.mem_of_getElem? (i := 110) rfl) rfl
set_option maxRecDepth 20000 in
theorem w_1_112 : (Jvm.Cond.fieldLink "AssembleLines$Expressions" (33 : Nat) "AssembleLines$Expressions" "heldTerms" "I") ∈ b_Ws := bw_1 (List.mem_of_getElem? (i := 112) rfl) rfl
set_option maxRecDepth 20000 in
theorem w_1_195 : (Jvm.Cond.fieldLink "AssembleLines" (113 : Nat) "AssembleLines$Program" "names" "LAssembleLines$Names;") ∈ b_Ws := bw_1 (List.mem_of_getElem? (i := 195) rfl) rfl
set_option maxRecDepth 20000 in
theorem w_1_201 : (Jvm.Cond.fieldLink "AssembleLines" (99 : Nat) "AssembleLines$Program" "kept" "I") ∈ b_Ws := bw_1 (List.mem_of_getElem? (i := 201) rfl) rfl
set_option maxRecDepth 20000 in
theorem w_1_202 : (Jvm.Cond.fieldLink "AssembleLines$Program" (49 : Nat) "AssembleLines$Program" "words" "I") ∈ b_Ws := bw_1 (List.mem_of_getElem? (i := 202) rfl) rfl
set_option maxRecDepth 20000 in
theorem w_1_203 : (Jvm.Cond.fieldLink "AssembleLines" (78 : Nat) "AssembleLines$Program" "words" "I") ∈ b_Ws := bw_1 (List.mem_of_getElem? (i := 203) rfl) rfl
set_option maxRecDepth 20000 in
theorem w_1_204 : (Jvm.Cond.fieldLink "AssembleLines$Program" (52 : Nat) "AssembleLines$Program" "rounds" "I") ∈ b_Ws := bw_1 (List.mem_of_getElem? (i := 204) rfl) rfl
set_option maxRecDepth 20000 in
theorem w_1_205 : (Jvm.Cond.fieldLink "AssembleLines" (146 : Nat) "AssembleLines$Program" "rounds" "I") ∈ b_Ws := bw_1 (List.mem_of_getElem? (i := 205) rfl) rfl
set_option maxRecDepth 20000 in
theorem w_2_24 : (Jvm.Cond.fieldLink "AssembleLines$Macros" (22 : Nat) "AssembleLines$Macros" "told" "I") ∈ b_Ws := bw_2 (List.mem_of_getElem? (i := 24) rfl) rfl
set_option maxRecDepth 20000 in
theorem w_2_25 : (Jvm.Cond.fieldLink "AssembleLines" (137 : Nat) "AssembleLines$Macros" "told" "I") ∈ b_Ws := bw_2 (List.mem_of_getElem? (i := 25) rfl) rfl
set_option maxRecDepth 20000 in
theorem w_2_77 : (Jvm.Cond.fieldLink "AssembleLines$Lines" (44 : Nat) "AssembleLines$Lines" "depth" "I") ∈ b_Ws := bw_2 (List.mem_of_getElem? (i := 77) rfl) rfl
set_option maxRecDepth 20000 in
theorem w_2_79 : (Jvm.Cond.fieldLink "AssembleLines$Lines" (34 : Nat) "AssembleLines$Lines" "length" "I") ∈ b_Ws := bw_2 (List.mem_of_getElem? (i := 79) rfl) rfl
set_option maxRecDepth 20000 in
theorem w_2_87 : (Jvm.Cond.fieldLink "AssembleLines$Lines" (38 : Nat) "AssembleLines$Lines" "next" "I") ∈ b_Ws := bw_2 (List.mem_of_getElem? (i := 87) rfl) rfl
set_option maxRecDepth 20000 in
theorem w_2_89 : (Jvm.Cond.fieldLink "AssembleLines$Lines" (41 : Nat) "AssembleLines$Lines" "number" "I") ∈ b_Ws := bw_2 (List.mem_of_getElem? (i := 89) rfl) rfl
set_option maxRecDepth 20000 in
theorem w_2_91 : (Jvm.Cond.fieldLink "AssembleLines$Lines" (47 : Nat) "AssembleLines$Lines" "told" "I") ∈ b_Ws := bw_2 (List.mem_of_getElem? (i := 91) rfl) rfl
set_option maxRecDepth 20000 in
theorem w_2_92 : (Jvm.Cond.fieldLink "AssembleLines" (143 : Nat) "AssembleLines$Lines" "told" "I") ∈ b_Ws := bw_2 (List.mem_of_getElem? (i := 92) rfl) rfl
set_option maxRecDepth 20000 in
theorem w_2_130 : (Jvm.Cond.fieldLink "AssembleLines" (133 : Nat) "AssembleLines$TurnOne" "macros" "LAssembleLines$Macros;") ∈ b_Ws := bw_2 (List.mem_of_getElem? (i := 130) rfl) rfl
set_option maxRecDepth 20000 in
theorem w_2_132 : (Jvm.Cond.fieldLink "AssembleLines" (140 : Nat) "AssembleLines$TurnOne" "lines" "LAssembleLines$Lines;") ∈ b_Ws := bw_2 (List.mem_of_getElem? (i := 132) rfl) rfl
set_option maxRecDepth 20000 in
theorem w_2_139 : (Jvm.Cond.fieldLink "AssembleLines$TurnOne" (76 : Nat) "AssembleLines$TurnOne" "isPassing" "Z") ∈ b_Ws := bw_2 (List.mem_of_getElem? (i := 139) rfl) rfl
set_option maxRecDepth 20000 in
theorem w_2_195 : (Jvm.Cond.methodLink "AssembleLines" (149 : Nat) ({ cls := "AssembleLines$Program", name := "longOnes", desc := "()I" } : Jvm.MethodName)) ∈ b_Ws := bw_2 (List.mem_of_getElem? (i := 195) rfl) rfl
set_option maxRecDepth 20000 in
theorem w_2_196 : (Jvm.Cond.instanceMethod ({ cls := "AssembleLines$Program", name := "longOnes", desc := "()I" } : Jvm.MethodName)) ∈ b_Ws := bw_2 (List.mem_of_getElem? (i := 196) rfl) rfl
set_option maxRecDepth 20000 in
theorem w_2_197 : (Jvm.Cond.selects "AssembleLines$Program" ({ cls := "AssembleLines$Program", name := "longOnes", desc := "()I" } : Jvm.MethodName) ({ cls := "AssembleLines$Program", name := "longOnes", desc := "()I" } : Jvm.MethodName)) ∈ b_Ws := bw_2 (List.mem_of_getElem? (i := 197) rfl) rfl
set_option maxRecDepth 20000 in
theorem w_2_198 : (Jvm.Cond.code ({ cls := "AssembleLines$Program", name := "longOnes", desc := "()I" } : Jvm.MethodName) prog_10_method_16_code (3 : Nat) (Option.some Jvm.ClassFile.FieldType.int)) ∈ b_Ws := bw_2 (List.mem_of_getElem? (i := 198) rfl) rfl
set_option maxRecDepth 20000 in
theorem w_3_70 : (Jvm.Cond.methodLink "AssembleLines" (60 : Nat) ({ cls := "AssembleLines", name := "forgetProgram", desc := "()V" } : Jvm.MethodName)) ∈ b_Ws := bw_3 (List.mem_of_getElem? (i := 70) rfl) rfl
set_option maxRecDepth 20000 in
theorem w_3_72 : (Jvm.Cond.instanceMethod ({ cls := "AssembleLines", name := "forgetProgram", desc := "()V" } : Jvm.MethodName)) ∈ b_Ws := bw_3 (List.mem_of_getElem? (i := 72) rfl) rfl
set_option maxRecDepth 20000 in
theorem w_3_73 : (Jvm.Cond.code ({ cls := "AssembleLines", name := "forgetProgram", desc := "()V" } : Jvm.MethodName) prog_1_method_11_code (1 : Nat) (Option.none : Option Jvm.ClassFile.FieldType)) ∈ b_Ws := bw_3 (List.mem_of_getElem? (i := 73) rfl) rfl
set_option maxRecDepth 20000 in
theorem w_3_74 : (Jvm.Cond.methodLink "AssembleLines" (153 : Nat) ({ cls := "AssembleLines$Program", name := "forget", desc := "()V" } : Jvm.MethodName)) ∈ b_Ws := bw_3 (List.mem_of_getElem? (i := 74) rfl) rfl
set_option maxRecDepth 20000 in
theorem w_3_75 : (Jvm.Cond.instanceMethod ({ cls := "AssembleLines$Program", name := "forget", desc := "()V" } : Jvm.MethodName)) ∈ b_Ws := bw_3 (List.mem_of_getElem? (i := 75) rfl) rfl
set_option maxRecDepth 20000 in
theorem w_3_76 : (Jvm.Cond.selects "AssembleLines$Program" ({ cls := "AssembleLines$Program", name := "forget", desc := "()V" } : Jvm.MethodName) ({ cls := "AssembleLines$Program", name := "forget", desc := "()V" } : Jvm.MethodName)) ∈ b_Ws := bw_3 (List.mem_of_getElem? (i := 76) rfl) rfl
set_option maxRecDepth 20000 in
theorem w_3_77 : (Jvm.Cond.code ({ cls := "AssembleLines$Program", name := "forget", desc := "()V" } : Jvm.MethodName) prog_10_method_2_code (1 : Nat) (Option.none : Option Jvm.ClassFile.FieldType)) ∈ b_Ws := bw_3 (List.mem_of_getElem? (i := 77) rfl) rfl
set_option maxRecDepth 20000 in
theorem w_3_78 : (Jvm.Cond.methodLink "AssembleLines$Program" (38 : Nat) ({ cls := "AssembleLines$Names", name := "forget", desc := "()V" } : Jvm.MethodName)) ∈ b_Ws := bw_3 (List.mem_of_getElem? (i := 78) rfl) rfl
set_option maxRecDepth 20000 in
theorem w_3_79 : (Jvm.Cond.methodLink "AssembleLines$Program" (41 : Nat) ({ cls := "AssembleLines$Expressions", name := "cut", desc := "(I)V" } : Jvm.MethodName)) ∈ b_Ws := bw_3 (List.mem_of_getElem? (i := 79) rfl) rfl
set_option maxRecDepth 20000 in
theorem w_3_80 : (Jvm.Cond.instanceMethod ({ cls := "AssembleLines$Expressions", name := "cut", desc := "(I)V" } : Jvm.MethodName)) ∈ b_Ws := bw_3 (List.mem_of_getElem? (i := 80) rfl) rfl
set_option maxRecDepth 20000 in
theorem w_3_81 : (Jvm.Cond.selects "AssembleLines$Expressions" ({ cls := "AssembleLines$Expressions", name := "cut", desc := "(I)V" } : Jvm.MethodName) ({ cls := "AssembleLines$Expressions", name := "cut", desc := "(I)V" } : Jvm.MethodName)) ∈ b_Ws := bw_3 (List.mem_of_getElem? (i := 81) rfl) rfl
set_option maxRecDepth 20000 in
theorem w_3_82 : (Jvm.Cond.code ({ cls := "AssembleLines$Expressions", name := "cut", desc := "(I)V" } : Jvm.MethodName) prog_5_method_2_code (2 : Nat) (Option.none : Option Jvm.ClassFile.FieldType)) ∈ b_Ws := bw_3 (List.mem_of_getElem? (i := 82) rfl) rfl
set_option maxRecDepth 20000 in
theorem w_3_83 : (Jvm.Cond.methodLink "AssembleLines" (154 : Nat) ({ cls := "AssembleLines$TurnOne", name := "forget", desc := "()V" } : Jvm.MethodName)) ∈ b_Ws := bw_3 (List.mem_of_getElem? (i := 83) rfl) rfl
set_option maxRecDepth 20000 in
theorem w_3_84 : (Jvm.Cond.instanceMethod ({ cls := "AssembleLines$TurnOne", name := "forget", desc := "()V" } : Jvm.MethodName)) ∈ b_Ws := bw_3 (List.mem_of_getElem? (i := 84) rfl) rfl
set_option maxRecDepth 20000 in
theorem w_3_85 : (Jvm.Cond.selects "AssembleLines$TurnOne" ({ cls := "AssembleLines$TurnOne", name := "forget", desc := "()V" } : Jvm.MethodName) ({ cls := "AssembleLines$TurnOne", name := "forget", desc := "()V" } : Jvm.MethodName)) ∈ b_Ws := bw_3 (List.mem_of_getElem? (i := 85) rfl) rfl
set_option maxRecDepth 20000 in
theorem w_3_86 : (Jvm.Cond.code ({ cls := "AssembleLines$TurnOne", name := "forget", desc := "()V" } : Jvm.MethodName) prog_13_method_2_code (1 : Nat) (Option.none : Option Jvm.ClassFile.FieldType)) ∈ b_Ws := bw_3 (List.mem_of_getElem? (i := 86) rfl) rfl
set_option maxRecDepth 20000 in
theorem w_3_87 : (Jvm.Cond.methodLink "AssembleLines$TurnOne" (68 : Nat) ({ cls := "AssembleLines$Macros", name := "forget", desc := "()V" } : Jvm.MethodName)) ∈ b_Ws := bw_3 (List.mem_of_getElem? (i := 87) rfl) rfl
set_option maxRecDepth 20000 in
theorem w_3_88 : (Jvm.Cond.instanceMethod ({ cls := "AssembleLines$Macros", name := "forget", desc := "()V" } : Jvm.MethodName)) ∈ b_Ws := bw_3 (List.mem_of_getElem? (i := 88) rfl) rfl
set_option maxRecDepth 20000 in
theorem w_3_89 : (Jvm.Cond.selects "AssembleLines$Macros" ({ cls := "AssembleLines$Macros", name := "forget", desc := "()V" } : Jvm.MethodName) ({ cls := "AssembleLines$Macros", name := "forget", desc := "()V" } : Jvm.MethodName)) ∈ b_Ws := bw_3 (List.mem_of_getElem? (i := 89) rfl) rfl
set_option maxRecDepth 20000 in
theorem w_3_90 : (Jvm.Cond.code ({ cls := "AssembleLines$Macros", name := "forget", desc := "()V" } : Jvm.MethodName) prog_7_method_2_code (1 : Nat) (Option.none : Option Jvm.ClassFile.FieldType)) ∈ b_Ws := bw_3 (List.mem_of_getElem? (i := 90) rfl) rfl
set_option maxRecDepth 20000 in
theorem w_3_91 : (Jvm.Cond.methodLink "AssembleLines$TurnOne" (71 : Nat) ({ cls := "AssembleLines$Lines", name := "forget", desc := "()V" } : Jvm.MethodName)) ∈ b_Ws := bw_3 (List.mem_of_getElem? (i := 91) rfl) rfl
set_option maxRecDepth 20000 in
theorem w_3_92 : (Jvm.Cond.instanceMethod ({ cls := "AssembleLines$Lines", name := "forget", desc := "()V" } : Jvm.MethodName)) ∈ b_Ws := bw_3 (List.mem_of_getElem? (i := 92) rfl) rfl
set_option maxRecDepth 20000 in
theorem w_3_93 : (Jvm.Cond.selects "AssembleLines$Lines" ({ cls := "AssembleLines$Lines", name := "forget", desc := "()V" } : Jvm.MethodName) ({ cls := "AssembleLines$Lines", name := "forget", desc := "()V" } : Jvm.MethodName)) ∈ b_Ws := bw_3 (List.mem_of_getElem? (i := 93) rfl) rfl
set_option maxRecDepth 20000 in
theorem w_3_94 : (Jvm.Cond.code ({ cls := "AssembleLines$Lines", name := "forget", desc := "()V" } : Jvm.MethodName) prog_6_method_3_code (1 : Nat) (Option.none : Option Jvm.ClassFile.FieldType)) ∈ b_Ws := bw_3 (List.mem_of_getElem? (i := 94) rfl) rfl
set_option maxRecDepth 20000 in
theorem w_3_95 : (Jvm.Cond.methodLink "AssembleLines" (63 : Nat) ({ cls := "AssembleLines$Errors", name := "forget", desc := "()V" } : Jvm.MethodName)) ∈ b_Ws := bw_3 (List.mem_of_getElem? (i := 95) rfl) rfl
set_option maxRecDepth 20000 in
theorem w_3_96 : (Jvm.Cond.instanceMethod ({ cls := "AssembleLines$Errors", name := "forget", desc := "()V" } : Jvm.MethodName)) ∈ b_Ws := bw_3 (List.mem_of_getElem? (i := 96) rfl) rfl
set_option maxRecDepth 20000 in
theorem w_3_97 : (Jvm.Cond.selects "AssembleLines$Errors" ({ cls := "AssembleLines$Errors", name := "forget", desc := "()V" } : Jvm.MethodName) ({ cls := "AssembleLines$Errors", name := "forget", desc := "()V" } : Jvm.MethodName)) ∈ b_Ws := bw_3 (List.mem_of_getElem? (i := 97) rfl) rfl
set_option maxRecDepth 20000 in
theorem w_3_98 : (Jvm.Cond.code ({ cls := "AssembleLines$Errors", name := "forget", desc := "()V" } : Jvm.MethodName) prog_4_method_2_code (1 : Nat) (Option.none : Option Jvm.ClassFile.FieldType)) ∈ b_Ws := bw_3 (List.mem_of_getElem? (i := 98) rfl) rfl
set_option maxRecDepth 20000 in
theorem w_3_99 : (Jvm.Cond.methodLink "AssembleLines" (66 : Nat) ({ cls := "AssembleLines$TurnOne", name := "run", desc := "([BI)V" } : Jvm.MethodName)) ∈ b_Ws := bw_3 (List.mem_of_getElem? (i := 99) rfl) rfl
set_option maxRecDepth 20000 in
theorem w_3_100 : (Jvm.Cond.instanceMethod ({ cls := "AssembleLines$TurnOne", name := "run", desc := "([BI)V" } : Jvm.MethodName)) ∈ b_Ws := bw_3 (List.mem_of_getElem? (i := 100) rfl) rfl
set_option maxRecDepth 20000 in
theorem w_3_101 : (Jvm.Cond.selects "AssembleLines$TurnOne" ({ cls := "AssembleLines$TurnOne", name := "run", desc := "([BI)V" } : Jvm.MethodName) ({ cls := "AssembleLines$TurnOne", name := "run", desc := "([BI)V" } : Jvm.MethodName)) ∈ b_Ws := bw_3 (List.mem_of_getElem? (i := 101) rfl) rfl
set_option maxRecDepth 20000 in
theorem w_3_102 : (Jvm.Cond.code ({ cls := "AssembleLines$TurnOne", name := "run", desc := "([BI)V" } : Jvm.MethodName) prog_13_method_3_code (5 : Nat) (Option.none : Option Jvm.ClassFile.FieldType)) ∈ b_Ws := bw_3 (List.mem_of_getElem? (i := 102) rfl) rfl
set_option maxRecDepth 20000 in
theorem w_3_103 : (Jvm.Cond.methodLink "AssembleLines$TurnOne" (72 : Nat) ({ cls := "AssembleLines$Lines", name := "start", desc := "([BI)V" } : Jvm.MethodName)) ∈ b_Ws := bw_3 (List.mem_of_getElem? (i := 103) rfl) rfl
set_option maxRecDepth 20000 in
theorem w_3_104 : (Jvm.Cond.instanceMethod ({ cls := "AssembleLines$Lines", name := "start", desc := "([BI)V" } : Jvm.MethodName)) ∈ b_Ws := bw_3 (List.mem_of_getElem? (i := 104) rfl) rfl
set_option maxRecDepth 20000 in
theorem w_3_105 : (Jvm.Cond.selects "AssembleLines$Lines" ({ cls := "AssembleLines$Lines", name := "start", desc := "([BI)V" } : Jvm.MethodName) ({ cls := "AssembleLines$Lines", name := "start", desc := "([BI)V" } : Jvm.MethodName)) ∈ b_Ws := bw_3 (List.mem_of_getElem? (i := 105) rfl) rfl
set_option maxRecDepth 20000 in
theorem w_3_106 : (Jvm.Cond.code ({ cls := "AssembleLines$Lines", name := "start", desc := "([BI)V" } : Jvm.MethodName) prog_6_method_2_code (3 : Nat) (Option.none : Option Jvm.ClassFile.FieldType)) ∈ b_Ws := bw_3 (List.mem_of_getElem? (i := 106) rfl) rfl
set_option maxRecDepth 20000 in
theorem w_3_107 : (Jvm.Cond.methodLink "AssembleLines$Lines" (28 : Nat) ({ cls := "java/lang/Math", name := "min", desc := "(II)I" } : Jvm.MethodName)) ∈ b_Ws := bw_3 (List.mem_of_getElem? (i := 107) rfl) rfl
set_option maxRecDepth 20000 in
theorem w_3_108 : (Jvm.Cond.constant "AssembleLines$TurnOne" (80 : Nat) (1000000 : Int32)) ∈ b_Ws := bw_3 (List.mem_of_getElem? (i := 108) rfl) rfl
set_option maxRecDepth 20000 in
theorem w_3_109 : (Jvm.Cond.methodLink "AssembleLines$TurnOne" (81 : Nat) ({ cls := "AssembleLines$Lines", name := "advance", desc := "()Z" } : Jvm.MethodName)) ∈ b_Ws := bw_3 (List.mem_of_getElem? (i := 109) rfl) rfl
set_option maxRecDepth 20000 in
theorem w_3_110 : (Jvm.Cond.instanceMethod ({ cls := "AssembleLines$Lines", name := "advance", desc := "()Z" } : Jvm.MethodName)) ∈ b_Ws := bw_3 (List.mem_of_getElem? (i := 110) rfl) rfl
set_option maxRecDepth 20000 in
theorem w_3_111 : (Jvm.Cond.selects "AssembleLines$Lines" ({ cls := "AssembleLines$Lines", name := "advance", desc := "()Z" } : Jvm.MethodName) ({ cls := "AssembleLines$Lines", name := "advance", desc := "()Z" } : Jvm.MethodName)) ∈ b_Ws := bw_3 (List.mem_of_getElem? (i := 111) rfl) rfl
set_option maxRecDepth 20000 in
theorem w_3_112 : (Jvm.Cond.code ({ cls := "AssembleLines$Lines", name := "advance", desc := "()Z" } : Jvm.MethodName) prog_6_method_4_code (1 : Nat) (Option.some Jvm.ClassFile.FieldType.boolean)) ∈ b_Ws := bw_3 (List.mem_of_getElem? (i := 112) rfl) rfl
set_option maxRecDepth 20000 in
theorem w_5_35 : (Jvm.Cond.methodLink "AssembleLines" (73 : Nat) ({ cls := "AssembleLines$Program", name := "runTurnTwo", desc := "()V" } : Jvm.MethodName)) ∈ b_Ws := bw_5 (List.mem_of_getElem? (i := 35) rfl) rfl
set_option maxRecDepth 20000 in
theorem w_5_36 : (Jvm.Cond.instanceMethod ({ cls := "AssembleLines$Program", name := "runTurnTwo", desc := "()V" } : Jvm.MethodName)) ∈ b_Ws := bw_5 (List.mem_of_getElem? (i := 36) rfl) rfl
set_option maxRecDepth 20000 in
theorem w_5_37 : (Jvm.Cond.selects "AssembleLines$Program" ({ cls := "AssembleLines$Program", name := "runTurnTwo", desc := "()V" } : Jvm.MethodName) ({ cls := "AssembleLines$Program", name := "runTurnTwo", desc := "()V" } : Jvm.MethodName)) ∈ b_Ws := bw_5 (List.mem_of_getElem? (i := 37) rfl) rfl
set_option maxRecDepth 20000 in
theorem w_5_38 : (Jvm.Cond.code ({ cls := "AssembleLines$Program", name := "runTurnTwo", desc := "()V" } : Jvm.MethodName) prog_10_method_6_code (2 : Nat) (Option.none : Option Jvm.ClassFile.FieldType)) ∈ b_Ws := bw_5 (List.mem_of_getElem? (i := 38) rfl) rfl
set_option maxRecDepth 20000 in
theorem w_5_39 : (Jvm.Cond.methodLink "AssembleLines$Program" (65 : Nat) ({ cls := "AssembleLines$Expressions", name := "resolve", desc := "()V" } : Jvm.MethodName)) ∈ b_Ws := bw_5 (List.mem_of_getElem? (i := 39) rfl) rfl
set_option maxRecDepth 20000 in
theorem w_5_40 : (Jvm.Cond.instanceMethod ({ cls := "AssembleLines$Expressions", name := "resolve", desc := "()V" } : Jvm.MethodName)) ∈ b_Ws := bw_5 (List.mem_of_getElem? (i := 40) rfl) rfl
set_option maxRecDepth 20000 in
theorem w_5_41 : (Jvm.Cond.selects "AssembleLines$Expressions" ({ cls := "AssembleLines$Expressions", name := "resolve", desc := "()V" } : Jvm.MethodName) ({ cls := "AssembleLines$Expressions", name := "resolve", desc := "()V" } : Jvm.MethodName)) ∈ b_Ws := bw_5 (List.mem_of_getElem? (i := 41) rfl) rfl
set_option maxRecDepth 20000 in
theorem w_5_42 : (Jvm.Cond.code ({ cls := "AssembleLines$Expressions", name := "resolve", desc := "()V" } : Jvm.MethodName) prog_5_method_7_code (5 : Nat) (Option.none : Option Jvm.ClassFile.FieldType)) ∈ b_Ws := bw_5 (List.mem_of_getElem? (i := 42) rfl) rfl
set_option maxRecDepth 20000 in
theorem w_5_46 : (Jvm.Cond.methodLink "AssembleLines$Program" (68 : Nat) ({ cls := "AssembleLines$Program", name := "layOut", desc := "()V" } : Jvm.MethodName)) ∈ b_Ws := bw_5 (List.mem_of_getElem? (i := 46) rfl) rfl
set_option maxRecDepth 20000 in
theorem w_5_48 : (Jvm.Cond.instanceMethod ({ cls := "AssembleLines$Program", name := "layOut", desc := "()V" } : Jvm.MethodName)) ∈ b_Ws := bw_5 (List.mem_of_getElem? (i := 48) rfl) rfl
set_option maxRecDepth 20000 in
theorem w_5_49 : (Jvm.Cond.code ({ cls := "AssembleLines$Program", name := "layOut", desc := "()V" } : Jvm.MethodName) prog_10_method_7_code (5 : Nat) (Option.none : Option Jvm.ClassFile.FieldType)) ∈ b_Ws := bw_5 (List.mem_of_getElem? (i := 49) rfl) rfl
set_option maxRecDepth 20000 in
theorem w_5_63 : (Jvm.Cond.methodLink "AssembleLines$Program" (71 : Nat) ({ cls := "AssembleLines$Program", name := "grow", desc := "()Z" } : Jvm.MethodName)) ∈ b_Ws := bw_5 (List.mem_of_getElem? (i := 63) rfl) rfl
set_option maxRecDepth 20000 in
theorem w_5_65 : (Jvm.Cond.instanceMethod ({ cls := "AssembleLines$Program", name := "grow", desc := "()Z" } : Jvm.MethodName)) ∈ b_Ws := bw_5 (List.mem_of_getElem? (i := 65) rfl) rfl
set_option maxRecDepth 20000 in
theorem w_5_66 : (Jvm.Cond.code ({ cls := "AssembleLines$Program", name := "grow", desc := "()Z" } : Jvm.MethodName) prog_10_method_9_code (4 : Nat) (Option.some Jvm.ClassFile.FieldType.boolean)) ∈ b_Ws := bw_5 (List.mem_of_getElem? (i := 66) rfl) rfl
set_option maxRecDepth 20000 in
theorem w_5_89 : (Jvm.Cond.constant "AssembleLines$Program" (74 : Nat) (65535 : Int32)) ∈ b_Ws := bw_5 (List.mem_of_getElem? (i := 89) rfl) rfl
set_option maxRecDepth 20000 in
theorem w_5_91 : (Jvm.Cond.methodLink "AssembleLines$Program" (81 : Nat) ({ cls := "AssembleLines$Program", name := "placeLiterals", desc := "()V" } : Jvm.MethodName)) ∈ b_Ws := bw_5 (List.mem_of_getElem? (i := 91) rfl) rfl
set_option maxRecDepth 20000 in
theorem w_5_93 : (Jvm.Cond.instanceMethod ({ cls := "AssembleLines$Program", name := "placeLiterals", desc := "()V" } : Jvm.MethodName)) ∈ b_Ws := bw_5 (List.mem_of_getElem? (i := 93) rfl) rfl
set_option maxRecDepth 20000 in
theorem w_5_94 : (Jvm.Cond.code ({ cls := "AssembleLines$Program", name := "placeLiterals", desc := "()V" } : Jvm.MethodName) prog_10_method_12_code (4 : Nat) (Option.none : Option Jvm.ClassFile.FieldType)) ∈ b_Ws := bw_5 (List.mem_of_getElem? (i := 94) rfl) rfl
set_option maxRecDepth 20000 in
theorem w_5_95 : (Jvm.Cond.methodLink "AssembleLines$Program" (84 : Nat) ({ cls := "AssembleLines$Program", name := "check", desc := "()V" } : Jvm.MethodName)) ∈ b_Ws := bw_5 (List.mem_of_getElem? (i := 95) rfl) rfl
set_option maxRecDepth 20000 in
theorem w_5_97 : (Jvm.Cond.instanceMethod ({ cls := "AssembleLines$Program", name := "check", desc := "()V" } : Jvm.MethodName)) ∈ b_Ws := bw_5 (List.mem_of_getElem? (i := 97) rfl) rfl
set_option maxRecDepth 20000 in
theorem w_5_98 : (Jvm.Cond.code ({ cls := "AssembleLines$Program", name := "check", desc := "()V" } : Jvm.MethodName) prog_10_method_13_code (4 : Nat) (Option.none : Option Jvm.ClassFile.FieldType)) ∈ b_Ws := bw_5 (List.mem_of_getElem? (i := 98) rfl) rfl
set_option maxRecDepth 20000 in
theorem w_5_118 : (Jvm.Cond.classLink "AssembleLines" (81 : Nat) "java/lang/IndexOutOfBoundsException") ∈ b_Ws := bw_5 (List.mem_of_getElem? (i := 118) rfl) rfl
theorem dX2_forget_0 : decode cX2_forget 0 = .ok (.aload_n 0, 1) := by decide +kernel
theorem dX2_forget_1 : decode cX2_forget 1 = .ok (.iconst 0, 1) := by decide +kernel
theorem dX2_forget_2 : decode cX2_forget 2 = .ok (.putfield 16, 3) := by decide +kernel
theorem dX2_forget_5 : decode cX2_forget 5 = .ok (.return_, 1) := by decide +kernel
theorem dX5_forget_0 : decode cX5_forget 0 = .ok (.aload_n 0, 1) := by decide +kernel
theorem dX5_forget_1 : decode cX5_forget 1 = .ok (.iconst 0, 1) := by decide +kernel
theorem dX5_forget_2 : decode cX5_forget 2 = .ok (.putfield 22, 3) := by decide +kernel
theorem dX5_forget_5 : decode cX5_forget 5 = .ok (.return_, 1) := by decide +kernel
theorem dX4_forget_0 : decode cX4_forget 0 = .ok (.aload_n 0, 1) := by decide +kernel
theorem dX4_forget_1 : decode cX4_forget 1 = .ok (.iconst 0, 1) := by decide +kernel
theorem dX4_forget_2 : decode cX4_forget 2 = .ok (.putfield 47, 3) := by decide +kernel
theorem dX4_forget_5 : decode cX4_forget 5 = .ok (.return_, 1) := by decide +kernel
theorem dX3_cut_0 : decode cX3_cut 0 = .ok (.iload_n 1, 1) := by decide +kernel
theorem dX3_cut_1 : decode cX3_cut 1 = .ok (.ifCond .lt 26, 3) := by decide +kernel
theorem dX3_cut_4 : decode cX3_cut 4 = .ok (.iload_n 1, 1) := by decide +kernel
theorem dX3_cut_5 : decode cX3_cut 5 = .ok (.aload_n 0, 1) := by decide +kernel
theorem dX3_cut_6 : decode cX3_cut 6 = .ok (.getfield 29, 3) := by decide +kernel
theorem dX3_cut_9 : decode cX3_cut 9 = .ok (.if_icmp .gt 18, 3) := by decide +kernel
theorem dX3_cut_12 : decode cX3_cut 12 = .ok (.aload_n 0, 1) := by decide +kernel
theorem dX3_cut_13 : decode cX3_cut 13 = .ok (.iload_n 1, 1) := by decide +kernel
theorem dX3_cut_14 : decode cX3_cut 14 = .ok (.putfield 29, 3) := by decide +kernel
theorem dX3_cut_17 : decode cX3_cut 17 = .ok (.aload_n 0, 1) := by decide +kernel
theorem dX3_cut_18 : decode cX3_cut 18 = .ok (.aload_n 0, 1) := by decide +kernel
theorem dX3_cut_19 : decode cX3_cut 19 = .ok (.getfield 18, 3) := by decide +kernel
theorem dX3_cut_22 : decode cX3_cut 22 = .ok (.iload_n 1, 1) := by decide +kernel
theorem dX3_cut_23 : decode cX3_cut 23 = .ok (.iaload, 1) := by decide +kernel
theorem dX3_cut_24 : decode cX3_cut 24 = .ok (.putfield 33, 3) := by decide +kernel
theorem dX3_cut_27 : decode cX3_cut 27 = .ok (.return_, 1) := by decide +kernel
theorem dX8_forget_0 : decode cX8_forget 0 = .ok (.aload_n 0, 1) := by decide +kernel
theorem dX8_forget_1 : decode cX8_forget 1 = .ok (.getfield 12, 3) := by decide +kernel
theorem dX8_forget_4 : decode cX8_forget 4 = .ok (.invokevirtual 38, 3) := by decide +kernel
theorem dX8_forget_7 : decode cX8_forget 7 = .ok (.aload_n 0, 1) := by decide +kernel
theorem dX8_forget_8 : decode cX8_forget 8 = .ok (.getfield 23, 3) := by decide +kernel
theorem dX8_forget_11 : decode cX8_forget 11 = .ok (.iconst 0, 1) := by decide +kernel
theorem dX8_forget_12 : decode cX8_forget 12 = .ok (.invokevirtual 41, 3) := by decide +kernel
theorem dX8_forget_15 : decode cX8_forget 15 = .ok (.aload_n 0, 1) := by decide +kernel
theorem dX8_forget_16 : decode cX8_forget 16 = .ok (.iconst 0, 1) := by decide +kernel
theorem dX8_forget_17 : decode cX8_forget 17 = .ok (.putfield 45, 3) := by decide +kernel
theorem dX8_forget_20 : decode cX8_forget 20 = .ok (.aload_n 0, 1) := by decide +kernel
theorem dX8_forget_21 : decode cX8_forget 21 = .ok (.iconst 0, 1) := by decide +kernel
theorem dX8_forget_22 : decode cX8_forget 22 = .ok (.putfield 49, 3) := by decide +kernel
theorem dX8_forget_25 : decode cX8_forget 25 = .ok (.aload_n 0, 1) := by decide +kernel
theorem dX8_forget_26 : decode cX8_forget 26 = .ok (.iconst 0, 1) := by decide +kernel
theorem dX8_forget_27 : decode cX8_forget 27 = .ok (.putfield 52, 3) := by decide +kernel
theorem dX8_forget_30 : decode cX8_forget 30 = .ok (.return_, 1) := by decide +kernel
theorem dX11_forget_0 : decode cX11_forget 0 = .ok (.aload_n 0, 1) := by decide +kernel
theorem dX11_forget_1 : decode cX11_forget 1 = .ok (.getfield 21, 3) := by decide +kernel
theorem dX11_forget_4 : decode cX11_forget 4 = .ok (.invokevirtual 68, 3) := by decide +kernel
theorem dX11_forget_7 : decode cX11_forget 7 = .ok (.aload_n 0, 1) := by decide +kernel
theorem dX11_forget_8 : decode cX11_forget 8 = .ok (.getfield 28, 3) := by decide +kernel
theorem dX11_forget_11 : decode cX11_forget 11 = .ok (.invokevirtual 71, 3) := by decide +kernel
theorem dX11_forget_14 : decode cX11_forget 14 = .ok (.return_, 1) := by decide +kernel
theorem dX12_forgetProgram_0 : decode cX12_forgetProgram 0 = .ok (.aload_n 0, 1) := by decide +kernel
theorem dX12_forgetProgram_1 : decode cX12_forgetProgram 1 = .ok (.getfield 25, 3) := by decide +kernel
theorem dX12_forgetProgram_4 : decode cX12_forgetProgram 4 = .ok (.invokevirtual 153, 3) := by decide +kernel
theorem dX12_forgetProgram_7 : decode cX12_forgetProgram 7 = .ok (.aload_n 0, 1) := by decide +kernel
theorem dX12_forgetProgram_8 : decode cX12_forgetProgram 8 = .ok (.getfield 34, 3) := by decide +kernel
theorem dX12_forgetProgram_11 : decode cX12_forgetProgram 11 = .ok (.invokevirtual 154, 3) := by decide +kernel
theorem dX12_forgetProgram_14 : decode cX12_forgetProgram 14 = .ok (.return_, 1) := by decide +kernel
theorem dX4_start_0 : decode cX4_start 0 = .ok (.aload_n 0, 1) := by decide +kernel
theorem dX4_start_1 : decode cX4_start 1 = .ok (.aload_n 1, 1) := by decide +kernel
theorem dX4_start_2 : decode cX4_start 2 = .ok (.putfield 17, 3) := by decide +kernel
theorem dX4_start_5 : decode cX4_start 5 = .ok (.aload_n 0, 1) := by decide +kernel
theorem dX4_start_6 : decode cX4_start 6 = .ok (.iload_n 2, 1) := by decide +kernel
theorem dX4_start_7 : decode cX4_start 7 = .ok (.aload_n 1, 1) := by decide +kernel
theorem dX4_start_8 : decode cX4_start 8 = .ok (.arraylength, 1) := by decide +kernel
theorem dX4_start_9 : decode cX4_start 9 = .ok (.invokestatic 28, 3) := by decide +kernel
theorem dX4_start_12 : decode cX4_start 12 = .ok (.putfield 34, 3) := by decide +kernel
theorem dX4_start_15 : decode cX4_start 15 = .ok (.aload_n 0, 1) := by decide +kernel
theorem dX4_start_16 : decode cX4_start 16 = .ok (.iconst 0, 1) := by decide +kernel
theorem dX4_start_17 : decode cX4_start 17 = .ok (.putfield 38, 3) := by decide +kernel
theorem dX4_start_20 : decode cX4_start 20 = .ok (.aload_n 0, 1) := by decide +kernel
theorem dX4_start_21 : decode cX4_start 21 = .ok (.iconst 0, 1) := by decide +kernel
theorem dX4_start_22 : decode cX4_start 22 = .ok (.putfield 41, 3) := by decide +kernel
theorem dX4_start_25 : decode cX4_start 25 = .ok (.aload_n 0, 1) := by decide +kernel
theorem dX4_start_26 : decode cX4_start 26 = .ok (.iconst 0, 1) := by decide +kernel
theorem dX4_start_27 : decode cX4_start 27 = .ok (.putfield 44, 3) := by decide +kernel
theorem dX4_start_30 : decode cX4_start 30 = .ok (.aload_n 0, 1) := by decide +kernel
theorem dX4_start_31 : decode cX4_start 31 = .ok (.iconst 0, 1) := by decide +kernel
theorem dX4_start_32 : decode cX4_start 32 = .ok (.putfield 47, 3) := by decide +kernel
theorem dX4_start_35 : decode cX4_start 35 = .ok (.return_, 1) := by decide +kernel
theorem dX4_advance_0 : decode cX4_advance 0 = .ok (.aload_n 0, 1) := by decide +kernel
theorem dX4_advance_1 : decode cX4_advance 1 = .ok (.getfield 44, 3) := by decide +kernel
theorem dX4_advance_4 : decode cX4_advance 4 = .ok (.ifCond .le 33, 3) := by decide +kernel
theorem dX4_advance_7 : decode cX4_advance 7 = .ok (.aload_n 0, 1) := by decide +kernel
theorem dX4_advance_8 : decode cX4_advance 8 = .ok (.getfield 13, 3) := by decide +kernel
theorem dX4_advance_11 : decode cX4_advance 11 = .ok (.aload_n 0, 1) := by decide +kernel
theorem dX4_advance_12 : decode cX4_advance 12 = .ok (.getfield 44, 3) := by decide +kernel
theorem dX4_advance_15 : decode cX4_advance 15 = .ok (.iconst 1, 1) := by decide +kernel
theorem dX4_advance_16 : decode cX4_advance 16 = .ok (.isub, 1) := by decide +kernel
theorem dX4_advance_17 : decode cX4_advance 17 = .ok (.aaload, 1) := by decide +kernel
theorem dX4_advance_18 : decode cX4_advance 18 = .ok (.invokevirtual 50, 3) := by decide +kernel
theorem dX4_advance_21 : decode cX4_advance 21 = .ok (.ifCond .eq 16, 3) := by decide +kernel
theorem dX4_advance_24 : decode cX4_advance 24 = .ok (.aload_n 0, 1) := by decide +kernel
theorem dX4_advance_25 : decode cX4_advance 25 = .ok (.dup, 1) := by decide +kernel
theorem dX4_advance_26 : decode cX4_advance 26 = .ok (.getfield 44, 3) := by decide +kernel
theorem dX4_advance_29 : decode cX4_advance 29 = .ok (.iconst 1, 1) := by decide +kernel
theorem dX4_advance_30 : decode cX4_advance 30 = .ok (.isub, 1) := by decide +kernel
theorem dX4_advance_31 : decode cX4_advance 31 = .ok (.putfield 44, 3) := by decide +kernel
theorem dX4_advance_34 : decode cX4_advance 34 = .ok (.goto (-34), 3) := by decide +kernel
theorem dX4_advance_37 : decode cX4_advance 37 = .ok (.aload_n 0, 1) := by decide +kernel
theorem dX4_advance_38 : decode cX4_advance 38 = .ok (.getfield 44, 3) := by decide +kernel
theorem dX4_advance_41 : decode cX4_advance 41 = .ok (.ifCond .le 20, 3) := by decide +kernel
theorem dX4_advance_44 : decode cX4_advance 44 = .ok (.aload_n 0, 1) := by decide +kernel
theorem dX4_advance_45 : decode cX4_advance 45 = .ok (.aload_n 0, 1) := by decide +kernel
theorem dX4_advance_46 : decode cX4_advance 46 = .ok (.getfield 13, 3) := by decide +kernel
theorem dX4_advance_49 : decode cX4_advance 49 = .ok (.aload_n 0, 1) := by decide +kernel
theorem dX4_advance_50 : decode cX4_advance 50 = .ok (.getfield 44, 3) := by decide +kernel
theorem dX4_advance_53 : decode cX4_advance 53 = .ok (.iconst 1, 1) := by decide +kernel
theorem dX4_advance_54 : decode cX4_advance 54 = .ok (.isub, 1) := by decide +kernel
theorem dX4_advance_55 : decode cX4_advance 55 = .ok (.aaload, 1) := by decide +kernel
theorem dX4_advance_56 : decode cX4_advance 56 = .ok (.invokevirtual 54, 3) := by decide +kernel
theorem dX4_advance_59 : decode cX4_advance 59 = .ok (.iconst 1, 1) := by decide +kernel
theorem dX4_advance_60 : decode cX4_advance 60 = .ok (.ireturn, 1) := by decide +kernel
theorem dX4_advance_61 : decode cX4_advance 61 = .ok (.aload_n 0, 1) := by decide +kernel
theorem dX4_advance_62 : decode cX4_advance 62 = .ok (.getfield 38, 3) := by decide +kernel
theorem dX4_advance_65 : decode cX4_advance 65 = .ok (.aload_n 0, 1) := by decide +kernel
theorem dX4_advance_66 : decode cX4_advance 66 = .ok (.getfield 34, 3) := by decide +kernel
theorem dX4_advance_69 : decode cX4_advance 69 = .ok (.if_icmp .lt 5, 3) := by decide +kernel
theorem dX4_advance_72 : decode cX4_advance 72 = .ok (.iconst 0, 1) := by decide +kernel
theorem dX4_advance_73 : decode cX4_advance 73 = .ok (.ireturn, 1) := by decide +kernel
theorem dX4_advance_74 : decode cX4_advance 74 = .ok (.aload_n 0, 1) := by decide +kernel
theorem dX4_advance_75 : decode cX4_advance 75 = .ok (.aload_n 0, 1) := by decide +kernel
theorem dX4_advance_76 : decode cX4_advance 76 = .ok (.getfield 17, 3) := by decide +kernel
theorem dX4_advance_79 : decode cX4_advance 79 = .ok (.putfield 24, 3) := by decide +kernel
theorem dX4_advance_82 : decode cX4_advance 82 = .ok (.aload_n 0, 1) := by decide +kernel
theorem dX4_advance_83 : decode cX4_advance 83 = .ok (.aload_n 0, 1) := by decide +kernel
theorem dX4_advance_84 : decode cX4_advance 84 = .ok (.getfield 38, 3) := by decide +kernel
theorem dX4_advance_87 : decode cX4_advance 87 = .ok (.putfield 58, 3) := by decide +kernel
theorem dX4_advance_90 : decode cX4_advance 90 = .ok (.aload_n 0, 1) := by decide +kernel
theorem dX4_advance_91 : decode cX4_advance 91 = .ok (.aload_n 0, 1) := by decide +kernel
theorem dX4_advance_92 : decode cX4_advance 92 = .ok (.aload_n 0, 1) := by decide +kernel
theorem dX4_advance_93 : decode cX4_advance 93 = .ok (.getfield 58, 3) := by decide +kernel
theorem dX4_advance_96 : decode cX4_advance 96 = .ok (.aload_n 0, 1) := by decide +kernel
theorem dX4_advance_97 : decode cX4_advance 97 = .ok (.getfield 34, 3) := by decide +kernel
theorem dX4_advance_100 : decode cX4_advance 100 = .ok (.invokevirtual 61, 3) := by decide +kernel
theorem dX4_advance_103 : decode cX4_advance 103 = .ok (.putfield 64, 3) := by decide +kernel
theorem dX4_advance_106 : decode cX4_advance 106 = .ok (.aload_n 0, 1) := by decide +kernel
theorem dX4_advance_107 : decode cX4_advance 107 = .ok (.aload_n 0, 1) := by decide +kernel
theorem dX4_advance_108 : decode cX4_advance 108 = .ok (.getfield 64, 3) := by decide +kernel
theorem dX4_advance_111 : decode cX4_advance 111 = .ok (.iconst 1, 1) := by decide +kernel
theorem dX4_advance_112 : decode cX4_advance 112 = .ok (.iadd, 1) := by decide +kernel
theorem dX4_advance_113 : decode cX4_advance 113 = .ok (.putfield 38, 3) := by decide +kernel
theorem dX4_advance_116 : decode cX4_advance 116 = .ok (.aload_n 0, 1) := by decide +kernel
theorem dX4_advance_117 : decode cX4_advance 117 = .ok (.dup, 1) := by decide +kernel
theorem dX4_advance_118 : decode cX4_advance 118 = .ok (.getfield 41, 3) := by decide +kernel
theorem dX4_advance_121 : decode cX4_advance 121 = .ok (.iconst 1, 1) := by decide +kernel
theorem dX4_advance_122 : decode cX4_advance 122 = .ok (.iadd, 1) := by decide +kernel
theorem dX4_advance_123 : decode cX4_advance 123 = .ok (.putfield 41, 3) := by decide +kernel
theorem dX4_advance_126 : decode cX4_advance 126 = .ok (.iconst 1, 1) := by decide +kernel
theorem dX4_advance_127 : decode cX4_advance 127 = .ok (.ireturn, 1) := by decide +kernel
theorem dX11_run_0 : decode cX11_run 0 = .ok (.aload_n 0, 1) := by decide +kernel
theorem dX11_run_1 : decode cX11_run 1 = .ok (.getfield 28, 3) := by decide +kernel
theorem dX11_run_4 : decode cX11_run 4 = .ok (.aload_n 1, 1) := by decide +kernel
theorem dX11_run_5 : decode cX11_run 5 = .ok (.iload_n 2, 1) := by decide +kernel
theorem dX11_run_6 : decode cX11_run 6 = .ok (.invokevirtual 72, 3) := by decide +kernel
theorem dX11_run_9 : decode cX11_run 9 = .ok (.aload_n 0, 1) := by decide +kernel
theorem dX11_run_10 : decode cX11_run 10 = .ok (.iconst 0, 1) := by decide +kernel
theorem dX11_run_11 : decode cX11_run 11 = .ok (.putfield 76, 3) := by decide +kernel
theorem dX11_run_14 : decode cX11_run 14 = .ok (.iconst 0, 1) := by decide +kernel
theorem dX11_run_15 : decode cX11_run 15 = .ok (.istore_n 3, 1) := by decide +kernel
theorem dX11_run_16 : decode cX11_run 16 = .ok (.iload_n 3, 1) := by decide +kernel
theorem dX11_run_17 : decode cX11_run 17 = .ok (.ldc 80, 2) := by decide +kernel
theorem dX11_run_19 : decode cX11_run 19 = .ok (.if_icmp .ge 85, 3) := by decide +kernel
theorem dX11_run_22 : decode cX11_run 22 = .ok (.aload_n 0, 1) := by decide +kernel
theorem dX11_run_23 : decode cX11_run 23 = .ok (.getfield 28, 3) := by decide +kernel
theorem dX11_run_26 : decode cX11_run 26 = .ok (.invokevirtual 81, 3) := by decide +kernel
theorem dX11_run_29 : decode cX11_run 29 = .ok (.ifCond .eq 75, 3) := by decide +kernel
theorem dX11_run_32 : decode cX11_run 32 = .ok (.aload_n 0, 1) := by decide +kernel
theorem dX11_run_33 : decode cX11_run 33 = .ok (.getfield 12, 3) := by decide +kernel
theorem dX11_run_36 : decode cX11_run 36 = .ok (.aload_n 0, 1) := by decide +kernel
theorem dX11_run_37 : decode cX11_run 37 = .ok (.getfield 28, 3) := by decide +kernel
theorem dX11_run_40 : decode cX11_run 40 = .ok (.getfield 85, 3) := by decide +kernel
theorem dX11_run_43 : decode cX11_run 43 = .ok (.aload_n 0, 1) := by decide +kernel
theorem dX11_run_44 : decode cX11_run 44 = .ok (.getfield 28, 3) := by decide +kernel
theorem dX11_run_47 : decode cX11_run 47 = .ok (.getfield 89, 3) := by decide +kernel
theorem dX11_run_50 : decode cX11_run 50 = .ok (.aload_n 0, 1) := by decide +kernel
theorem dX11_run_51 : decode cX11_run 51 = .ok (.getfield 28, 3) := by decide +kernel
theorem dX11_run_54 : decode cX11_run 54 = .ok (.getfield 93, 3) := by decide +kernel
theorem dX11_run_57 : decode cX11_run 57 = .ok (.invokevirtual 96, 3) := by decide +kernel
theorem dX11_run_60 : decode cX11_run 60 = .ok (.aload_n 0, 1) := by decide +kernel
theorem dX11_run_61 : decode cX11_run 61 = .ok (.getfield 76, 3) := by decide +kernel
theorem dX11_run_64 : decode cX11_run 64 = .ok (.ifCond .eq 10, 3) := by decide +kernel
theorem dX11_run_67 : decode cX11_run 67 = .ok (.aload_n 0, 1) := by decide +kernel
theorem dX11_run_68 : decode cX11_run 68 = .ok (.invokevirtual 99, 3) := by decide +kernel
theorem dX11_run_71 : decode cX11_run 71 = .ok (.goto 27, 3) := by decide +kernel
theorem dX11_run_74 : decode cX11_run 74 = .ok (.aload_n 0, 1) := by decide +kernel
theorem dX11_run_75 : decode cX11_run 75 = .ok (.invokevirtual 102, 3) := by decide +kernel
theorem dX11_run_78 : decode cX11_run 78 = .ok (.istore 4, 2) := by decide +kernel
theorem dX11_run_80 : decode cX11_run 80 = .ok (.iload 4, 2) := by decide +kernel
theorem dX11_run_82 : decode cX11_run 82 = .ok (.ifCond .ne 10, 3) := by decide +kernel
theorem dX11_run_85 : decode cX11_run 85 = .ok (.aload_n 0, 1) := by decide +kernel
theorem dX11_run_86 : decode cX11_run 86 = .ok (.invokevirtual 106, 3) := by decide +kernel
theorem dX11_run_89 : decode cX11_run 89 = .ok (.goto 9, 3) := by decide +kernel
theorem dX11_run_92 : decode cX11_run 92 = .ok (.aload_n 0, 1) := by decide +kernel
theorem dX11_run_93 : decode cX11_run 93 = .ok (.iload 4, 2) := by decide +kernel
theorem dX11_run_95 : decode cX11_run 95 = .ok (.invokevirtual 109, 3) := by decide +kernel
theorem dX11_run_98 : decode cX11_run 98 = .ok (.iinc 3 1, 3) := by decide +kernel
theorem dX11_run_101 : decode cX11_run 101 = .ok (.goto (-85), 3) := by decide +kernel
theorem dX11_run_104 : decode cX11_run 104 = .ok (.aload_n 0, 1) := by decide +kernel
theorem dX11_run_105 : decode cX11_run 105 = .ok (.getfield 76, 3) := by decide +kernel
theorem dX11_run_108 : decode cX11_run 108 = .ok (.ifCond .eq 22, 3) := by decide +kernel
theorem dX11_run_111 : decode cX11_run 111 = .ok (.aload_n 0, 1) := by decide +kernel
theorem dX11_run_112 : decode cX11_run 112 = .ok (.getfield 113, 3) := by decide +kernel
theorem dX11_run_115 : decode cX11_run 115 = .ok (.ifCond .eq 15, 3) := by decide +kernel
theorem dX11_run_118 : decode cX11_run 118 = .ok (.aload_n 0, 1) := by decide +kernel
theorem dX11_run_119 : decode cX11_run 119 = .ok (.getfield 57, 3) := by decide +kernel
theorem dX11_run_122 : decode cX11_run 122 = .ok (.iconst 1, 1) := by decide +kernel
theorem dX11_run_123 : decode cX11_run 123 = .ok (.aload_n 0, 1) := by decide +kernel
theorem dX11_run_124 : decode cX11_run 124 = .ok (.getfield 116, 3) := by decide +kernel
theorem dX11_run_127 : decode cX11_run 127 = .ok (.invokevirtual 119, 3) := by decide +kernel
theorem dX11_run_130 : decode cX11_run 130 = .ok (.return_, 1) := by decide +kernel
theorem dX3_resolve_0 : decode cX3_resolve 0 = .ok (.iconst 0, 1) := by decide +kernel
theorem dX3_resolve_1 : decode cX3_resolve 1 = .ok (.istore_n 1, 1) := by decide +kernel
theorem dX3_resolve_2 : decode cX3_resolve 2 = .ok (.iload_n 1, 1) := by decide +kernel
theorem dX3_resolve_3 : decode cX3_resolve 3 = .ok (.aload_n 0, 1) := by decide +kernel
theorem dX3_resolve_4 : decode cX3_resolve 4 = .ok (.getfield 33, 3) := by decide +kernel
theorem dX3_resolve_7 : decode cX3_resolve 7 = .ok (.if_icmp .ge 60, 3) := by decide +kernel
theorem dX3_resolve_10 : decode cX3_resolve 10 = .ok (.aload_n 0, 1) := by decide +kernel
theorem dX3_resolve_11 : decode cX3_resolve 11 = .ok (.getfield 21, 3) := by decide +kernel
theorem dX3_resolve_14 : decode cX3_resolve 14 = .ok (.iload_n 1, 1) := by decide +kernel
theorem dX3_resolve_15 : decode cX3_resolve 15 = .ok (.laload, 1) := by decide +kernel
theorem dX3_resolve_16 : decode cX3_resolve 16 = .ok (.invokestatic 89, 3) := by decide +kernel
theorem dX3_resolve_19 : decode cX3_resolve 19 = .ok (.lstore_n 2, 1) := by decide +kernel
theorem dX3_resolve_20 : decode cX3_resolve 20 = .ok (.aload_n 0, 1) := by decide +kernel
theorem dX3_resolve_21 : decode cX3_resolve 21 = .ok (.getfield 25, 3) := by decide +kernel
theorem dX3_resolve_24 : decode cX3_resolve 24 = .ok (.lload_n 2, 1) := by decide +kernel
theorem dX3_resolve_25 : decode cX3_resolve 25 = .ok (.invokevirtual 68, 3) := by decide +kernel
theorem dX3_resolve_28 : decode cX3_resolve 28 = .ok (.istore 4, 2) := by decide +kernel
theorem dX3_resolve_30 : decode cX3_resolve 30 = .ok (.aload_n 0, 1) := by decide +kernel
theorem dX3_resolve_31 : decode cX3_resolve 31 = .ok (.getfield 21, 3) := by decide +kernel
theorem dX3_resolve_34 : decode cX3_resolve 34 = .ok (.iload_n 1, 1) := by decide +kernel
theorem dX3_resolve_35 : decode cX3_resolve 35 = .ok (.aload_n 0, 1) := by decide +kernel
theorem dX3_resolve_36 : decode cX3_resolve 36 = .ok (.getfield 21, 3) := by decide +kernel
theorem dX3_resolve_39 : decode cX3_resolve 39 = .ok (.iload_n 1, 1) := by decide +kernel
theorem dX3_resolve_40 : decode cX3_resolve 40 = .ok (.laload, 1) := by decide +kernel
theorem dX3_resolve_41 : decode cX3_resolve 41 = .ok (.lconst 0, 1) := by decide +kernel
theorem dX3_resolve_42 : decode cX3_resolve 42 = .ok (.lcmp, 1) := by decide +kernel
theorem dX3_resolve_43 : decode cX3_resolve 43 = .ok (.ifCond .ge 12, 3) := by decide +kernel
theorem dX3_resolve_46 : decode cX3_resolve 46 = .ok (.iload 4, 2) := by decide +kernel
theorem dX3_resolve_48 : decode cX3_resolve 48 = .ok (.iconst 1, 1) := by decide +kernel
theorem dX3_resolve_49 : decode cX3_resolve 49 = .ok (.iadd, 1) := by decide +kernel
theorem dX3_resolve_50 : decode cX3_resolve 50 = .ok (.ineg, 1) := by decide +kernel
theorem dX3_resolve_51 : decode cX3_resolve 51 = .ok (.i2l, 1) := by decide +kernel
theorem dX3_resolve_52 : decode cX3_resolve 52 = .ok (.goto 8, 3) := by decide +kernel
theorem dX3_resolve_55 : decode cX3_resolve 55 = .ok (.iload 4, 2) := by decide +kernel
theorem dX3_resolve_57 : decode cX3_resolve 57 = .ok (.iconst 1, 1) := by decide +kernel
theorem dX3_resolve_58 : decode cX3_resolve 58 = .ok (.iadd, 1) := by decide +kernel
theorem dX3_resolve_59 : decode cX3_resolve 59 = .ok (.i2l, 1) := by decide +kernel
theorem dX3_resolve_60 : decode cX3_resolve 60 = .ok (.lastore, 1) := by decide +kernel
theorem dX3_resolve_61 : decode cX3_resolve 61 = .ok (.iinc 1 1, 3) := by decide +kernel
theorem dX3_resolve_64 : decode cX3_resolve 64 = .ok (.goto (-62), 3) := by decide +kernel
theorem dX3_resolve_67 : decode cX3_resolve 67 = .ok (.return_, 1) := by decide +kernel
theorem dX8_layOut_0 : decode cX8_layOut 0 = .ok (.iconst 0, 1) := by decide +kernel
theorem dX8_layOut_1 : decode cX8_layOut 1 = .ok (.istore_n 1, 1) := by decide +kernel
theorem dX8_layOut_2 : decode cX8_layOut 2 = .ok (.iconst 0, 1) := by decide +kernel
theorem dX8_layOut_3 : decode cX8_layOut 3 = .ok (.istore_n 2, 1) := by decide +kernel
theorem dX8_layOut_4 : decode cX8_layOut 4 = .ok (.iconst 0, 1) := by decide +kernel
theorem dX8_layOut_5 : decode cX8_layOut 5 = .ok (.istore_n 3, 1) := by decide +kernel
theorem dX8_layOut_6 : decode cX8_layOut 6 = .ok (.iload_n 3, 1) := by decide +kernel
theorem dX8_layOut_7 : decode cX8_layOut 7 = .ok (.aload_n 0, 1) := by decide +kernel
theorem dX8_layOut_8 : decode cX8_layOut 8 = .ok (.getfield 45, 3) := by decide +kernel
theorem dX8_layOut_11 : decode cX8_layOut 11 = .ok (.if_icmp .ge 85, 3) := by decide +kernel
theorem dX8_layOut_14 : decode cX8_layOut 14 = .ok (.aload_n 0, 1) := by decide +kernel
theorem dX8_layOut_15 : decode cX8_layOut 15 = .ok (.getfield 29, 3) := by decide +kernel
theorem dX8_layOut_18 : decode cX8_layOut 18 = .ok (.iload_n 3, 1) := by decide +kernel
theorem dX8_layOut_19 : decode cX8_layOut 19 = .ok (.aaload, 1) := by decide +kernel
theorem dX8_layOut_20 : decode cX8_layOut 20 = .ok (.astore 4, 2) := by decide +kernel
theorem dX8_layOut_22 : decode cX8_layOut 22 = .ok (.aload 4, 2) := by decide +kernel
theorem dX8_layOut_24 : decode cX8_layOut 24 = .ok (.iload_n 1, 1) := by decide +kernel
theorem dX8_layOut_25 : decode cX8_layOut 25 = .ok (.putfield 87, 3) := by decide +kernel
theorem dX8_layOut_28 : decode cX8_layOut 28 = .ok (.aload 4, 2) := by decide +kernel
theorem dX8_layOut_30 : decode cX8_layOut 30 = .ok (.aload 4, 2) := by decide +kernel
theorem dX8_layOut_32 : decode cX8_layOut 32 = .ok (.iload_n 2, 1) := by decide +kernel
theorem dX8_layOut_33 : decode cX8_layOut 33 = .ok (.invokestatic 90, 3) := by decide +kernel
theorem dX8_layOut_36 : decode cX8_layOut 36 = .ok (.putfield 94, 3) := by decide +kernel
theorem dX8_layOut_39 : decode cX8_layOut 39 = .ok (.aload_n 0, 1) := by decide +kernel
theorem dX8_layOut_40 : decode cX8_layOut 40 = .ok (.getfield 12, 3) := by decide +kernel
theorem dX8_layOut_43 : decode cX8_layOut 43 = .ok (.aload 4, 2) := by decide +kernel
theorem dX8_layOut_45 : decode cX8_layOut 45 = .ok (.getfield 97, 3) := by decide +kernel
theorem dX8_layOut_48 : decode cX8_layOut 48 = .ok (.iload_n 1, 1) := by decide +kernel
theorem dX8_layOut_49 : decode cX8_layOut 49 = .ok (.invokevirtual 100, 3) := by decide +kernel
theorem dX8_layOut_52 : decode cX8_layOut 52 = .ok (.iload_n 1, 1) := by decide +kernel
theorem dX8_layOut_53 : decode cX8_layOut 53 = .ok (.aload 4, 2) := by decide +kernel
theorem dX8_layOut_55 : decode cX8_layOut 55 = .ok (.getfield 94, 3) := by decide +kernel
theorem dX8_layOut_58 : decode cX8_layOut 58 = .ok (.iadd, 1) := by decide +kernel
theorem dX8_layOut_59 : decode cX8_layOut 59 = .ok (.istore_n 1, 1) := by decide +kernel
theorem dX8_layOut_60 : decode cX8_layOut 60 = .ok (.aload 4, 2) := by decide +kernel
theorem dX8_layOut_62 : decode cX8_layOut 62 = .ok (.getfield 102, 3) := by decide +kernel
theorem dX8_layOut_65 : decode cX8_layOut 65 = .ok (.getstatic 106, 3) := by decide +kernel
theorem dX8_layOut_68 : decode cX8_layOut 68 = .ok (.if_acmp .ne 9, 3) := by decide +kernel
theorem dX8_layOut_71 : decode cX8_layOut 71 = .ok (.iinc 2 1, 3) := by decide +kernel
theorem dX8_layOut_74 : decode cX8_layOut 74 = .ok (.goto 16, 3) := by decide +kernel
theorem dX8_layOut_77 : decode cX8_layOut 77 = .ok (.aload 4, 2) := by decide +kernel
theorem dX8_layOut_79 : decode cX8_layOut 79 = .ok (.getfield 102, 3) := by decide +kernel
theorem dX8_layOut_82 : decode cX8_layOut 82 = .ok (.getstatic 111, 3) := by decide +kernel
theorem dX8_layOut_85 : decode cX8_layOut 85 = .ok (.if_acmp .ne 5, 3) := by decide +kernel
theorem dX8_layOut_88 : decode cX8_layOut 88 = .ok (.iconst 0, 1) := by decide +kernel
theorem dX8_layOut_89 : decode cX8_layOut 89 = .ok (.istore_n 2, 1) := by decide +kernel
theorem dX8_layOut_90 : decode cX8_layOut 90 = .ok (.iinc 3 1, 3) := by decide +kernel
theorem dX8_layOut_93 : decode cX8_layOut 93 = .ok (.goto (-87), 3) := by decide +kernel
theorem dX8_layOut_96 : decode cX8_layOut 96 = .ok (.aload_n 0, 1) := by decide +kernel
theorem dX8_layOut_97 : decode cX8_layOut 97 = .ok (.iload_n 1, 1) := by decide +kernel
theorem dX8_layOut_98 : decode cX8_layOut 98 = .ok (.iload_n 2, 1) := by decide +kernel
theorem dX8_layOut_99 : decode cX8_layOut 99 = .ok (.iadd, 1) := by decide +kernel
theorem dX8_layOut_100 : decode cX8_layOut 100 = .ok (.putfield 49, 3) := by decide +kernel
theorem dX8_layOut_103 : decode cX8_layOut 103 = .ok (.return_, 1) := by decide +kernel
theorem dX8_grow_0 : decode cX8_grow 0 = .ok (.iconst 0, 1) := by decide +kernel
theorem dX8_grow_1 : decode cX8_grow 1 = .ok (.istore_n 1, 1) := by decide +kernel
theorem dX8_grow_2 : decode cX8_grow 2 = .ok (.iconst 0, 1) := by decide +kernel
theorem dX8_grow_3 : decode cX8_grow 3 = .ok (.istore_n 2, 1) := by decide +kernel
theorem dX8_grow_4 : decode cX8_grow 4 = .ok (.iload_n 2, 1) := by decide +kernel
theorem dX8_grow_5 : decode cX8_grow 5 = .ok (.aload_n 0, 1) := by decide +kernel
theorem dX8_grow_6 : decode cX8_grow 6 = .ok (.getfield 45, 3) := by decide +kernel
theorem dX8_grow_9 : decode cX8_grow 9 = .ok (.if_icmp .ge 48, 3) := by decide +kernel
theorem dX8_grow_12 : decode cX8_grow 12 = .ok (.aload_n 0, 1) := by decide +kernel
theorem dX8_grow_13 : decode cX8_grow 13 = .ok (.getfield 29, 3) := by decide +kernel
theorem dX8_grow_16 : decode cX8_grow 16 = .ok (.iload_n 2, 1) := by decide +kernel
theorem dX8_grow_17 : decode cX8_grow 17 = .ok (.aaload, 1) := by decide +kernel
theorem dX8_grow_18 : decode cX8_grow 18 = .ok (.astore_n 3, 1) := by decide +kernel
theorem dX8_grow_19 : decode cX8_grow 19 = .ok (.aload_n 3, 1) := by decide +kernel
theorem dX8_grow_20 : decode cX8_grow 20 = .ok (.getfield 102, 3) := by decide +kernel
theorem dX8_grow_23 : decode cX8_grow 23 = .ok (.getfield 131, 3) := by decide +kernel
theorem dX8_grow_26 : decode cX8_grow 26 = .ok (.ifCond .le 25, 3) := by decide +kernel
theorem dX8_grow_29 : decode cX8_grow 29 = .ok (.aload_n 3, 1) := by decide +kernel
theorem dX8_grow_30 : decode cX8_grow 30 = .ok (.getfield 127, 3) := by decide +kernel
theorem dX8_grow_33 : decode cX8_grow 33 = .ok (.ifCond .ne 18, 3) := by decide +kernel
theorem dX8_grow_36 : decode cX8_grow 36 = .ok (.aload_n 0, 1) := by decide +kernel
theorem dX8_grow_37 : decode cX8_grow 37 = .ok (.aload_n 3, 1) := by decide +kernel
theorem dX8_grow_38 : decode cX8_grow 38 = .ok (.invokevirtual 134, 3) := by decide +kernel
theorem dX8_grow_41 : decode cX8_grow 41 = .ok (.ifCond .ne 10, 3) := by decide +kernel
theorem dX8_grow_44 : decode cX8_grow 44 = .ok (.aload_n 3, 1) := by decide +kernel
theorem dX8_grow_45 : decode cX8_grow 45 = .ok (.iconst 1, 1) := by decide +kernel
theorem dX8_grow_46 : decode cX8_grow 46 = .ok (.putfield 127, 3) := by decide +kernel
theorem dX8_grow_49 : decode cX8_grow 49 = .ok (.iconst 1, 1) := by decide +kernel
theorem dX8_grow_50 : decode cX8_grow 50 = .ok (.istore_n 1, 1) := by decide +kernel
theorem dX8_grow_51 : decode cX8_grow 51 = .ok (.iinc 2 1, 3) := by decide +kernel
theorem dX8_grow_54 : decode cX8_grow 54 = .ok (.goto (-50), 3) := by decide +kernel
theorem dX8_grow_57 : decode cX8_grow 57 = .ok (.iload_n 1, 1) := by decide +kernel
theorem dX8_grow_58 : decode cX8_grow 58 = .ok (.ireturn, 1) := by decide +kernel
theorem dX8_placeLiterals_0 : decode cX8_placeLiterals 0 = .ok (.aload_n 0, 1) := by decide +kernel
theorem dX8_placeLiterals_1 : decode cX8_placeLiterals 1 = .ok (.getfield 49, 3) := by decide +kernel
theorem dX8_placeLiterals_4 : decode cX8_placeLiterals 4 = .ok (.istore_n 1, 1) := by decide +kernel
theorem dX8_placeLiterals_5 : decode cX8_placeLiterals 5 = .ok (.aload_n 0, 1) := by decide +kernel
theorem dX8_placeLiterals_6 : decode cX8_placeLiterals 6 = .ok (.getfield 45, 3) := by decide +kernel
theorem dX8_placeLiterals_9 : decode cX8_placeLiterals 9 = .ok (.iconst 1, 1) := by decide +kernel
theorem dX8_placeLiterals_10 : decode cX8_placeLiterals 10 = .ok (.isub, 1) := by decide +kernel
theorem dX8_placeLiterals_11 : decode cX8_placeLiterals 11 = .ok (.istore_n 2, 1) := by decide +kernel
theorem dX8_placeLiterals_12 : decode cX8_placeLiterals 12 = .ok (.iload_n 2, 1) := by decide +kernel
theorem dX8_placeLiterals_13 : decode cX8_placeLiterals 13 = .ok (.ifCond .lt 57, 3) := by decide +kernel
theorem dX8_placeLiterals_16 : decode cX8_placeLiterals 16 = .ok (.aload_n 0, 1) := by decide +kernel
theorem dX8_placeLiterals_17 : decode cX8_placeLiterals 17 = .ok (.getfield 29, 3) := by decide +kernel
theorem dX8_placeLiterals_20 : decode cX8_placeLiterals 20 = .ok (.iload_n 2, 1) := by decide +kernel
theorem dX8_placeLiterals_21 : decode cX8_placeLiterals 21 = .ok (.aaload, 1) := by decide +kernel
theorem dX8_placeLiterals_22 : decode cX8_placeLiterals 22 = .ok (.astore_n 3, 1) := by decide +kernel
theorem dX8_placeLiterals_23 : decode cX8_placeLiterals 23 = .ok (.aload_n 3, 1) := by decide +kernel
theorem dX8_placeLiterals_24 : decode cX8_placeLiterals 24 = .ok (.getfield 102, 3) := by decide +kernel
theorem dX8_placeLiterals_27 : decode cX8_placeLiterals 27 = .ok (.getstatic 111, 3) := by decide +kernel
theorem dX8_placeLiterals_30 : decode cX8_placeLiterals 30 = .ok (.if_acmp .ne 16, 3) := by decide +kernel
theorem dX8_placeLiterals_33 : decode cX8_placeLiterals 33 = .ok (.aload_n 3, 1) := by decide +kernel
theorem dX8_placeLiterals_34 : decode cX8_placeLiterals 34 = .ok (.getfield 87, 3) := by decide +kernel
theorem dX8_placeLiterals_37 : decode cX8_placeLiterals 37 = .ok (.aload_n 3, 1) := by decide +kernel
theorem dX8_placeLiterals_38 : decode cX8_placeLiterals 38 = .ok (.getfield 94, 3) := by decide +kernel
theorem dX8_placeLiterals_41 : decode cX8_placeLiterals 41 = .ok (.iadd, 1) := by decide +kernel
theorem dX8_placeLiterals_42 : decode cX8_placeLiterals 42 = .ok (.istore_n 1, 1) := by decide +kernel
theorem dX8_placeLiterals_43 : decode cX8_placeLiterals 43 = .ok (.goto 21, 3) := by decide +kernel
theorem dX8_placeLiterals_46 : decode cX8_placeLiterals 46 = .ok (.aload_n 3, 1) := by decide +kernel
theorem dX8_placeLiterals_47 : decode cX8_placeLiterals 47 = .ok (.getfield 102, 3) := by decide +kernel
theorem dX8_placeLiterals_50 : decode cX8_placeLiterals 50 = .ok (.getstatic 106, 3) := by decide +kernel
theorem dX8_placeLiterals_53 : decode cX8_placeLiterals 53 = .ok (.if_acmp .ne 11, 3) := by decide +kernel
theorem dX8_placeLiterals_56 : decode cX8_placeLiterals 56 = .ok (.iinc 1 (-1), 3) := by decide +kernel
theorem dX8_placeLiterals_59 : decode cX8_placeLiterals 59 = .ok (.aload_n 3, 1) := by decide +kernel
theorem dX8_placeLiterals_60 : decode cX8_placeLiterals 60 = .ok (.iload_n 1, 1) := by decide +kernel
theorem dX8_placeLiterals_61 : decode cX8_placeLiterals 61 = .ok (.putfield 151, 3) := by decide +kernel
theorem dX8_placeLiterals_64 : decode cX8_placeLiterals 64 = .ok (.iinc 2 (-1), 3) := by decide +kernel
theorem dX8_placeLiterals_67 : decode cX8_placeLiterals 67 = .ok (.goto (-55), 3) := by decide +kernel
theorem dX8_placeLiterals_70 : decode cX8_placeLiterals 70 = .ok (.return_, 1) := by decide +kernel
theorem dX8_check_0 : decode cX8_check 0 = .ok (.iconst 0, 1) := by decide +kernel
theorem dX8_check_1 : decode cX8_check 1 = .ok (.istore_n 1, 1) := by decide +kernel
theorem dX8_check_2 : decode cX8_check 2 = .ok (.iload_n 1, 1) := by decide +kernel
theorem dX8_check_3 : decode cX8_check 3 = .ok (.aload_n 0, 1) := by decide +kernel
theorem dX8_check_4 : decode cX8_check 4 = .ok (.getfield 45, 3) := by decide +kernel
theorem dX8_check_7 : decode cX8_check 7 = .ok (.if_icmp .ge 99, 3) := by decide +kernel
theorem dX8_check_10 : decode cX8_check 10 = .ok (.aload_n 0, 1) := by decide +kernel
theorem dX8_check_11 : decode cX8_check 11 = .ok (.getfield 29, 3) := by decide +kernel
theorem dX8_check_14 : decode cX8_check 14 = .ok (.iload_n 1, 1) := by decide +kernel
theorem dX8_check_15 : decode cX8_check 15 = .ok (.aaload, 1) := by decide +kernel
theorem dX8_check_16 : decode cX8_check 16 = .ok (.astore_n 2, 1) := by decide +kernel
theorem dX8_check_17 : decode cX8_check 17 = .ok (.iconst 0, 1) := by decide +kernel
theorem dX8_check_18 : decode cX8_check 18 = .ok (.istore_n 3, 1) := by decide +kernel
theorem dX8_check_19 : decode cX8_check 19 = .ok (.iload_n 3, 1) := by decide +kernel
theorem dX8_check_20 : decode cX8_check 20 = .ok (.aload_n 2, 1) := by decide +kernel
theorem dX8_check_21 : decode cX8_check 21 = .ok (.getfield 124, 3) := by decide +kernel
theorem dX8_check_24 : decode cX8_check 24 = .ok (.if_icmp .ge 76, 3) := by decide +kernel
theorem dX8_check_27 : decode cX8_check 27 = .ok (.aload_n 0, 1) := by decide +kernel
theorem dX8_check_28 : decode cX8_check 28 = .ok (.getfield 23, 3) := by decide +kernel
theorem dX8_check_31 : decode cX8_check 31 = .ok (.aload_n 2, 1) := by decide +kernel
theorem dX8_check_32 : decode cX8_check 32 = .ok (.getfield 142, 3) := by decide +kernel
theorem dX8_check_35 : decode cX8_check 35 = .ok (.iload_n 3, 1) := by decide +kernel
theorem dX8_check_36 : decode cX8_check 36 = .ok (.iadd, 1) := by decide +kernel
theorem dX8_check_37 : decode cX8_check 37 = .ok (.invokevirtual 154, 3) := by decide +kernel
theorem dX8_check_40 : decode cX8_check 40 = .ok (.ifCond .ne 18, 3) := by decide +kernel
theorem dX8_check_43 : decode cX8_check 43 = .ok (.aload_n 0, 1) := by decide +kernel
theorem dX8_check_44 : decode cX8_check 44 = .ok (.getfield 33, 3) := by decide +kernel
theorem dX8_check_47 : decode cX8_check 47 = .ok (.iconst 4, 1) := by decide +kernel
theorem dX8_check_48 : decode cX8_check 48 = .ok (.aload_n 2, 1) := by decide +kernel
theorem dX8_check_49 : decode cX8_check 49 = .ok (.getfield 158, 3) := by decide +kernel
theorem dX8_check_52 : decode cX8_check 52 = .ok (.invokevirtual 75, 3) := by decide +kernel
theorem dX8_check_55 : decode cX8_check 55 = .ok (.goto 39, 3) := by decide +kernel
theorem dX8_check_58 : decode cX8_check 58 = .ok (.aload_n 2, 1) := by decide +kernel
theorem dX8_check_59 : decode cX8_check 59 = .ok (.aload_n 0, 1) := by decide +kernel
theorem dX8_check_60 : decode cX8_check 60 = .ok (.getfield 23, 3) := by decide +kernel
theorem dX8_check_63 : decode cX8_check 63 = .ok (.aload_n 2, 1) := by decide +kernel
theorem dX8_check_64 : decode cX8_check 64 = .ok (.getfield 142, 3) := by decide +kernel
theorem dX8_check_67 : decode cX8_check 67 = .ok (.iload_n 3, 1) := by decide +kernel
theorem dX8_check_68 : decode cX8_check 68 = .ok (.iadd, 1) := by decide +kernel
theorem dX8_check_69 : decode cX8_check 69 = .ok (.aload_n 2, 1) := by decide +kernel
theorem dX8_check_70 : decode cX8_check 70 = .ok (.getfield 87, 3) := by decide +kernel
theorem dX8_check_73 : decode cX8_check 73 = .ok (.invokevirtual 145, 3) := by decide +kernel
theorem dX8_check_76 : decode cX8_check 76 = .ok (.invokestatic 161, 3) := by decide +kernel
theorem dX8_check_79 : decode cX8_check 79 = .ok (.ifCond .ne 15, 3) := by decide +kernel
theorem dX8_check_82 : decode cX8_check 82 = .ok (.aload_n 0, 1) := by decide +kernel
theorem dX8_check_83 : decode cX8_check 83 = .ok (.getfield 33, 3) := by decide +kernel
theorem dX8_check_86 : decode cX8_check 86 = .ok (.iconst 5, 1) := by decide +kernel
theorem dX8_check_87 : decode cX8_check 87 = .ok (.aload_n 2, 1) := by decide +kernel
theorem dX8_check_88 : decode cX8_check 88 = .ok (.getfield 158, 3) := by decide +kernel
theorem dX8_check_91 : decode cX8_check 91 = .ok (.invokevirtual 75, 3) := by decide +kernel
theorem dX8_check_94 : decode cX8_check 94 = .ok (.iinc 3 1, 3) := by decide +kernel
theorem dX8_check_97 : decode cX8_check 97 = .ok (.goto (-78), 3) := by decide +kernel
theorem dX8_check_100 : decode cX8_check 100 = .ok (.iinc 1 1, 3) := by decide +kernel
theorem dX8_check_103 : decode cX8_check 103 = .ok (.goto (-101), 3) := by decide +kernel
theorem dX8_check_106 : decode cX8_check 106 = .ok (.return_, 1) := by decide +kernel
theorem dX8_longOnes_0 : decode cX8_longOnes 0 = .ok (.iconst 0, 1) := by decide +kernel
theorem dX8_longOnes_1 : decode cX8_longOnes 1 = .ok (.istore_n 1, 1) := by decide +kernel
theorem dX8_longOnes_2 : decode cX8_longOnes 2 = .ok (.iconst 0, 1) := by decide +kernel
theorem dX8_longOnes_3 : decode cX8_longOnes 3 = .ok (.istore_n 2, 1) := by decide +kernel
theorem dX8_longOnes_4 : decode cX8_longOnes 4 = .ok (.iload_n 2, 1) := by decide +kernel
theorem dX8_longOnes_5 : decode cX8_longOnes 5 = .ok (.aload_n 0, 1) := by decide +kernel
theorem dX8_longOnes_6 : decode cX8_longOnes 6 = .ok (.getfield 45, 3) := by decide +kernel
theorem dX8_longOnes_9 : decode cX8_longOnes 9 = .ok (.if_icmp .ge 29, 3) := by decide +kernel
theorem dX8_longOnes_12 : decode cX8_longOnes 12 = .ok (.iload_n 1, 1) := by decide +kernel
theorem dX8_longOnes_13 : decode cX8_longOnes 13 = .ok (.aload_n 0, 1) := by decide +kernel
theorem dX8_longOnes_14 : decode cX8_longOnes 14 = .ok (.getfield 29, 3) := by decide +kernel
theorem dX8_longOnes_17 : decode cX8_longOnes 17 = .ok (.iload_n 2, 1) := by decide +kernel
theorem dX8_longOnes_18 : decode cX8_longOnes 18 = .ok (.aaload, 1) := by decide +kernel
theorem dX8_longOnes_19 : decode cX8_longOnes 19 = .ok (.getfield 127, 3) := by decide +kernel
theorem dX8_longOnes_22 : decode cX8_longOnes 22 = .ok (.ifCond .eq 7, 3) := by decide +kernel
theorem dX8_longOnes_25 : decode cX8_longOnes 25 = .ok (.iconst 1, 1) := by decide +kernel
theorem dX8_longOnes_26 : decode cX8_longOnes 26 = .ok (.goto 4, 3) := by decide +kernel
theorem dX8_longOnes_29 : decode cX8_longOnes 29 = .ok (.iconst 0, 1) := by decide +kernel
theorem dX8_longOnes_30 : decode cX8_longOnes 30 = .ok (.iadd, 1) := by decide +kernel
theorem dX8_longOnes_31 : decode cX8_longOnes 31 = .ok (.istore_n 1, 1) := by decide +kernel
theorem dX8_longOnes_32 : decode cX8_longOnes 32 = .ok (.iinc 2 1, 3) := by decide +kernel
theorem dX8_longOnes_35 : decode cX8_longOnes 35 = .ok (.goto (-31), 3) := by decide +kernel
theorem dX8_longOnes_38 : decode cX8_longOnes 38 = .ok (.iload_n 1, 1) := by decide +kernel
theorem dX8_longOnes_39 : decode cX8_longOnes 39 = .ok (.ireturn, 1) := by decide +kernel
theorem dX8_runTurnTwo_0 : decode cX8_runTurnTwo 0 = .ok (.aload_n 0, 1) := by decide +kernel
theorem dX8_runTurnTwo_1 : decode cX8_runTurnTwo 1 = .ok (.getfield 23, 3) := by decide +kernel
theorem dX8_runTurnTwo_4 : decode cX8_runTurnTwo 4 = .ok (.invokevirtual 65, 3) := by decide +kernel
theorem dX8_runTurnTwo_7 : decode cX8_runTurnTwo 7 = .ok (.iconst 1, 1) := by decide +kernel
theorem dX8_runTurnTwo_8 : decode cX8_runTurnTwo 8 = .ok (.istore_n 1, 1) := by decide +kernel
theorem dX8_runTurnTwo_9 : decode cX8_runTurnTwo 9 = .ok (.iload_n 1, 1) := by decide +kernel
theorem dX8_runTurnTwo_10 : decode cX8_runTurnTwo 10 = .ok (.ifCond .eq 35, 3) := by decide +kernel
theorem dX8_runTurnTwo_13 : decode cX8_runTurnTwo 13 = .ok (.aload_n 0, 1) := by decide +kernel
theorem dX8_runTurnTwo_14 : decode cX8_runTurnTwo 14 = .ok (.getfield 52, 3) := by decide +kernel
theorem dX8_runTurnTwo_17 : decode cX8_runTurnTwo 17 = .ok (.sipush 401, 3) := by decide +kernel
theorem dX8_runTurnTwo_20 : decode cX8_runTurnTwo 20 = .ok (.if_icmp .ge 25, 3) := by decide +kernel
theorem dX8_runTurnTwo_23 : decode cX8_runTurnTwo 23 = .ok (.aload_n 0, 1) := by decide +kernel
theorem dX8_runTurnTwo_24 : decode cX8_runTurnTwo 24 = .ok (.dup, 1) := by decide +kernel
theorem dX8_runTurnTwo_25 : decode cX8_runTurnTwo 25 = .ok (.getfield 52, 3) := by decide +kernel
theorem dX8_runTurnTwo_28 : decode cX8_runTurnTwo 28 = .ok (.iconst 1, 1) := by decide +kernel
theorem dX8_runTurnTwo_29 : decode cX8_runTurnTwo 29 = .ok (.iadd, 1) := by decide +kernel
theorem dX8_runTurnTwo_30 : decode cX8_runTurnTwo 30 = .ok (.putfield 52, 3) := by decide +kernel
theorem dX8_runTurnTwo_33 : decode cX8_runTurnTwo 33 = .ok (.aload_n 0, 1) := by decide +kernel
theorem dX8_runTurnTwo_34 : decode cX8_runTurnTwo 34 = .ok (.invokevirtual 68, 3) := by decide +kernel
theorem dX8_runTurnTwo_37 : decode cX8_runTurnTwo 37 = .ok (.aload_n 0, 1) := by decide +kernel
theorem dX8_runTurnTwo_38 : decode cX8_runTurnTwo 38 = .ok (.invokevirtual 71, 3) := by decide +kernel
theorem dX8_runTurnTwo_41 : decode cX8_runTurnTwo 41 = .ok (.istore_n 1, 1) := by decide +kernel
theorem dX8_runTurnTwo_42 : decode cX8_runTurnTwo 42 = .ok (.goto (-33), 3) := by decide +kernel
theorem dX8_runTurnTwo_45 : decode cX8_runTurnTwo 45 = .ok (.aload_n 0, 1) := by decide +kernel
theorem dX8_runTurnTwo_46 : decode cX8_runTurnTwo 46 = .ok (.getfield 49, 3) := by decide +kernel
theorem dX8_runTurnTwo_49 : decode cX8_runTurnTwo 49 = .ok (.ldc 74, 2) := by decide +kernel
theorem dX8_runTurnTwo_51 : decode cX8_runTurnTwo 51 = .ok (.if_icmp .le 13, 3) := by decide +kernel
theorem dX8_runTurnTwo_54 : decode cX8_runTurnTwo 54 = .ok (.aload_n 0, 1) := by decide +kernel
theorem dX8_runTurnTwo_55 : decode cX8_runTurnTwo 55 = .ok (.getfield 33, 3) := by decide +kernel
theorem dX8_runTurnTwo_58 : decode cX8_runTurnTwo 58 = .ok (.iconst 5, 1) := by decide +kernel
theorem dX8_runTurnTwo_59 : decode cX8_runTurnTwo 59 = .ok (.iconst 0, 1) := by decide +kernel
theorem dX8_runTurnTwo_60 : decode cX8_runTurnTwo 60 = .ok (.invokevirtual 75, 3) := by decide +kernel
theorem dX8_runTurnTwo_63 : decode cX8_runTurnTwo 63 = .ok (.return_, 1) := by decide +kernel
theorem dX8_runTurnTwo_64 : decode cX8_runTurnTwo 64 = .ok (.aload_n 0, 1) := by decide +kernel
theorem dX8_runTurnTwo_65 : decode cX8_runTurnTwo 65 = .ok (.invokevirtual 81, 3) := by decide +kernel
theorem dX8_runTurnTwo_68 : decode cX8_runTurnTwo 68 = .ok (.aload_n 0, 1) := by decide +kernel
theorem dX8_runTurnTwo_69 : decode cX8_runTurnTwo 69 = .ok (.invokevirtual 84, 3) := by decide +kernel
theorem dX8_runTurnTwo_72 : decode cX8_runTurnTwo 72 = .ok (.return_, 1) := by decide +kernel
theorem dX12_assemble_0 : decode cX12_assemble 0 = .ok (.aload_n 0, 1) := by decide +kernel
theorem dX12_assemble_1 : decode cX12_assemble 1 = .ok (.invokevirtual 60, 3) := by decide +kernel
theorem dX12_assemble_4 : decode cX12_assemble 4 = .ok (.aload_n 0, 1) := by decide +kernel
theorem dX12_assemble_5 : decode cX12_assemble 5 = .ok (.getfield 16, 3) := by decide +kernel
theorem dX12_assemble_8 : decode cX12_assemble 8 = .ok (.invokevirtual 63, 3) := by decide +kernel
theorem dX12_assemble_11 : decode cX12_assemble 11 = .ok (.aload_n 0, 1) := by decide +kernel
theorem dX12_assemble_12 : decode cX12_assemble 12 = .ok (.getfield 34, 3) := by decide +kernel
theorem dX12_assemble_15 : decode cX12_assemble 15 = .ok (.aload_n 0, 1) := by decide +kernel
theorem dX12_assemble_16 : decode cX12_assemble 16 = .ok (.getfield 9, 3) := by decide +kernel
theorem dX12_assemble_19 : decode cX12_assemble 19 = .ok (.aload_n 0, 1) := by decide +kernel
theorem dX12_assemble_20 : decode cX12_assemble 20 = .ok (.getfield 38, 3) := by decide +kernel
theorem dX12_assemble_23 : decode cX12_assemble 23 = .ok (.invokevirtual 66, 3) := by decide +kernel
theorem dX12_assemble_26 : decode cX12_assemble 26 = .ok (.aload_n 0, 1) := by decide +kernel
theorem dX12_assemble_27 : decode cX12_assemble 27 = .ok (.iconst 0, 1) := by decide +kernel
theorem dX12_assemble_28 : decode cX12_assemble 28 = .ok (.putfield 38, 3) := by decide +kernel
theorem dX12_assemble_31 : decode cX12_assemble 31 = .ok (.aload_n 0, 1) := by decide +kernel
theorem dX12_assemble_32 : decode cX12_assemble 32 = .ok (.getfield 16, 3) := by decide +kernel
theorem dX12_assemble_35 : decode cX12_assemble 35 = .ok (.getfield 70, 3) := by decide +kernel
theorem dX12_assemble_38 : decode cX12_assemble 38 = .ok (.ifCond .ne 10, 3) := by decide +kernel
theorem dX12_assemble_41 : decode cX12_assemble 41 = .ok (.aload_n 0, 1) := by decide +kernel
theorem dX12_assemble_42 : decode cX12_assemble 42 = .ok (.getfield 25, 3) := by decide +kernel
theorem dX12_assemble_45 : decode cX12_assemble 45 = .ok (.invokevirtual 73, 3) := by decide +kernel
theorem dX12_assemble_48 : decode cX12_assemble 48 = .ok (.aload_n 0, 1) := by decide +kernel
theorem dX12_assemble_49 : decode cX12_assemble 49 = .ok (.getfield 16, 3) := by decide +kernel
theorem dX12_assemble_52 : decode cX12_assemble 52 = .ok (.getfield 70, 3) := by decide +kernel
theorem dX12_assemble_55 : decode cX12_assemble 55 = .ok (.ifCond .le 17, 3) := by decide +kernel
theorem dX12_assemble_58 : decode cX12_assemble 58 = .ok (.aload_n 0, 1) := by decide +kernel
theorem dX12_assemble_59 : decode cX12_assemble 59 = .ok (.invokevirtual 60, 3) := by decide +kernel
theorem dX12_assemble_62 : decode cX12_assemble 62 = .ok (.new 53, 3) := by decide +kernel
theorem dX12_assemble_65 : decode cX12_assemble 65 = .ok (.dup, 1) := by decide +kernel
theorem dX12_assemble_66 : decode cX12_assemble 66 = .ok (.ldc 76, 2) := by decide +kernel
theorem dX12_assemble_68 : decode cX12_assemble 68 = .ok (.invokespecial 57, 3) := by decide +kernel
theorem dX12_assemble_71 : decode cX12_assemble 71 = .ok (.athrow, 1) := by decide +kernel
theorem dX12_assemble_72 : decode cX12_assemble 72 = .ok (.aload_n 0, 1) := by decide +kernel
theorem dX12_assemble_73 : decode cX12_assemble 73 = .ok (.getfield 25, 3) := by decide +kernel
theorem dX12_assemble_76 : decode cX12_assemble 76 = .ok (.getfield 78, 3) := by decide +kernel
theorem dX12_assemble_79 : decode cX12_assemble 79 = .ok (.ireturn, 1) := by decide +kernel
theorem dX12_error_0 : decode cX12_error 0 = .ok (.iload_n 1, 1) := by decide +kernel
theorem dX12_error_1 : decode cX12_error 1 = .ok (.ifCond .lt 23, 3) := by decide +kernel
theorem dX12_error_4 : decode cX12_error 4 = .ok (.iload_n 1, 1) := by decide +kernel
theorem dX12_error_5 : decode cX12_error 5 = .ok (.aload_n 0, 1) := by decide +kernel
theorem dX12_error_6 : decode cX12_error 6 = .ok (.getfield 16, 3) := by decide +kernel
theorem dX12_error_9 : decode cX12_error 9 = .ok (.getfield 70, 3) := by decide +kernel
theorem dX12_error_12 : decode cX12_error 12 = .ok (.if_icmp .ge 12, 3) := by decide +kernel
theorem dX12_error_15 : decode cX12_error 15 = .ok (.iload_n 2, 1) := by decide +kernel
theorem dX12_error_16 : decode cX12_error 16 = .ok (.ifCond .lt 8, 3) := by decide +kernel
theorem dX12_error_19 : decode cX12_error 19 = .ok (.iload_n 2, 1) := by decide +kernel
theorem dX12_error_20 : decode cX12_error 20 = .ok (.iconst 1, 1) := by decide +kernel
theorem dX12_error_21 : decode cX12_error 21 = .ok (.if_icmp .le 13, 3) := by decide +kernel
theorem dX12_error_24 : decode cX12_error 24 = .ok (.new 81, 3) := by decide +kernel
theorem dX12_error_27 : decode cX12_error 27 = .ok (.dup, 1) := by decide +kernel
theorem dX12_error_28 : decode cX12_error 28 = .ok (.ldc 83, 2) := by decide +kernel
theorem dX12_error_30 : decode cX12_error 30 = .ok (.invokespecial 85, 3) := by decide +kernel
theorem dX12_error_33 : decode cX12_error 33 = .ok (.athrow, 1) := by decide +kernel
theorem dX12_error_34 : decode cX12_error 34 = .ok (.iload_n 2, 1) := by decide +kernel
theorem dX12_error_35 : decode cX12_error 35 = .ok (.ifCond .ne 15, 3) := by decide +kernel
theorem dX12_error_38 : decode cX12_error 38 = .ok (.aload_n 0, 1) := by decide +kernel
theorem dX12_error_39 : decode cX12_error 39 = .ok (.getfield 16, 3) := by decide +kernel
theorem dX12_error_42 : decode cX12_error 42 = .ok (.getfield 86, 3) := by decide +kernel
theorem dX12_error_45 : decode cX12_error 45 = .ok (.iload_n 1, 1) := by decide +kernel
theorem dX12_error_46 : decode cX12_error 46 = .ok (.iaload, 1) := by decide +kernel
theorem dX12_error_47 : decode cX12_error 47 = .ok (.goto 12, 3) := by decide +kernel
theorem dX12_error_50 : decode cX12_error 50 = .ok (.aload_n 0, 1) := by decide +kernel
theorem dX12_error_51 : decode cX12_error 51 = .ok (.getfield 16, 3) := by decide +kernel
theorem dX12_error_54 : decode cX12_error 54 = .ok (.getfield 90, 3) := by decide +kernel
theorem dX12_error_57 : decode cX12_error 57 = .ok (.iload_n 1, 1) := by decide +kernel
theorem dX12_error_58 : decode cX12_error 58 = .ok (.iaload, 1) := by decide +kernel
theorem dX12_error_59 : decode cX12_error 59 = .ok (.ireturn, 1) := by decide +kernel
theorem dX12_word_0 : decode cX12_word 0 = .ok (.iload_n 1, 1) := by decide +kernel
theorem dX12_word_1 : decode cX12_word 1 = .ok (.ifCond .lt 14, 3) := by decide +kernel
theorem dX12_word_4 : decode cX12_word 4 = .ok (.iload_n 1, 1) := by decide +kernel
theorem dX12_word_5 : decode cX12_word 5 = .ok (.aload_n 0, 1) := by decide +kernel
theorem dX12_word_6 : decode cX12_word 6 = .ok (.getfield 25, 3) := by decide +kernel
theorem dX12_word_9 : decode cX12_word 9 = .ok (.getfield 78, 3) := by decide +kernel
theorem dX12_word_12 : decode cX12_word 12 = .ok (.if_icmp .lt 13, 3) := by decide +kernel
theorem dX12_word_15 : decode cX12_word 15 = .ok (.new 81, 3) := by decide +kernel
theorem dX12_word_18 : decode cX12_word 18 = .ok (.dup, 1) := by decide +kernel
theorem dX12_word_19 : decode cX12_word 19 = .ok (.ldc 93, 2) := by decide +kernel
theorem dX12_word_21 : decode cX12_word 21 = .ok (.invokespecial 85, 3) := by decide +kernel
theorem dX12_word_24 : decode cX12_word 24 = .ok (.athrow, 1) := by decide +kernel
theorem dX12_word_25 : decode cX12_word 25 = .ok (.aload_n 0, 1) := by decide +kernel
theorem dX12_word_26 : decode cX12_word 26 = .ok (.getfield 25, 3) := by decide +kernel
theorem dX12_word_29 : decode cX12_word 29 = .ok (.iload_n 1, 1) := by decide +kernel
theorem dX12_word_30 : decode cX12_word 30 = .ok (.invokevirtual 95, 3) := by decide +kernel
theorem dX12_word_33 : decode cX12_word 33 = .ok (.ireturn, 1) := by decide +kernel
theorem dX12_statement_0 : decode cX12_statement 0 = .ok (.iload_n 1, 1) := by decide +kernel
theorem dX12_statement_1 : decode cX12_statement 1 = .ok (.ifCond .lt 23, 3) := by decide +kernel
theorem dX12_statement_4 : decode cX12_statement 4 = .ok (.iload_n 1, 1) := by decide +kernel
theorem dX12_statement_5 : decode cX12_statement 5 = .ok (.aload_n 0, 1) := by decide +kernel
theorem dX12_statement_6 : decode cX12_statement 6 = .ok (.getfield 25, 3) := by decide +kernel
theorem dX12_statement_9 : decode cX12_statement 9 = .ok (.getfield 99, 3) := by decide +kernel
theorem dX12_statement_12 : decode cX12_statement 12 = .ok (.if_icmp .ge 12, 3) := by decide +kernel
theorem dX12_statement_15 : decode cX12_statement 15 = .ok (.iload_n 2, 1) := by decide +kernel
theorem dX12_statement_16 : decode cX12_statement 16 = .ok (.ifCond .lt 8, 3) := by decide +kernel
theorem dX12_statement_19 : decode cX12_statement 19 = .ok (.iload_n 2, 1) := by decide +kernel
theorem dX12_statement_20 : decode cX12_statement 20 = .ok (.iconst 3, 1) := by decide +kernel
theorem dX12_statement_21 : decode cX12_statement 21 = .ok (.if_icmp .le 13, 3) := by decide +kernel
theorem dX12_statement_24 : decode cX12_statement 24 = .ok (.new 81, 3) := by decide +kernel
theorem dX12_statement_27 : decode cX12_statement 27 = .ok (.dup, 1) := by decide +kernel
theorem dX12_statement_28 : decode cX12_statement 28 = .ok (.ldc 102, 2) := by decide +kernel
theorem dX12_statement_30 : decode cX12_statement 30 = .ok (.invokespecial 85, 3) := by decide +kernel
theorem dX12_statement_33 : decode cX12_statement 33 = .ok (.athrow, 1) := by decide +kernel
theorem dX12_statement_34 : decode cX12_statement 34 = .ok (.aload_n 0, 1) := by decide +kernel
theorem dX12_statement_35 : decode cX12_statement 35 = .ok (.getfield 25, 3) := by decide +kernel
theorem dX12_statement_38 : decode cX12_statement 38 = .ok (.getfield 104, 3) := by decide +kernel
theorem dX12_statement_41 : decode cX12_statement 41 = .ok (.iload_n 1, 1) := by decide +kernel
theorem dX12_statement_42 : decode cX12_statement 42 = .ok (.aaload, 1) := by decide +kernel
theorem dX12_statement_43 : decode cX12_statement 43 = .ok (.iload_n 2, 1) := by decide +kernel
theorem dX12_statement_44 : decode cX12_statement 44 = .ok (.invokevirtual 108, 3) := by decide +kernel
theorem dX12_statement_47 : decode cX12_statement 47 = .ok (.ireturn, 1) := by decide +kernel
theorem dX12_name_0 : decode cX12_name 0 = .ok (.aload_n 0, 1) := by decide +kernel
theorem dX12_name_1 : decode cX12_name 1 = .ok (.getfield 25, 3) := by decide +kernel
theorem dX12_name_4 : decode cX12_name 4 = .ok (.getfield 113, 3) := by decide +kernel
theorem dX12_name_7 : decode cX12_name 7 = .ok (.astore_n 3, 1) := by decide +kernel
theorem dX12_name_8 : decode cX12_name 8 = .ok (.iload_n 2, 1) := by decide +kernel
theorem dX12_name_9 : decode cX12_name 9 = .ok (.ifCond .ne 15, 3) := by decide +kernel
theorem dX12_name_12 : decode cX12_name 12 = .ok (.iload_n 1, 1) := by decide +kernel
theorem dX12_name_13 : decode cX12_name 13 = .ok (.aload_n 3, 1) := by decide +kernel
theorem dX12_name_14 : decode cX12_name 14 = .ok (.getfield 117, 3) := by decide +kernel
theorem dX12_name_17 : decode cX12_name 17 = .ok (.if_icmp .ge 7, 3) := by decide +kernel
theorem dX12_name_20 : decode cX12_name 20 = .ok (.iconst 1, 1) := by decide +kernel
theorem dX12_name_21 : decode cX12_name 21 = .ok (.goto 4, 3) := by decide +kernel
theorem dX12_name_24 : decode cX12_name 24 = .ok (.iconst 0, 1) := by decide +kernel
theorem dX12_name_25 : decode cX12_name 25 = .ok (.istore 4, 2) := by decide +kernel
theorem dX12_name_27 : decode cX12_name 27 = .ok (.iload_n 2, 1) := by decide +kernel
theorem dX12_name_28 : decode cX12_name 28 = .ok (.iconst 1, 1) := by decide +kernel
theorem dX12_name_29 : decode cX12_name 29 = .ok (.if_icmp .ne 15, 3) := by decide +kernel
theorem dX12_name_32 : decode cX12_name 32 = .ok (.iload_n 1, 1) := by decide +kernel
theorem dX12_name_33 : decode cX12_name 33 = .ok (.aload_n 3, 1) := by decide +kernel
theorem dX12_name_34 : decode cX12_name 34 = .ok (.getfield 122, 3) := by decide +kernel
theorem dX12_name_37 : decode cX12_name 37 = .ok (.if_icmp .ge 7, 3) := by decide +kernel
theorem dX12_name_40 : decode cX12_name 40 = .ok (.iconst 1, 1) := by decide +kernel
theorem dX12_name_41 : decode cX12_name 41 = .ok (.goto 4, 3) := by decide +kernel
theorem dX12_name_44 : decode cX12_name 44 = .ok (.iconst 0, 1) := by decide +kernel
theorem dX12_name_45 : decode cX12_name 45 = .ok (.istore 5, 2) := by decide +kernel
theorem dX12_name_47 : decode cX12_name 47 = .ok (.iload_n 1, 1) := by decide +kernel
theorem dX12_name_48 : decode cX12_name 48 = .ok (.ifCond .lt 13, 3) := by decide +kernel
theorem dX12_name_51 : decode cX12_name 51 = .ok (.iload 4, 2) := by decide +kernel
theorem dX12_name_53 : decode cX12_name 53 = .ok (.ifCond .ne 18, 3) := by decide +kernel
theorem dX12_name_56 : decode cX12_name 56 = .ok (.iload 5, 2) := by decide +kernel
theorem dX12_name_58 : decode cX12_name 58 = .ok (.ifCond .ne 13, 3) := by decide +kernel
theorem dX12_name_61 : decode cX12_name 61 = .ok (.new 81, 3) := by decide +kernel
theorem dX12_name_64 : decode cX12_name 64 = .ok (.dup, 1) := by decide +kernel
theorem dX12_name_65 : decode cX12_name 65 = .ok (.ldc 125, 2) := by decide +kernel
theorem dX12_name_67 : decode cX12_name 67 = .ok (.invokespecial 85, 3) := by decide +kernel
theorem dX12_name_70 : decode cX12_name 70 = .ok (.athrow, 1) := by decide +kernel
theorem dX12_name_71 : decode cX12_name 71 = .ok (.iload 4, 2) := by decide +kernel
theorem dX12_name_73 : decode cX12_name 73 = .ok (.ifCond .eq 11, 3) := by decide +kernel
theorem dX12_name_76 : decode cX12_name 76 = .ok (.aload_n 3, 1) := by decide +kernel
theorem dX12_name_77 : decode cX12_name 77 = .ok (.iload_n 1, 1) := by decide +kernel
theorem dX12_name_78 : decode cX12_name 78 = .ok (.invokevirtual 127, 3) := by decide +kernel
theorem dX12_name_81 : decode cX12_name 81 = .ok (.goto 8, 3) := by decide +kernel
theorem dX12_name_84 : decode cX12_name 84 = .ok (.aload_n 3, 1) := by decide +kernel
theorem dX12_name_85 : decode cX12_name 85 = .ok (.iload_n 1, 1) := by decide +kernel
theorem dX12_name_86 : decode cX12_name 86 = .ok (.invokevirtual 130, 3) := by decide +kernel
theorem dX12_name_89 : decode cX12_name 89 = .ok (.ireturn, 1) := by decide +kernel
theorem dX12_count_0 : decode cX12_count 0 = .ok (.iload_n 1, 1) := by decide +kernel
theorem dX12_count_1 : decode cX12_count 1 = .ok (.tableswitch 144 0 9 #[55, 60, 68, 76, 87, 98, 109, 120, 128, 136], 55) := by decide +kernel
theorem dX12_count_56 : decode cX12_count 56 = .ok (.aload_n 0, 1) := by decide +kernel
theorem dX12_count_57 : decode cX12_count 57 = .ok (.getfield 38, 3) := by decide +kernel
theorem dX12_count_60 : decode cX12_count 60 = .ok (.ireturn, 1) := by decide +kernel
theorem dX12_count_61 : decode cX12_count 61 = .ok (.aload_n 0, 1) := by decide +kernel
theorem dX12_count_62 : decode cX12_count 62 = .ok (.getfield 25, 3) := by decide +kernel
theorem dX12_count_65 : decode cX12_count 65 = .ok (.getfield 78, 3) := by decide +kernel
theorem dX12_count_68 : decode cX12_count 68 = .ok (.ireturn, 1) := by decide +kernel
theorem dX12_count_69 : decode cX12_count 69 = .ok (.aload_n 0, 1) := by decide +kernel
theorem dX12_count_70 : decode cX12_count 70 = .ok (.getfield 25, 3) := by decide +kernel
theorem dX12_count_73 : decode cX12_count 73 = .ok (.getfield 99, 3) := by decide +kernel
theorem dX12_count_76 : decode cX12_count 76 = .ok (.ireturn, 1) := by decide +kernel
theorem dX12_count_77 : decode cX12_count 77 = .ok (.aload_n 0, 1) := by decide +kernel
theorem dX12_count_78 : decode cX12_count 78 = .ok (.getfield 25, 3) := by decide +kernel
theorem dX12_count_81 : decode cX12_count 81 = .ok (.getfield 113, 3) := by decide +kernel
theorem dX12_count_84 : decode cX12_count 84 = .ok (.getfield 117, 3) := by decide +kernel
theorem dX12_count_87 : decode cX12_count 87 = .ok (.ireturn, 1) := by decide +kernel
theorem dX12_count_88 : decode cX12_count 88 = .ok (.aload_n 0, 1) := by decide +kernel
theorem dX12_count_89 : decode cX12_count 89 = .ok (.getfield 25, 3) := by decide +kernel
theorem dX12_count_92 : decode cX12_count 92 = .ok (.getfield 113, 3) := by decide +kernel
theorem dX12_count_95 : decode cX12_count 95 = .ok (.getfield 122, 3) := by decide +kernel
theorem dX12_count_98 : decode cX12_count 98 = .ok (.ireturn, 1) := by decide +kernel
theorem dX12_count_99 : decode cX12_count 99 = .ok (.aload_n 0, 1) := by decide +kernel
theorem dX12_count_100 : decode cX12_count 100 = .ok (.getfield 34, 3) := by decide +kernel
theorem dX12_count_103 : decode cX12_count 103 = .ok (.getfield 133, 3) := by decide +kernel
theorem dX12_count_106 : decode cX12_count 106 = .ok (.getfield 137, 3) := by decide +kernel
theorem dX12_count_109 : decode cX12_count 109 = .ok (.ireturn, 1) := by decide +kernel
theorem dX12_count_110 : decode cX12_count 110 = .ok (.aload_n 0, 1) := by decide +kernel
theorem dX12_count_111 : decode cX12_count 111 = .ok (.getfield 34, 3) := by decide +kernel
theorem dX12_count_114 : decode cX12_count 114 = .ok (.getfield 140, 3) := by decide +kernel
theorem dX12_count_117 : decode cX12_count 117 = .ok (.getfield 143, 3) := by decide +kernel
theorem dX12_count_120 : decode cX12_count 120 = .ok (.ireturn, 1) := by decide +kernel
theorem dX12_count_121 : decode cX12_count 121 = .ok (.aload_n 0, 1) := by decide +kernel
theorem dX12_count_122 : decode cX12_count 122 = .ok (.getfield 25, 3) := by decide +kernel
theorem dX12_count_125 : decode cX12_count 125 = .ok (.getfield 146, 3) := by decide +kernel
theorem dX12_count_128 : decode cX12_count 128 = .ok (.ireturn, 1) := by decide +kernel
theorem dX12_count_129 : decode cX12_count 129 = .ok (.aload_n 0, 1) := by decide +kernel
theorem dX12_count_130 : decode cX12_count 130 = .ok (.getfield 16, 3) := by decide +kernel
theorem dX12_count_133 : decode cX12_count 133 = .ok (.getfield 70, 3) := by decide +kernel
theorem dX12_count_136 : decode cX12_count 136 = .ok (.ireturn, 1) := by decide +kernel
theorem dX12_count_137 : decode cX12_count 137 = .ok (.aload_n 0, 1) := by decide +kernel
theorem dX12_count_138 : decode cX12_count 138 = .ok (.getfield 25, 3) := by decide +kernel
theorem dX12_count_141 : decode cX12_count 141 = .ok (.invokevirtual 149, 3) := by decide +kernel
theorem dX12_count_144 : decode cX12_count 144 = .ok (.ireturn, 1) := by decide +kernel
theorem dX12_count_145 : decode cX12_count 145 = .ok (.iconst (-1), 1) := by decide +kernel
theorem dX12_count_146 : decode cX12_count 146 = .ok (.ireturn, 1) := by decide +kernel

