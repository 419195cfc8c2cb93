set_option maxRecDepth 20000 in
theorem w_1_142 : (Jvm.Cond.fieldLink "AssembleLines$Program" (102 : Nat) "AssembleLines$Statement" "operation" "LAssembleLines$Operation;") ∈ b_Ws := bw_1 (List.mem_of_getElem? (i := 142) rfl) rfl
set_option maxRecDepth 20000 in
theorem w_1_145 : (Jvm.Cond.fieldLink "AssembleLines$Program" (158 : Nat) "AssembleLines$Statement" "line" "I") ∈ b_Ws := bw_1 (List.mem_of_getElem? (i := 145) rfl) rfl
set_option maxRecDepth 20000 in
theorem w_1_147 : (Jvm.Cond.fieldLink "AssembleLines$Program" (97 : Nat) "AssembleLines$Statement" "label" "I") ∈ b_Ws := bw_1 (List.mem_of_getElem? (i := 147) rfl) rfl
set_option maxRecDepth 20000 in
theorem w_1_151 : (Jvm.Cond.fieldLink "AssembleLines$Program" (186 : Nat) "AssembleLines$Statement" "register" "I") ∈ b_Ws := bw_1 (List.mem_of_getElem? (i := 151) rfl) rfl
set_option maxRecDepth 20000 in
theorem w_1_154 : (Jvm.Cond.fieldLink "AssembleLines$Program" (189 : Nat) "AssembleLines$Statement" "second" "I") ∈ b_Ws := bw_1 (List.mem_of_getElem? (i := 154) rfl) rfl
set_option maxRecDepth 20000 in
theorem w_1_156 : (Jvm.Cond.fieldLink "AssembleLines$Program" (142 : Nat) "AssembleLines$Statement" "firstValue" "I") ∈ b_Ws := bw_1 (List.mem_of_getElem? (i := 156) rfl) rfl
set_option maxRecDepth 20000 in
theorem w_1_158 : (Jvm.Cond.fieldLink "AssembleLines$Program" (124 : Nat) "AssembleLines$Statement" "values" "I") ∈ b_Ws := bw_1 (List.mem_of_getElem? (i := 158) rfl) rfl
set_option maxRecDepth 20000 in
theorem w_1_161 : (Jvm.Cond.fieldLink "AssembleLines$Program" (94 : Nat) "AssembleLines$Statement" "size" "I") ∈ b_Ws := bw_1 (List.mem_of_getElem? (i := 161) rfl) rfl
set_option maxRecDepth 20000 in
theorem w_1_164 : (Jvm.Cond.fieldLink "AssembleLines$Program" (87 : Nat) "AssembleLines$Statement" "place" "I") ∈ b_Ws := bw_1 (List.mem_of_getElem? (i := 164) rfl) rfl
set_option maxRecDepth 20000 in
theorem w_1_166 : (Jvm.Cond.fieldLink "AssembleLines$Program" (151 : Nat) "AssembleLines$Statement" "literalPlace" "I") ∈ b_Ws := bw_1 (List.mem_of_getElem? (i := 166) rfl) rfl
set_option maxRecDepth 20000 in
theorem w_1_168 : (Jvm.Cond.fieldLink "AssembleLines$Program" (127 : Nat) "AssembleLines$Statement" "isLong" "Z") ∈ b_Ws := bw_1 (List.mem_of_getElem? (i := 168) rfl) rfl
set_option maxRecDepth 20000 in
theorem w_1_202 : (Jvm.Cond.fieldLink "AssembleLines$Program" (49 : Nat) "AssembleLines$Program" "words" "I") ∈ b_Ws := bw_1 (List.mem_of_getElem? (i := 202) rfl) rfl
set_option maxRecDepth 20000 in
theorem w_1_204 : (Jvm.Cond.fieldLink "AssembleLines$Program" (52 : Nat) "AssembleLines$Program" "rounds" "I") ∈ b_Ws := bw_1 (List.mem_of_getElem? (i := 204) rfl) rfl
set_option maxRecDepth 20000 in
theorem w_3_78 : (Jvm.Cond.methodLink "AssembleLines$Program" (38 : Nat) ({ cls := "AssembleLines$Names", name := "forget", desc := "()V" } : Jvm.MethodName)) ∈ b_Ws := bw_3 (List.mem_of_getElem? (i := 78) rfl) rfl
set_option maxRecDepth 20000 in
theorem w_3_79 : (Jvm.Cond.methodLink "AssembleLines$Program" (41 : Nat) ({ cls := "AssembleLines$Expressions", name := "cut", desc := "(I)V" } : Jvm.MethodName)) ∈ b_Ws := bw_3 (List.mem_of_getElem? (i := 79) rfl) rfl
set_option maxRecDepth 20000 in
theorem w_5_39 : (Jvm.Cond.methodLink "AssembleLines$Program" (65 : Nat) ({ cls := "AssembleLines$Expressions", name := "resolve", desc := "()V" } : Jvm.MethodName)) ∈ b_Ws := bw_5 (List.mem_of_getElem? (i := 39) rfl) rfl
set_option maxRecDepth 20000 in
theorem w_5_40 : (Jvm.Cond.instanceMethod ({ cls := "AssembleLines$Expressions", name := "resolve", desc := "()V" } : Jvm.MethodName)) ∈ b_Ws := bw_5 (List.mem_of_getElem? (i := 40) rfl) rfl
set_option maxRecDepth 20000 in
theorem w_5_41 : (Jvm.Cond.selects "AssembleLines$Expressions" ({ cls := "AssembleLines$Expressions", name := "resolve", desc := "()V" } : Jvm.MethodName) ({ cls := "AssembleLines$Expressions", name := "resolve", desc := "()V" } : Jvm.MethodName)) ∈ b_Ws := bw_5 (List.mem_of_getElem? (i := 41) rfl) rfl
set_option maxRecDepth 20000 in
theorem w_5_42 : (Jvm.Cond.code ({ cls := "AssembleLines$Expressions", name := "resolve", desc := "()V" } : Jvm.MethodName) prog_5_method_7_code (5 : Nat) (Option.none : Option Jvm.ClassFile.FieldType)) ∈ b_Ws := bw_5 (List.mem_of_getElem? (i := 42) rfl) rfl
set_option maxRecDepth 20000 in
theorem w_5_46 : (Jvm.Cond.methodLink "AssembleLines$Program" (68 : Nat) ({ cls := "AssembleLines$Program", name := "layOut", desc := "()V" } : Jvm.MethodName)) ∈ b_Ws := bw_5 (List.mem_of_getElem? (i := 46) rfl) rfl
set_option maxRecDepth 20000 in
theorem w_5_48 : (Jvm.Cond.instanceMethod ({ cls := "AssembleLines$Program", name := "layOut", desc := "()V" } : Jvm.MethodName)) ∈ b_Ws := bw_5 (List.mem_of_getElem? (i := 48) rfl) rfl
set_option maxRecDepth 20000 in
theorem w_5_49 : (Jvm.Cond.code ({ cls := "AssembleLines$Program", name := "layOut", desc := "()V" } : Jvm.MethodName) prog_10_method_7_code (5 : Nat) (Option.none : Option Jvm.ClassFile.FieldType)) ∈ b_Ws := bw_5 (List.mem_of_getElem? (i := 49) rfl) rfl
set_option maxRecDepth 20000 in
theorem w_5_50 : (Jvm.Cond.methodLink "AssembleLines$Program" (90 : Nat) ({ cls := "AssembleLines$Program", name := "sizeOf", desc := "(LAssembleLines$Statement;I)I" } : Jvm.MethodName)) ∈ b_Ws := bw_5 (List.mem_of_getElem? (i := 50) rfl) rfl
set_option maxRecDepth 20000 in
theorem w_5_51 : (Jvm.Cond.static ({ cls := "AssembleLines$Program", name := "sizeOf", desc := "(LAssembleLines$Statement;I)I" } : Jvm.MethodName)) ∈ b_Ws := bw_5 (List.mem_of_getElem? (i := 51) rfl) rfl
set_option maxRecDepth 20000 in
theorem w_5_52 : (Jvm.Cond.code ({ cls := "AssembleLines$Program", name := "sizeOf", desc := "(LAssembleLines$Statement;I)I" } : Jvm.MethodName) prog_10_method_8_code (2 : Nat) (Option.some Jvm.ClassFile.FieldType.int)) ∈ b_Ws := bw_5 (List.mem_of_getElem? (i := 52) rfl) rfl
set_option maxRecDepth 20000 in
theorem w_5_53 : (Jvm.Cond.fieldLink "AssembleLines$Program" (114 : Nat) "AssembleLines$1" "$SwitchMap$AssembleLines$Operation" "[I") ∈ b_Ws := bw_5 (List.mem_of_getElem? (i := 53) rfl) rfl
set_option maxRecDepth 20000 in
theorem w_5_54 : (Jvm.Cond.methodLink "AssembleLines$Program" (120 : Nat) ({ cls := "AssembleLines$Operation", name := "ordinal", desc := "()I" } : Jvm.MethodName)) ∈ b_Ws := bw_5 (List.mem_of_getElem? (i := 54) rfl) rfl
set_option maxRecDepth 20000 in
theorem w_5_55 : (Jvm.Cond.methodLink "AssembleLines$Program" (100 : Nat) ({ cls := "AssembleLines$Names", name := "place", desc := "(II)V" } : Jvm.MethodName)) ∈ b_Ws := bw_5 (List.mem_of_getElem? (i := 55) rfl) rfl
set_option maxRecDepth 20000 in
theorem w_5_56 : (Jvm.Cond.instanceMethod ({ cls := "AssembleLines$Names", name := "place", desc := "(II)V" } : Jvm.MethodName)) ∈ b_Ws := bw_5 (List.mem_of_getElem? (i := 56) rfl) rfl
set_option maxRecDepth 20000 in
theorem w_5_57 : (Jvm.Cond.selects "AssembleLines$Names" ({ cls := "AssembleLines$Names", name := "place", desc := "(II)V" } : Jvm.MethodName) ({ cls := "AssembleLines$Names", name := "place", desc := "(II)V" } : Jvm.MethodName)) ∈ b_Ws := bw_5 (List.mem_of_getElem? (i := 57) rfl) rfl
set_option maxRecDepth 20000 in
theorem w_5_58 : (Jvm.Cond.code ({ cls := "AssembleLines$Names", name := "place", desc := "(II)V" } : Jvm.MethodName) prog_8_method_8_code (3 : Nat) (Option.none : Option Jvm.ClassFile.FieldType)) ∈ b_Ws := bw_5 (List.mem_of_getElem? (i := 58) rfl) rfl
set_option maxRecDepth 20000 in
theorem w_5_59 : (Jvm.Cond.fieldLink "AssembleLines$Program" (106 : Nat) "AssembleLines$Operation" "LW" "LAssembleLines$Operation;") ∈ b_Ws := bw_5 (List.mem_of_getElem? (i := 59) rfl) rfl
set_option maxRecDepth 20000 in
theorem w_5_61 : (Jvm.Cond.fieldLink "AssembleLines$Program" (111 : Nat) "AssembleLines$Operation" "POOL" "LAssembleLines$Operation;") ∈ b_Ws := bw_5 (List.mem_of_getElem? (i := 61) rfl) rfl
set_option maxRecDepth 20000 in
theorem w_5_63 : (Jvm.Cond.methodLink "AssembleLines$Program" (71 : Nat) ({ cls := "AssembleLines$Program", name := "grow", desc := "()Z" } : Jvm.MethodName)) ∈ b_Ws := bw_5 (List.mem_of_getElem? (i := 63) rfl) rfl
set_option maxRecDepth 20000 in
theorem w_5_65 : (Jvm.Cond.instanceMethod ({ cls := "AssembleLines$Program", name := "grow", desc := "()Z" } : Jvm.MethodName)) ∈ b_Ws := bw_5 (List.mem_of_getElem? (i := 65) rfl) rfl
set_option maxRecDepth 20000 in
theorem w_5_66 : (Jvm.Cond.code ({ cls := "AssembleLines$Program", name := "grow", desc := "()Z" } : Jvm.MethodName) prog_10_method_9_code (4 : Nat) (Option.some Jvm.ClassFile.FieldType.boolean)) ∈ b_Ws := bw_5 (List.mem_of_getElem? (i := 66) rfl) rfl
set_option maxRecDepth 20000 in
theorem w_5_67 : (Jvm.Cond.methodLink "AssembleLines$Program" (134 : Nat) ({ cls := "AssembleLines$Program", name := "fitsShort", desc := "(LAssembleLines$Statement;)Z" } : Jvm.MethodName)) ∈ b_Ws := bw_5 (List.mem_of_getElem? (i := 67) rfl) rfl
set_option maxRecDepth 20000 in
theorem w_5_69 : (Jvm.Cond.instanceMethod ({ cls := "AssembleLines$Program", name := "fitsShort", desc := "(LAssembleLines$Statement;)Z" } : Jvm.MethodName)) ∈ b_Ws := bw_5 (List.mem_of_getElem? (i := 69) rfl) rfl
set_option maxRecDepth 20000 in
theorem w_5_70 : (Jvm.Cond.code ({ cls := "AssembleLines$Program", name := "fitsShort", desc := "(LAssembleLines$Statement;)Z" } : Jvm.MethodName) prog_10_method_10_code (4 : Nat) (Option.some Jvm.ClassFile.FieldType.boolean)) ∈ b_Ws := bw_5 (List.mem_of_getElem? (i := 70) rfl) rfl
set_option maxRecDepth 20000 in
theorem w_5_71 : (Jvm.Cond.methodLink "AssembleLines$Program" (138 : Nat) ({ cls := "AssembleLines$Program", name := "shortValue", desc := "(LAssembleLines$Statement;)I" } : Jvm.MethodName)) ∈ b_Ws := bw_5 (List.mem_of_getElem? (i := 71) rfl) rfl
set_option maxRecDepth 20000 in
theorem w_5_73 : (Jvm.Cond.instanceMethod ({ cls := "AssembleLines$Program", name := "shortValue", desc := "(LAssembleLines$Statement;)I" } : Jvm.MethodName)) ∈ b_Ws := bw_5 (List.mem_of_getElem? (i := 73) rfl) rfl
set_option maxRecDepth 20000 in
theorem w_5_74 : (Jvm.Cond.code ({ cls := "AssembleLines$Program", name := "shortValue", desc := "(LAssembleLines$Statement;)I" } : Jvm.MethodName) prog_10_method_11_code (3 : Nat) (Option.some Jvm.ClassFile.FieldType.int)) ∈ b_Ws := bw_5 (List.mem_of_getElem? (i := 74) rfl) rfl
set_option maxRecDepth 20000 in
theorem w_5_75 : (Jvm.Cond.methodLink "AssembleLines$Program" (145 : Nat) ({ cls := "AssembleLines$Expressions", name := "value", desc := "(II)I" } : Jvm.MethodName)) ∈ b_Ws := bw_5 (List.mem_of_getElem? (i := 75) rfl) rfl
set_option maxRecDepth 20000 in
theorem w_5_76 : (Jvm.Cond.instanceMethod ({ cls := "AssembleLines$Expressions", name := "value", desc := "(II)I" } : Jvm.MethodName)) ∈ b_Ws := bw_5 (List.mem_of_getElem? (i := 76) rfl) rfl
set_option maxRecDepth 20000 in
theorem w_5_77 : (Jvm.Cond.selects "AssembleLines$Expressions" ({ cls := "AssembleLines$Expressions", name := "value", desc := "(II)I" } : Jvm.MethodName) ({ cls := "AssembleLines$Expressions", name := "value", desc := "(II)I" } : Jvm.MethodName)) ∈ b_Ws := bw_5 (List.mem_of_getElem? (i := 77) rfl) rfl
set_option maxRecDepth 20000 in
theorem w_5_78 : (Jvm.Cond.code ({ cls := "AssembleLines$Expressions", name := "value", desc := "(II)I" } : Jvm.MethodName) prog_5_method_9_code (6 : Nat) (Option.some Jvm.ClassFile.FieldType.int)) ∈ b_Ws := bw_5 (List.mem_of_getElem? (i := 78) rfl) rfl
set_option maxRecDepth 20000 in
theorem w_5_87 : (Jvm.Cond.fieldLink "AssembleLines$Program" (148 : Nat) "AssembleLines$Operation" "LI" "LAssembleLines$Operation;") ∈ b_Ws := bw_5 (List.mem_of_getElem? (i := 87) rfl) rfl
set_option maxRecDepth 20000 in
theorem w_5_89 : (Jvm.Cond.constant "AssembleLines$Program" (74 : Nat) (65535 : Int32)) ∈ b_Ws := bw_5 (List.mem_of_getElem? (i := 89) rfl) rfl
set_option maxRecDepth 20000 in
theorem w_5_90 : (Jvm.Cond.methodLink "AssembleLines$Program" (75 : Nat) ({ cls := "AssembleLines$Errors", name := "tell", desc := "(II)V" } : Jvm.MethodName)) ∈ b_Ws := bw_5 (List.mem_of_getElem? (i := 90) rfl) rfl
set_option maxRecDepth 20000 in
theorem w_5_91 : (Jvm.Cond.methodLink "AssembleLines$Program" (81 : Nat) ({ cls := "AssembleLines$Program", name := "placeLiterals", desc := "()V" } : Jvm.MethodName)) ∈ b_Ws := bw_5 (List.mem_of_getElem? (i := 91) rfl) rfl
set_option maxRecDepth 20000 in
theorem w_5_93 : (Jvm.Cond.instanceMethod ({ cls := "AssembleLines$Program", name := "placeLiterals", desc := "()V" } : Jvm.MethodName)) ∈ b_Ws := bw_5 (List.mem_of_getElem? (i := 93) rfl) rfl
set_option maxRecDepth 20000 in
theorem w_5_94 : (Jvm.Cond.code ({ cls := "AssembleLines$Program", name := "placeLiterals", desc := "()V" } : Jvm.MethodName) prog_10_method_12_code (4 : Nat) (Option.none : Option Jvm.ClassFile.FieldType)) ∈ b_Ws := bw_5 (List.mem_of_getElem? (i := 94) rfl) rfl
set_option maxRecDepth 20000 in
theorem w_5_95 : (Jvm.Cond.methodLink "AssembleLines$Program" (84 : Nat) ({ cls := "AssembleLines$Program", name := "check", desc := "()V" } : Jvm.MethodName)) ∈ b_Ws := bw_5 (List.mem_of_getElem? (i := 95) rfl) rfl
set_option maxRecDepth 20000 in
theorem w_5_97 : (Jvm.Cond.instanceMethod ({ cls := "AssembleLines$Program", name := "check", desc := "()V" } : Jvm.MethodName)) ∈ b_Ws := bw_5 (List.mem_of_getElem? (i := 97) rfl) rfl
set_option maxRecDepth 20000 in
theorem w_5_98 : (Jvm.Cond.code ({ cls := "AssembleLines$Program", name := "check", desc := "()V" } : Jvm.MethodName) prog_10_method_13_code (4 : Nat) (Option.none : Option Jvm.ClassFile.FieldType)) ∈ b_Ws := bw_5 (List.mem_of_getElem? (i := 98) rfl) rfl
set_option maxRecDepth 20000 in
theorem w_5_99 : (Jvm.Cond.methodLink "AssembleLines$Program" (154 : Nat) ({ cls := "AssembleLines$Expressions", name := "isKnown", desc := "(I)Z" } : Jvm.MethodName)) ∈ b_Ws := bw_5 (List.mem_of_getElem? (i := 99) rfl) rfl
set_option maxRecDepth 20000 in
theorem w_5_100 : (Jvm.Cond.instanceMethod ({ cls := "AssembleLines$Expressions", name := "isKnown", desc := "(I)Z" } : Jvm.MethodName)) ∈ b_Ws := bw_5 (List.mem_of_getElem? (i := 100) rfl) rfl
set_option maxRecDepth 20000 in
theorem w_5_101 : (Jvm.Cond.selects "AssembleLines$Expressions" ({ cls := "AssembleLines$Expressions", name := "isKnown", desc := "(I)Z" } : Jvm.MethodName) ({ cls := "AssembleLines$Expressions", name := "isKnown", desc := "(I)Z" } : Jvm.MethodName)) ∈ b_Ws := bw_5 (List.mem_of_getElem? (i := 101) rfl) rfl
set_option maxRecDepth 20000 in
theorem w_5_102 : (Jvm.Cond.code ({ cls := "AssembleLines$Expressions", name := "isKnown", desc := "(I)Z" } : Jvm.MethodName) prog_5_method_8_code (3 : Nat) (Option.some Jvm.ClassFile.FieldType.boolean)) ∈ b_Ws := bw_5 (List.mem_of_getElem? (i := 102) rfl) rfl
set_option maxRecDepth 20000 in
theorem w_5_103 : (Jvm.Cond.methodLink "AssembleLines$Program" (161 : Nat) ({ cls := "AssembleLines$Program", name := "fits", desc := "(LAssembleLines$Statement;I)Z" } : Jvm.MethodName)) ∈ b_Ws := bw_5 (List.mem_of_getElem? (i := 103) rfl) rfl
set_option maxRecDepth 20000 in
theorem w_5_104 : (Jvm.Cond.static ({ cls := "AssembleLines$Program", name := "fits", desc := "(LAssembleLines$Statement;I)Z" } : Jvm.MethodName)) ∈ b_Ws := bw_5 (List.mem_of_getElem? (i := 104) rfl) rfl
set_option maxRecDepth 20000 in
theorem w_5_105 : (Jvm.Cond.code ({ cls := "AssembleLines$Program", name := "fits", desc := "(LAssembleLines$Statement;I)Z" } : Jvm.MethodName) prog_10_method_14_code (3 : Nat) (Option.some Jvm.ClassFile.FieldType.boolean)) ∈ b_Ws := bw_5 (List.mem_of_getElem? (i := 105) rfl) rfl
set_option maxRecDepth 20000 in
theorem w_5_106 : (Jvm.Cond.methodLink "AssembleLines$Program" (165 : Nat) ({ cls := "AssembleLines$Program", name := "distance", desc := "(LAssembleLines$Statement;)I" } : Jvm.MethodName)) ∈ b_Ws := bw_5 (List.mem_of_getElem? (i := 106) rfl) rfl
set_option maxRecDepth 20000 in
theorem w_5_107 : (Jvm.Cond.static ({ cls := "AssembleLines$Program", name := "distance", desc := "(LAssembleLines$Statement;)I" } : Jvm.MethodName)) ∈ b_Ws := bw_5 (List.mem_of_getElem? (i := 107) rfl) rfl
set_option maxRecDepth 20000 in
theorem w_5_108 : (Jvm.Cond.code ({ cls := "AssembleLines$Program", name := "distance", desc := "(LAssembleLines$Statement;)I" } : Jvm.MethodName) prog_10_method_15_code (1 : Nat) (Option.some Jvm.ClassFile.FieldType.int)) ∈ b_Ws := bw_5 (List.mem_of_getElem? (i := 108) rfl) rfl
set_option maxRecDepth 20000 in
theorem w_5_146 : (Jvm.Cond.methodLink "AssembleLines$Program" (168 : Nat) ({ cls := "AssembleLines$Program", name := "valueWord", desc := "(LAssembleLines$Statement;I)I" } : Jvm.MethodName)) ∈ b_Ws := bw_5 (List.mem_of_getElem? (i := 146) rfl) rfl
set_option maxRecDepth 20000 in
theorem w_5_148 : (Jvm.Cond.instanceMethod ({ cls := "AssembleLines$Program", name := "valueWord", desc := "(LAssembleLines$Statement;I)I" } : Jvm.MethodName)) ∈ b_Ws := bw_5 (List.mem_of_getElem? (i := 148) rfl) rfl
set_option maxRecDepth 20000 in
theorem w_5_149 : (Jvm.Cond.code ({ cls := "AssembleLines$Program", name := "valueWord", desc := "(LAssembleLines$Statement;I)I" } : Jvm.MethodName) prog_10_method_19_code (3 : Nat) (Option.some Jvm.ClassFile.FieldType.int)) ∈ b_Ws := bw_5 (List.mem_of_getElem? (i := 149) rfl) rfl
set_option maxRecDepth 20000 in
theorem w_5_150 : (Jvm.Cond.methodLink "AssembleLines$Program" (171 : Nat) ({ cls := "AssembleLines$Statement", name := "holds", desc := "(I)Z" } : Jvm.MethodName)) ∈ b_Ws := bw_5 (List.mem_of_getElem? (i := 150) rfl) rfl
set_option maxRecDepth 20000 in
theorem w_5_151 : (Jvm.Cond.instanceMethod ({ cls := "AssembleLines$Statement", name := "holds", desc := "(I)Z" } : Jvm.MethodName)) ∈ b_Ws := bw_5 (List.mem_of_getElem? (i := 151) rfl) rfl
set_option maxRecDepth 20000 in
theorem w_5_152 : (Jvm.Cond.selects "AssembleLines$Statement" ({ cls := "AssembleLines$Statement", name := "holds", desc := "(I)Z" } : Jvm.MethodName) ({ cls := "AssembleLines$Statement", name := "holds", desc := "(I)Z" } : Jvm.MethodName)) ∈ b_Ws := bw_5 (List.mem_of_getElem? (i := 152) rfl) rfl
set_option maxRecDepth 20000 in
theorem w_5_153 : (Jvm.Cond.code ({ cls := "AssembleLines$Statement", name := "holds", desc := "(I)Z" } : Jvm.MethodName) prog_12_method_3_code (2 : Nat) (Option.some Jvm.ClassFile.FieldType.boolean)) ∈ b_Ws := bw_5 (List.mem_of_getElem? (i := 153) rfl) rfl
set_option maxRecDepth 20000 in
theorem w_5_155 : (Jvm.Cond.methodLink "AssembleLines$Program" (174 : Nat) ({ cls := "AssembleLines$Program", name := "encode", desc := "(LAssembleLines$Statement;I)I" } : Jvm.MethodName)) ∈ b_Ws := bw_5 (List.mem_of_getElem? (i := 155) rfl) rfl
set_option maxRecDepth 20000 in
theorem w_5_157 : (Jvm.Cond.instanceMethod ({ cls := "AssembleLines$Program", name := "encode", desc := "(LAssembleLines$Statement;I)I" } : Jvm.MethodName)) ∈ b_Ws := bw_5 (List.mem_of_getElem? (i := 157) rfl) rfl
set_option maxRecDepth 20000 in
theorem w_5_158 : (Jvm.Cond.code ({ cls := "AssembleLines$Program", name := "encode", desc := "(LAssembleLines$Statement;I)I" } : Jvm.MethodName) prog_10_method_18_code (4 : Nat) (Option.some Jvm.ClassFile.FieldType.int)) ∈ b_Ws := bw_5 (List.mem_of_getElem? (i := 158) rfl) rfl
set_option maxRecDepth 20000 in
theorem w_5_159 : (Jvm.Cond.fieldLink "AssembleLines$Program" (177 : Nat) "AssembleLines$Operation" "SPACE" "LAssembleLines$Operation;") ∈ b_Ws := bw_5 (List.mem_of_getElem? (i := 159) rfl) rfl
set_option maxRecDepth 20000 in
theorem w_5_160 : (Jvm.Cond.fieldLink "AssembleLines$Program" (180 : Nat) "AssembleLines$Operation" "WORD" "LAssembleLines$Operation;") ∈ b_Ws := bw_5 (List.mem_of_getElem? (i := 160) rfl) rfl
set_option maxRecDepth 20000 in
theorem w_5_162 : (Jvm.Cond.methodLink "AssembleLines$Program" (192 : Nat) ({ cls := "AssembleLines$Program", name := "lowBits", desc := "(LAssembleLines$Statement;)I" } : Jvm.MethodName)) ∈ b_Ws := bw_5 (List.mem_of_getElem? (i := 162) rfl) rfl
set_option maxRecDepth 20000 in
theorem w_5_164 : (Jvm.Cond.instanceMethod ({ cls := "AssembleLines$Program", name := "lowBits", desc := "(LAssembleLines$Statement;)I" } : Jvm.MethodName)) ∈ b_Ws := bw_5 (List.mem_of_getElem? (i := 164) rfl) rfl
set_option maxRecDepth 20000 in
theorem w_5_165 : (Jvm.Cond.code ({ cls := "AssembleLines$Program", name := "lowBits", desc := "(LAssembleLines$Statement;)I" } : Jvm.MethodName) prog_10_method_20_code (2 : Nat) (Option.some Jvm.ClassFile.FieldType.int)) ∈ b_Ws := bw_5 (List.mem_of_getElem? (i := 165) rfl) rfl
set_option maxRecDepth 20000 in
theorem w_8_3 : (Jvm.Cond.fieldLink "AssembleLines$Program" (131 : Nat) "AssembleLines$Operation" "bits" "I") ∈ b_Ws := bw_8 (List.mem_of_getElem? (i := 3) rfl) rfl
set_option maxRecDepth 20000 in
theorem w_8_4 : (Jvm.Cond.fieldLink "AssembleLines$Program" (183 : Nat) "AssembleLines$Operation" "code" "I") ∈ b_Ws := bw_8 (List.mem_of_getElem? (i := 4) rfl) rfl
theorem dX8_sizeOf_0 : decode cX8_sizeOf 0 = .ok (.getstatic 114, 3) := by decide +kernel
theorem dX8_sizeOf_3 : decode cX8_sizeOf 3 = .ok (.aload_n 0, 1) := by decide +kernel
theorem dX8_sizeOf_4 : decode cX8_sizeOf 4 = .ok (.getfield 102, 3) := by decide +kernel
theorem dX8_sizeOf_7 : decode cX8_sizeOf 7 = .ok (.invokevirtual 120, 3) := by decide +kernel
theorem dX8_sizeOf_10 : decode cX8_sizeOf 10 = .ok (.iaload, 1) := by decide +kernel
theorem dX8_sizeOf_11 : decode cX8_sizeOf 11 = .ok (.tableswitch 43 10 13 #[29, 31, 36, 41], 29) := by decide +kernel
theorem dX8_sizeOf_40 : decode cX8_sizeOf 40 = .ok (.iconst 0, 1) := by decide +kernel
theorem dX8_sizeOf_41 : decode cX8_sizeOf 41 = .ok (.ireturn, 1) := by decide +kernel
theorem dX8_sizeOf_42 : decode cX8_sizeOf 42 = .ok (.aload_n 0, 1) := by decide +kernel
theorem dX8_sizeOf_43 : decode cX8_sizeOf 43 = .ok (.getfield 124, 3) := by decide +kernel
theorem dX8_sizeOf_46 : decode cX8_sizeOf 46 = .ok (.ireturn, 1) := by decide +kernel
theorem dX8_sizeOf_47 : decode cX8_sizeOf 47 = .ok (.aload_n 0, 1) := by decide +kernel
theorem dX8_sizeOf_48 : decode cX8_sizeOf 48 = .ok (.getfield 94, 3) := by decide +kernel
theorem dX8_sizeOf_51 : decode cX8_sizeOf 51 = .ok (.ireturn, 1) := by decide +kernel
theorem dX8_sizeOf_52 : decode cX8_sizeOf 52 = .ok (.iload_n 1, 1) := by decide +kernel
theorem dX8_sizeOf_53 : decode cX8_sizeOf 53 = .ok (.ireturn, 1) := by decide +kernel
theorem dX8_sizeOf_54 : decode cX8_sizeOf 54 = .ok (.aload_n 0, 1) := by decide +kernel
theorem dX8_sizeOf_55 : decode cX8_sizeOf 55 = .ok (.getfield 127, 3) := by decide +kernel
theorem dX8_sizeOf_58 : decode cX8_sizeOf 58 = .ok (.ifCond .eq 7, 3) := by decide +kernel
theorem dX8_sizeOf_61 : decode cX8_sizeOf 61 = .ok (.iconst 2, 1) := by decide +kernel
theorem dX8_sizeOf_62 : decode cX8_sizeOf 62 = .ok (.goto 4, 3) := by decide +kernel
theorem dX8_sizeOf_65 : decode cX8_sizeOf 65 = .ok (.iconst 1, 1) := by decide +kernel
theorem dX8_sizeOf_66 : decode cX8_sizeOf 66 = .ok (.ireturn, 1) := by decide +kernel
theorem dX8_shortValue_0 : decode cX8_shortValue 0 = .ok (.aload_n 0, 1) := by decide +kernel
theorem dX8_shortValue_1 : decode cX8_shortValue 1 = .ok (.getfield 23, 3) := by decide +kernel
theorem dX8_shortValue_4 : decode cX8_shortValue 4 = .ok (.aload_n 1, 1) := by decide +kernel
theorem dX8_shortValue_5 : decode cX8_shortValue 5 = .ok (.getfield 142, 3) := by decide +kernel
theorem dX8_shortValue_8 : decode cX8_shortValue 8 = .ok (.aload_n 1, 1) := by decide +kernel
theorem dX8_shortValue_9 : decode cX8_shortValue 9 = .ok (.getfield 87, 3) := by decide +kernel
theorem dX8_shortValue_12 : decode cX8_shortValue 12 = .ok (.invokevirtual 145, 3) := by decide +kernel
theorem dX8_shortValue_15 : decode cX8_shortValue 15 = .ok (.istore_n 2, 1) := by decide +kernel
theorem dX8_shortValue_16 : decode cX8_shortValue 16 = .ok (.aload_n 1, 1) := by decide +kernel
theorem dX8_shortValue_17 : decode cX8_shortValue 17 = .ok (.getfield 102, 3) := by decide +kernel
theorem dX8_shortValue_20 : decode cX8_shortValue 20 = .ok (.getstatic 148, 3) := by decide +kernel
theorem dX8_shortValue_23 : decode cX8_shortValue 23 = .ok (.if_acmp .ne 7, 3) := by decide +kernel
theorem dX8_shortValue_26 : decode cX8_shortValue 26 = .ok (.iload_n 2, 1) := by decide +kernel
theorem dX8_shortValue_27 : decode cX8_shortValue 27 = .ok (.goto 11, 3) := by decide +kernel
theorem dX8_shortValue_30 : decode cX8_shortValue 30 = .ok (.iload_n 2, 1) := by decide +kernel
theorem dX8_shortValue_31 : decode cX8_shortValue 31 = .ok (.aload_n 1, 1) := by decide +kernel
theorem dX8_shortValue_32 : decode cX8_shortValue 32 = .ok (.getfield 87, 3) := by decide +kernel
theorem dX8_shortValue_35 : decode cX8_shortValue 35 = .ok (.iconst 1, 1) := by decide +kernel
theorem dX8_shortValue_36 : decode cX8_shortValue 36 = .ok (.iadd, 1) := by decide +kernel
theorem dX8_shortValue_37 : decode cX8_shortValue 37 = .ok (.isub, 1) := by decide +kernel
theorem dX8_shortValue_38 : decode cX8_shortValue 38 = .ok (.ireturn, 1) := by decide +kernel
theorem dX8_fitsShort_0 : decode cX8_fitsShort 0 = .ok (.iconst 1, 1) := by decide +kernel
theorem dX8_fitsShort_1 : decode cX8_fitsShort 1 = .ok (.aload_n 1, 1) := by decide +kernel
theorem dX8_fitsShort_2 : decode cX8_fitsShort 2 = .ok (.getfield 102, 3) := by decide +kernel
theorem dX8_fitsShort_5 : decode cX8_fitsShort 5 = .ok (.getfield 131, 3) := by decide +kernel
theorem dX8_fitsShort_8 : decode cX8_fitsShort 8 = .ok (.iconst 1, 1) := by decide +kernel
theorem dX8_fitsShort_9 : decode cX8_fitsShort 9 = .ok (.isub, 1) := by decide +kernel
theorem dX8_fitsShort_10 : decode cX8_fitsShort 10 = .ok (.ishl, 1) := by decide +kernel
theorem dX8_fitsShort_11 : decode cX8_fitsShort 11 = .ok (.istore_n 2, 1) := by decide +kernel
theorem dX8_fitsShort_12 : decode cX8_fitsShort 12 = .ok (.aload_n 0, 1) := by decide +kernel
theorem dX8_fitsShort_13 : decode cX8_fitsShort 13 = .ok (.aload_n 1, 1) := by decide +kernel
theorem dX8_fitsShort_14 : decode cX8_fitsShort 14 = .ok (.invokevirtual 138, 3) := by decide +kernel
theorem dX8_fitsShort_17 : decode cX8_fitsShort 17 = .ok (.istore_n 3, 1) := by decide +kernel
theorem dX8_fitsShort_18 : decode cX8_fitsShort 18 = .ok (.iload_n 3, 1) := by decide +kernel
theorem dX8_fitsShort_19 : decode cX8_fitsShort 19 = .ok (.iload_n 2, 1) := by decide +kernel
theorem dX8_fitsShort_20 : decode cX8_fitsShort 20 = .ok (.ineg, 1) := by decide +kernel
theorem dX8_fitsShort_21 : decode cX8_fitsShort 21 = .ok (.if_icmp .lt 12, 3) := by decide +kernel
theorem dX8_fitsShort_24 : decode cX8_fitsShort 24 = .ok (.iload_n 3, 1) := by decide +kernel
theorem dX8_fitsShort_25 : decode cX8_fitsShort 25 = .ok (.iload_n 2, 1) := by decide +kernel
theorem dX8_fitsShort_26 : decode cX8_fitsShort 26 = .ok (.if_icmp .ge 7, 3) := by decide +kernel
theorem dX8_fitsShort_29 : decode cX8_fitsShort 29 = .ok (.iconst 1, 1) := by decide +kernel
theorem dX8_fitsShort_30 : decode cX8_fitsShort 30 = .ok (.goto 4, 3) := by decide +kernel
theorem dX8_fitsShort_33 : decode cX8_fitsShort 33 = .ok (.iconst 0, 1) := by decide +kernel
theorem dX8_fitsShort_34 : decode cX8_fitsShort 34 = .ok (.ireturn, 1) := by decide +kernel
theorem dX8_distance_0 : decode cX8_distance 0 = .ok (.aload_n 0, 1) := by decide +kernel
theorem dX8_distance_1 : decode cX8_distance 1 = .ok (.getfield 151, 3) := by decide +kernel
theorem dX8_distance_4 : decode cX8_distance 4 = .ok (.aload_n 0, 1) := by decide +kernel
theorem dX8_distance_5 : decode cX8_distance 5 = .ok (.getfield 87, 3) := by decide +kernel
theorem dX8_distance_8 : decode cX8_distance 8 = .ok (.iconst 1, 1) := by decide +kernel
theorem dX8_distance_9 : decode cX8_distance 9 = .ok (.iadd, 1) := by decide +kernel
theorem dX8_distance_10 : decode cX8_distance 10 = .ok (.isub, 1) := by decide +kernel
theorem dX8_distance_11 : decode cX8_distance 11 = .ok (.ireturn, 1) := by decide +kernel
theorem dX8_fits_0 : decode cX8_fits 0 = .ok (.iload_n 1, 1) := by decide +kernel
theorem dX8_fits_1 : decode cX8_fits 1 = .ok (.sipush (-32768), 3) := by decide +kernel
theorem dX8_fits_4 : decode cX8_fits 4 = .ok (.if_icmp .lt 13, 3) := by decide +kernel
theorem dX8_fits_7 : decode cX8_fits 7 = .ok (.iload_n 1, 1) := by decide +kernel
theorem dX8_fits_8 : decode cX8_fits 8 = .ok (.ldc 74, 2) := by decide +kernel
theorem dX8_fits_10 : decode cX8_fits 10 = .ok (.if_icmp .gt 7, 3) := by decide +kernel
theorem dX8_fits_13 : decode cX8_fits 13 = .ok (.iconst 1, 1) := by decide +kernel
theorem dX8_fits_14 : decode cX8_fits 14 = .ok (.goto 4, 3) := by decide +kernel
theorem dX8_fits_17 : decode cX8_fits 17 = .ok (.iconst 0, 1) := by decide +kernel
theorem dX8_fits_18 : decode cX8_fits 18 = .ok (.istore_n 2, 1) := by decide +kernel
theorem dX8_fits_19 : decode cX8_fits 19 = .ok (.getstatic 114, 3) := by decide +kernel
theorem dX8_fits_22 : decode cX8_fits 22 = .ok (.aload_n 0, 1) := by decide +kernel
theorem dX8_fits_23 : decode cX8_fits 23 = .ok (.getfield 102, 3) := by decide +kernel
theorem dX8_fits_26 : decode cX8_fits 26 = .ok (.invokevirtual 120, 3) := by decide +kernel
theorem dX8_fits_29 : decode cX8_fits 29 = .ok (.iaload, 1) := by decide +kernel
theorem dX8_fits_30 : decode cX8_fits 30 = .ok (.lookupswitch 99 #[(1, 42), (2, 59), (3, 80), (14, 59)], 42) := by decide +kernel
theorem dX8_fits_72 : decode cX8_fits 72 = .ok (.aload_n 0, 1) := by decide +kernel
theorem dX8_fits_73 : decode cX8_fits 73 = .ok (.getfield 127, 3) := by decide +kernel
theorem dX8_fits_76 : decode cX8_fits 76 = .ok (.ifCond .eq 7, 3) := by decide +kernel
theorem dX8_fits_79 : decode cX8_fits 79 = .ok (.iload_n 2, 1) := by decide +kernel
theorem dX8_fits_80 : decode cX8_fits 80 = .ok (.ifCond .eq 7, 3) := by decide +kernel
theorem dX8_fits_83 : decode cX8_fits 83 = .ok (.iconst 1, 1) := by decide +kernel
theorem dX8_fits_84 : decode cX8_fits 84 = .ok (.goto 4, 3) := by decide +kernel
theorem dX8_fits_87 : decode cX8_fits 87 = .ok (.iconst 0, 1) := by decide +kernel
theorem dX8_fits_88 : decode cX8_fits 88 = .ok (.ireturn, 1) := by decide +kernel
theorem dX8_fits_89 : decode cX8_fits 89 = .ok (.aload_n 0, 1) := by decide +kernel
theorem dX8_fits_90 : decode cX8_fits 90 = .ok (.getfield 127, 3) := by decide +kernel
theorem dX8_fits_93 : decode cX8_fits 93 = .ok (.ifCond .eq 11, 3) := by decide +kernel
theorem dX8_fits_96 : decode cX8_fits 96 = .ok (.iload_n 2, 1) := by decide +kernel
theorem dX8_fits_97 : decode cX8_fits 97 = .ok (.ifCond .eq 11, 3) := by decide +kernel
theorem dX8_fits_100 : decode cX8_fits 100 = .ok (.iload_n 1, 1) := by decide +kernel
theorem dX8_fits_101 : decode cX8_fits 101 = .ok (.ifCond .lt 7, 3) := by decide +kernel
theorem dX8_fits_104 : decode cX8_fits 104 = .ok (.iconst 1, 1) := by decide +kernel
theorem dX8_fits_105 : decode cX8_fits 105 = .ok (.goto 4, 3) := by decide +kernel
theorem dX8_fits_108 : decode cX8_fits 108 = .ok (.iconst 0, 1) := by decide +kernel
theorem dX8_fits_109 : decode cX8_fits 109 = .ok (.ireturn, 1) := by decide +kernel
theorem dX8_fits_110 : decode cX8_fits 110 = .ok (.iload_n 2, 1) := by decide +kernel
theorem dX8_fits_111 : decode cX8_fits 111 = .ok (.ifCond .eq 16, 3) := by decide +kernel
theorem dX8_fits_114 : decode cX8_fits 114 = .ok (.aload_n 0, 1) := by decide +kernel
theorem dX8_fits_115 : decode cX8_fits 115 = .ok (.invokestatic 165, 3) := by decide +kernel
theorem dX8_fits_118 : decode cX8_fits 118 = .ok (.bipush 63, 2) := by decide +kernel
theorem dX8_fits_120 : decode cX8_fits 120 = .ok (.if_icmp .gt 7, 3) := by decide +kernel
theorem dX8_fits_123 : decode cX8_fits 123 = .ok (.iconst 1, 1) := by decide +kernel
theorem dX8_fits_124 : decode cX8_fits 124 = .ok (.goto 4, 3) := by decide +kernel
theorem dX8_fits_127 : decode cX8_fits 127 = .ok (.iconst 0, 1) := by decide +kernel
theorem dX8_fits_128 : decode cX8_fits 128 = .ok (.ireturn, 1) := by decide +kernel
theorem dX8_fits_129 : decode cX8_fits 129 = .ok (.iload_n 2, 1) := by decide +kernel
theorem dX8_fits_130 : decode cX8_fits 130 = .ok (.ireturn, 1) := by decide +kernel
theorem dX8_valueWord_0 : decode cX8_valueWord 0 = .ok (.aload_n 0, 1) := by decide +kernel
theorem dX8_valueWord_1 : decode cX8_valueWord 1 = .ok (.getfield 23, 3) := by decide +kernel
theorem dX8_valueWord_4 : decode cX8_valueWord 4 = .ok (.aload_n 1, 1) := by decide +kernel
theorem dX8_valueWord_5 : decode cX8_valueWord 5 = .ok (.getfield 142, 3) := by decide +kernel
theorem dX8_valueWord_8 : decode cX8_valueWord 8 = .ok (.iload_n 2, 1) := by decide +kernel
theorem dX8_valueWord_9 : decode cX8_valueWord 9 = .ok (.iadd, 1) := by decide +kernel
theorem dX8_valueWord_10 : decode cX8_valueWord 10 = .ok (.aload_n 1, 1) := by decide +kernel
theorem dX8_valueWord_11 : decode cX8_valueWord 11 = .ok (.getfield 87, 3) := by decide +kernel
theorem dX8_valueWord_14 : decode cX8_valueWord 14 = .ok (.invokevirtual 145, 3) := by decide +kernel
theorem dX8_valueWord_17 : decode cX8_valueWord 17 = .ok (.ldc 74, 2) := by decide +kernel
theorem dX8_valueWord_19 : decode cX8_valueWord 19 = .ok (.iand, 1) := by decide +kernel
theorem dX8_valueWord_20 : decode cX8_valueWord 20 = .ok (.ireturn, 1) := by decide +kernel
theorem dX8_lowBits_0 : decode cX8_lowBits 0 = .ok (.aload_n 1, 1) := by decide +kernel
theorem dX8_lowBits_1 : decode cX8_lowBits 1 = .ok (.getfield 102, 3) := by decide +kernel
theorem dX8_lowBits_4 : decode cX8_lowBits 4 = .ok (.getstatic 106, 3) := by decide +kernel
theorem dX8_lowBits_7 : decode cX8_lowBits 7 = .ok (.if_acmp .ne 8, 3) := by decide +kernel
theorem dX8_lowBits_10 : decode cX8_lowBits 10 = .ok (.aload_n 1, 1) := by decide +kernel
theorem dX8_lowBits_11 : decode cX8_lowBits 11 = .ok (.invokestatic 165, 3) := by decide +kernel
theorem dX8_lowBits_14 : decode cX8_lowBits 14 = .ok (.ireturn, 1) := by decide +kernel
theorem dX8_lowBits_15 : decode cX8_lowBits 15 = .ok (.aload_n 1, 1) := by decide +kernel
theorem dX8_lowBits_16 : decode cX8_lowBits 16 = .ok (.getfield 127, 3) := by decide +kernel
theorem dX8_lowBits_19 : decode cX8_lowBits 19 = .ok (.ifCond .ne 13, 3) := by decide +kernel
theorem dX8_lowBits_22 : decode cX8_lowBits 22 = .ok (.aload_n 1, 1) := by decide +kernel
theorem dX8_lowBits_23 : decode cX8_lowBits 23 = .ok (.getfield 102, 3) := by decide +kernel
theorem dX8_lowBits_26 : decode cX8_lowBits 26 = .ok (.getfield 131, 3) := by decide +kernel
theorem dX8_lowBits_29 : decode cX8_lowBits 29 = .ok (.ifCond .ne 7, 3) := by decide +kernel
theorem dX8_lowBits_32 : decode cX8_lowBits 32 = .ok (.iconst 0, 1) := by decide +kernel
theorem dX8_lowBits_33 : decode cX8_lowBits 33 = .ok (.goto 20, 3) := by decide +kernel
theorem dX8_lowBits_36 : decode cX8_lowBits 36 = .ok (.aload_n 0, 1) := by decide +kernel
theorem dX8_lowBits_37 : decode cX8_lowBits 37 = .ok (.aload_n 1, 1) := by decide +kernel
theorem dX8_lowBits_38 : decode cX8_lowBits 38 = .ok (.invokevirtual 138, 3) := by decide +kernel
theorem dX8_lowBits_41 : decode cX8_lowBits 41 = .ok (.iconst 1, 1) := by decide +kernel
theorem dX8_lowBits_42 : decode cX8_lowBits 42 = .ok (.aload_n 1, 1) := by decide +kernel
theorem dX8_lowBits_43 : decode cX8_lowBits 43 = .ok (.getfield 102, 3) := by decide +kernel
theorem dX8_lowBits_46 : decode cX8_lowBits 46 = .ok (.getfield 131, 3) := by decide +kernel
theorem dX8_lowBits_49 : decode cX8_lowBits 49 = .ok (.ishl, 1) := by decide +kernel
theorem dX8_lowBits_50 : decode cX8_lowBits 50 = .ok (.iconst 1, 1) := by decide +kernel
theorem dX8_lowBits_51 : decode cX8_lowBits 51 = .ok (.isub, 1) := by decide +kernel
theorem dX8_lowBits_52 : decode cX8_lowBits 52 = .ok (.iand, 1) := by decide +kernel
theorem dX8_lowBits_53 : decode cX8_lowBits 53 = .ok (.ireturn, 1) := by decide +kernel
theorem dX8_encode_0 : decode cX8_encode 0 = .ok (.aload_n 1, 1) := by decide +kernel
theorem dX8_encode_1 : decode cX8_encode 1 = .ok (.getfield 102, 3) := by decide +kernel
theorem dX8_encode_4 : decode cX8_encode 4 = .ok (.getstatic 177, 3) := by decide +kernel
theorem dX8_encode_7 : decode cX8_encode 7 = .ok (.if_acmp .ne 5, 3) := by decide +kernel
theorem dX8_encode_10 : decode cX8_encode 10 = .ok (.iconst 0, 1) := by decide +kernel
theorem dX8_encode_11 : decode cX8_encode 11 = .ok (.ireturn, 1) := by decide +kernel
theorem dX8_encode_12 : decode cX8_encode 12 = .ok (.aload_n 1, 1) := by decide +kernel
theorem dX8_encode_13 : decode cX8_encode 13 = .ok (.getfield 102, 3) := by decide +kernel
theorem dX8_encode_16 : decode cX8_encode 16 = .ok (.getstatic 180, 3) := by decide +kernel
theorem dX8_encode_19 : decode cX8_encode 19 = .ok (.if_acmp .ne 10, 3) := by decide +kernel
theorem dX8_encode_22 : decode cX8_encode 22 = .ok (.aload_n 0, 1) := by decide +kernel
theorem dX8_encode_23 : decode cX8_encode 23 = .ok (.aload_n 1, 1) := by decide +kernel
theorem dX8_encode_24 : decode cX8_encode 24 = .ok (.iload_n 2, 1) := by decide +kernel
theorem dX8_encode_25 : decode cX8_encode 25 = .ok (.invokevirtual 168, 3) := by decide +kernel
theorem dX8_encode_28 : decode cX8_encode 28 = .ok (.ireturn, 1) := by decide +kernel
theorem dX8_encode_29 : decode cX8_encode 29 = .ok (.iload_n 2, 1) := by decide +kernel
theorem dX8_encode_30 : decode cX8_encode 30 = .ok (.ifCond .le 10, 3) := by decide +kernel
theorem dX8_encode_33 : decode cX8_encode 33 = .ok (.aload_n 0, 1) := by decide +kernel
theorem dX8_encode_34 : decode cX8_encode 34 = .ok (.aload_n 1, 1) := by decide +kernel
theorem dX8_encode_35 : decode cX8_encode 35 = .ok (.iconst 0, 1) := by decide +kernel
theorem dX8_encode_36 : decode cX8_encode 36 = .ok (.invokevirtual 168, 3) := by decide +kernel
theorem dX8_encode_39 : decode cX8_encode 39 = .ok (.ireturn, 1) := by decide +kernel
theorem dX8_encode_40 : decode cX8_encode 40 = .ok (.aload_n 1, 1) := by decide +kernel
theorem dX8_encode_41 : decode cX8_encode 41 = .ok (.getfield 127, 3) := by decide +kernel
theorem dX8_encode_44 : decode cX8_encode 44 = .ok (.ifCond .eq 15, 3) := by decide +kernel
theorem dX8_encode_47 : decode cX8_encode 47 = .ok (.aload_n 1, 1) := by decide +kernel
theorem dX8_encode_48 : decode cX8_encode 48 = .ok (.getfield 102, 3) := by decide +kernel
theorem dX8_encode_51 : decode cX8_encode 51 = .ok (.getfield 183, 3) := by decide +kernel
theorem dX8_encode_54 : decode cX8_encode 54 = .ok (.iconst 1, 1) := by decide +kernel
theorem dX8_encode_55 : decode cX8_encode 55 = .ok (.iadd, 1) := by decide +kernel
theorem dX8_encode_56 : decode cX8_encode 56 = .ok (.goto 10, 3) := by decide +kernel
theorem dX8_encode_59 : decode cX8_encode 59 = .ok (.aload_n 1, 1) := by decide +kernel
theorem dX8_encode_60 : decode cX8_encode 60 = .ok (.getfield 102, 3) := by decide +kernel
theorem dX8_encode_63 : decode cX8_encode 63 = .ok (.getfield 183, 3) := by decide +kernel
theorem dX8_encode_66 : decode cX8_encode 66 = .ok (.istore_n 3, 1) := by decide +kernel
theorem dX8_encode_67 : decode cX8_encode 67 = .ok (.iload_n 3, 1) := by decide +kernel
theorem dX8_encode_68 : decode cX8_encode 68 = .ok (.bipush 12, 2) := by decide +kernel
theorem dX8_encode_70 : decode cX8_encode 70 = .ok (.ishl, 1) := by decide +kernel
theorem dX8_encode_71 : decode cX8_encode 71 = .ok (.aload_n 1, 1) := by decide +kernel
theorem dX8_encode_72 : decode cX8_encode 72 = .ok (.getfield 186, 3) := by decide +kernel
theorem dX8_encode_75 : decode cX8_encode 75 = .ok (.bipush 9, 2) := by decide +kernel
theorem dX8_encode_77 : decode cX8_encode 77 = .ok (.ishl, 1) := by decide +kernel
theorem dX8_encode_78 : decode cX8_encode 78 = .ok (.ior, 1) := by decide +kernel
theorem dX8_encode_79 : decode cX8_encode 79 = .ok (.aload_n 1, 1) := by decide +kernel
theorem dX8_encode_80 : decode cX8_encode 80 = .ok (.getfield 189, 3) := by decide +kernel
theorem dX8_encode_83 : decode cX8_encode 83 = .ok (.bipush 6, 2) := by decide +kernel
theorem dX8_encode_85 : decode cX8_encode 85 = .ok (.ishl, 1) := by decide +kernel
theorem dX8_encode_86 : decode cX8_encode 86 = .ok (.ior, 1) := by decide +kernel
theorem dX8_encode_87 : decode cX8_encode 87 = .ok (.aload_n 0, 1) := by decide +kernel
theorem dX8_encode_88 : decode cX8_encode 88 = .ok (.aload_n 1, 1) := by decide +kernel
theorem dX8_encode_89 : decode cX8_encode 89 = .ok (.invokevirtual 192, 3) := by decide +kernel
theorem dX8_encode_92 : decode cX8_encode 92 = .ok (.ior, 1) := by decide +kernel
theorem dX8_encode_93 : decode cX8_encode 93 = .ok (.ireturn, 1) := by decide +kernel
theorem dX8_longOnes_0 : decode cX8_longOnes 0 = .ok (.iconst 0, 1) := by decide +kernel
theorem dX8_longOnes_1 : decode cX8_longOnes 1 = .ok (.istore_n 1, 1) := by decide +kernel
theorem dX8_longOnes_2 : decode cX8_longOnes 2 = .ok (.iconst 0, 1) := by decide +kernel
theorem dX8_longOnes_3 : decode cX8_longOnes 3 = .ok (.istore_n 2, 1) := by decide +kernel
theorem dX8_longOnes_4 : decode cX8_longOnes 4 = .ok (.iload_n 2, 1) := by decide +kernel
theorem dX8_longOnes_5 : decode cX8_longOnes 5 = .ok (.aload_n 0, 1) := by decide +kernel
theorem dX8_longOnes_6 : decode cX8_longOnes 6 = .ok (.getfield 45, 3) := by decide +kernel
theorem dX8_longOnes_9 : decode cX8_longOnes 9 = .ok (.if_icmp .ge 29, 3) := by decide +kernel
theorem dX8_longOnes_12 : decode cX8_longOnes 12 = .ok (.iload_n 1, 1) := by decide +kernel
theorem dX8_longOnes_13 : decode cX8_longOnes 13 = .ok (.aload_n 0, 1) := by decide +kernel
theorem dX8_longOnes_14 : decode cX8_longOnes 14 = .ok (.getfield 29, 3) := by decide +kernel
theorem dX8_longOnes_17 : decode cX8_longOnes 17 = .ok (.iload_n 2, 1) := by decide +kernel
theorem dX8_longOnes_18 : decode cX8_longOnes 18 = .ok (.aaload, 1) := by decide +kernel
theorem dX8_longOnes_19 : decode cX8_longOnes 19 = .ok (.getfield 127, 3) := by decide +kernel
theorem dX8_longOnes_22 : decode cX8_longOnes 22 = .ok (.ifCond .eq 7, 3) := by decide +kernel
theorem dX8_longOnes_25 : decode cX8_longOnes 25 = .ok (.iconst 1, 1) := by decide +kernel
theorem dX8_longOnes_26 : decode cX8_longOnes 26 = .ok (.goto 4, 3) := by decide +kernel
theorem dX8_longOnes_29 : decode cX8_longOnes 29 = .ok (.iconst 0, 1) := by decide +kernel
theorem dX8_longOnes_30 : decode cX8_longOnes 30 = .ok (.iadd, 1) := by decide +kernel
theorem dX8_longOnes_31 : decode cX8_longOnes 31 = .ok (.istore_n 1, 1) := by decide +kernel
theorem dX8_longOnes_32 : decode cX8_longOnes 32 = .ok (.iinc 2 1, 3) := by decide +kernel
theorem dX8_longOnes_35 : decode cX8_longOnes 35 = .ok (.goto (-31), 3) := by decide +kernel
theorem dX8_longOnes_38 : decode cX8_longOnes 38 = .ok (.iload_n 1, 1) := by decide +kernel
theorem dX8_longOnes_39 : decode cX8_longOnes 39 = .ok (.ireturn, 1) := by decide +kernel
theorem dX8_wordAt_0 : decode cX8_wordAt 0 = .ok (.iconst 0, 1) := by decide +kernel
theorem dX8_wordAt_1 : decode cX8_wordAt 1 = .ok (.istore_n 2, 1) := by decide +kernel
theorem dX8_wordAt_2 : decode cX8_wordAt 2 = .ok (.iload_n 2, 1) := by decide +kernel
theorem dX8_wordAt_3 : decode cX8_wordAt 3 = .ok (.aload_n 0, 1) := by decide +kernel
theorem dX8_wordAt_4 : decode cX8_wordAt 4 = .ok (.getfield 45, 3) := by decide +kernel
theorem dX8_wordAt_7 : decode cX8_wordAt 7 = .ok (.if_icmp .ge 51, 3) := by decide +kernel
theorem dX8_wordAt_10 : decode cX8_wordAt 10 = .ok (.aload_n 0, 1) := by decide +kernel
theorem dX8_wordAt_11 : decode cX8_wordAt 11 = .ok (.getfield 29, 3) := by decide +kernel
theorem dX8_wordAt_14 : decode cX8_wordAt 14 = .ok (.iload_n 2, 1) := by decide +kernel
theorem dX8_wordAt_15 : decode cX8_wordAt 15 = .ok (.aaload, 1) := by decide +kernel
theorem dX8_wordAt_16 : decode cX8_wordAt 16 = .ok (.astore_n 3, 1) := by decide +kernel
theorem dX8_wordAt_17 : decode cX8_wordAt 17 = .ok (.aload_n 3, 1) := by decide +kernel
theorem dX8_wordAt_18 : decode cX8_wordAt 18 = .ok (.getfield 151, 3) := by decide +kernel
theorem dX8_wordAt_21 : decode cX8_wordAt 21 = .ok (.iload_n 1, 1) := by decide +kernel
theorem dX8_wordAt_22 : decode cX8_wordAt 22 = .ok (.if_icmp .ne 10, 3) := by decide +kernel
theorem dX8_wordAt_25 : decode cX8_wordAt 25 = .ok (.aload_n 0, 1) := by decide +kernel
theorem dX8_wordAt_26 : decode cX8_wordAt 26 = .ok (.aload_n 3, 1) := by decide +kernel
theorem dX8_wordAt_27 : decode cX8_wordAt 27 = .ok (.iconst 0, 1) := by decide +kernel
theorem dX8_wordAt_28 : decode cX8_wordAt 28 = .ok (.invokevirtual 168, 3) := by decide +kernel
theorem dX8_wordAt_31 : decode cX8_wordAt 31 = .ok (.ireturn, 1) := by decide +kernel
theorem dX8_wordAt_32 : decode cX8_wordAt 32 = .ok (.aload_n 3, 1) := by decide +kernel
theorem dX8_wordAt_33 : decode cX8_wordAt 33 = .ok (.iload_n 1, 1) := by decide +kernel
theorem dX8_wordAt_34 : decode cX8_wordAt 34 = .ok (.invokevirtual 171, 3) := by decide +kernel
theorem dX8_wordAt_37 : decode cX8_wordAt 37 = .ok (.ifCond .eq 15, 3) := by decide +kernel
theorem dX8_wordAt_40 : decode cX8_wordAt 40 = .ok (.aload_n 0, 1) := by decide +kernel
theorem dX8_wordAt_41 : decode cX8_wordAt 41 = .ok (.aload_n 3, 1) := by decide +kernel
theorem dX8_wordAt_42 : decode cX8_wordAt 42 = .ok (.iload_n 1, 1) := by decide +kernel
theorem dX8_wordAt_43 : decode cX8_wordAt 43 = .ok (.aload_n 3, 1) := by decide +kernel
theorem dX8_wordAt_44 : decode cX8_wordAt 44 = .ok (.getfield 87, 3) := by decide +kernel
theorem dX8_wordAt_47 : decode cX8_wordAt 47 = .ok (.isub, 1) := by decide +kernel
theorem dX8_wordAt_48 : decode cX8_wordAt 48 = .ok (.invokevirtual 174, 3) := by decide +kernel
theorem dX8_wordAt_51 : decode cX8_wordAt 51 = .ok (.ireturn, 1) := by decide +kernel
theorem dX8_wordAt_52 : decode cX8_wordAt 52 = .ok (.iinc 2 1, 3) := by decide +kernel
theorem dX8_wordAt_55 : decode cX8_wordAt 55 = .ok (.goto (-53), 3) := by decide +kernel
theorem dX8_wordAt_58 : decode cX8_wordAt 58 = .ok (.iconst 0, 1) := by decide +kernel
theorem dX8_wordAt_59 : decode cX8_wordAt 59 = .ok (.ireturn, 1) := by decide +kernel
theorem dX8_grow_0 : decode cX8_grow 0 = .ok (.iconst 0, 1) := by decide +kernel
theorem dX8_grow_1 : decode cX8_grow 1 = .ok (.istore_n 1, 1) := by decide +kernel
theorem dX8_grow_2 : decode cX8_grow 2 = .ok (.iconst 0, 1) := by decide +kernel
theorem dX8_grow_3 : decode cX8_grow 3 = .ok (.istore_n 2, 1) := by decide +kernel
theorem dX8_grow_4 : decode cX8_grow 4 = .ok (.iload_n 2, 1) := by decide +kernel
theorem dX8_grow_5 : decode cX8_grow 5 = .ok (.aload_n 0, 1) := by decide +kernel
theorem dX8_grow_6 : decode cX8_grow 6 = .ok (.getfield 45, 3) := by decide +kernel
theorem dX8_grow_9 : decode cX8_grow 9 = .ok (.if_icmp .ge 48, 3) := by decide +kernel
theorem dX8_grow_12 : decode cX8_grow 12 = .ok (.aload_n 0, 1) := by decide +kernel
theorem dX8_grow_13 : decode cX8_grow 13 = .ok (.getfield 29, 3) := by decide +kernel
theorem dX8_grow_16 : decode cX8_grow 16 = .ok (.iload_n 2, 1) := by decide +kernel
theorem dX8_grow_17 : decode cX8_grow 17 = .ok (.aaload, 1) := by decide +kernel
theorem dX8_grow_18 : decode cX8_grow 18 = .ok (.astore_n 3, 1) := by decide +kernel
theorem dX8_grow_19 : decode cX8_grow 19 = .ok (.aload_n 3, 1) := by decide +kernel
theorem dX8_grow_20 : decode cX8_grow 20 = .ok (.getfield 102, 3) := by decide +kernel
theorem dX8_grow_23 : decode cX8_grow 23 = .ok (.getfield 131, 3) := by decide +kernel
theorem dX8_grow_26 : decode cX8_grow 26 = .ok (.ifCond .le 25, 3) := by decide +kernel
theorem dX8_grow_29 : decode cX8_grow 29 = .ok (.aload_n 3, 1) := by decide +kernel
theorem dX8_grow_30 : decode cX8_grow 30 = .ok (.getfield 127, 3) := by decide +kernel
theorem dX8_grow_33 : decode cX8_grow 33 = .ok (.ifCond .ne 18, 3) := by decide +kernel
theorem dX8_grow_36 : decode cX8_grow 36 = .ok (.aload_n 0, 1) := by decide +kernel
theorem dX8_grow_37 : decode cX8_grow 37 = .ok (.aload_n 3, 1) := by decide +kernel
theorem dX8_grow_38 : decode cX8_grow 38 = .ok (.invokevirtual 134, 3) := by decide +kernel
theorem dX8_grow_41 : decode cX8_grow 41 = .ok (.ifCond .ne 10, 3) := by decide +kernel
theorem dX8_grow_44 : decode cX8_grow 44 = .ok (.aload_n 3, 1) := by decide +kernel
theorem dX8_grow_45 : decode cX8_grow 45 = .ok (.iconst 1, 1) := by decide +kernel
theorem dX8_grow_46 : decode cX8_grow 46 = .ok (.putfield 127, 3) := by decide +kernel
theorem dX8_grow_49 : decode cX8_grow 49 = .ok (.iconst 1, 1) := by decide +kernel
theorem dX8_grow_50 : decode cX8_grow 50 = .ok (.istore_n 1, 1) := by decide +kernel
theorem dX8_grow_51 : decode cX8_grow 51 = .ok (.iinc 2 1, 3) := by decide +kernel
theorem dX8_grow_54 : decode cX8_grow 54 = .ok (.goto (-50), 3) := by decide +kernel
theorem dX8_grow_57 : decode cX8_grow 57 = .ok (.iload_n 1, 1) := by decide +kernel
theorem dX8_grow_58 : decode cX8_grow 58 = .ok (.ireturn, 1) := by decide +kernel
theorem dX8_placeLiterals_0 : decode cX8_placeLiterals 0 = .ok (.aload_n 0, 1) := by decide +kernel
theorem dX8_placeLiterals_1 : decode cX8_placeLiterals 1 = .ok (.getfield 49, 3) := by decide +kernel
theorem dX8_placeLiterals_4 : decode cX8_placeLiterals 4 = .ok (.istore_n 1, 1) := by decide +kernel
theorem dX8_placeLiterals_5 : decode cX8_placeLiterals 5 = .ok (.aload_n 0, 1) := by decide +kernel
theorem dX8_placeLiterals_6 : decode cX8_placeLiterals 6 = .ok (.getfield 45, 3) := by decide +kernel
theorem dX8_placeLiterals_9 : decode cX8_placeLiterals 9 = .ok (.iconst 1, 1) := by decide +kernel
theorem dX8_placeLiterals_10 : decode cX8_placeLiterals 10 = .ok (.isub, 1) := by decide +kernel
theorem dX8_placeLiterals_11 : decode cX8_placeLiterals 11 = .ok (.istore_n 2, 1) := by decide +kernel
theorem dX8_placeLiterals_12 : decode cX8_placeLiterals 12 = .ok (.iload_n 2, 1) := by decide +kernel
theorem dX8_placeLiterals_13 : decode cX8_placeLiterals 13 = .ok (.ifCond .lt 57, 3) := by decide +kernel
theorem dX8_placeLiterals_16 : decode cX8_placeLiterals 16 = .ok (.aload_n 0, 1) := by decide +kernel
theorem dX8_placeLiterals_17 : decode cX8_placeLiterals 17 = .ok (.getfield 29, 3) := by decide +kernel
theorem dX8_placeLiterals_20 : decode cX8_placeLiterals 20 = .ok (.iload_n 2, 1) := by decide +kernel
theorem dX8_placeLiterals_21 : decode cX8_placeLiterals 21 = .ok (.aaload, 1) := by decide +kernel
theorem dX8_placeLiterals_22 : decode cX8_placeLiterals 22 = .ok (.astore_n 3, 1) := by decide +kernel
theorem dX8_placeLiterals_23 : decode cX8_placeLiterals 23 = .ok (.aload_n 3, 1) := by decide +kernel
theorem dX8_placeLiterals_24 : decode cX8_placeLiterals 24 = .ok (.getfield 102, 3) := by decide +kernel
theorem dX8_placeLiterals_27 : decode cX8_placeLiterals 27 = .ok (.getstatic 111, 3) := by decide +kernel
theorem dX8_placeLiterals_30 : decode cX8_placeLiterals 30 = .ok (.if_acmp .ne 16, 3) := by decide +kernel
theorem dX8_placeLiterals_33 : decode cX8_placeLiterals 33 = .ok (.aload_n 3, 1) := by decide +kernel
theorem dX8_placeLiterals_34 : decode cX8_placeLiterals 34 = .ok (.getfield 87, 3) := by decide +kernel
theorem dX8_placeLiterals_37 : decode cX8_placeLiterals 37 = .ok (.aload_n 3, 1) := by decide +kernel
theorem dX8_placeLiterals_38 : decode cX8_placeLiterals 38 = .ok (.getfield 94, 3) := by decide +kernel
theorem dX8_placeLiterals_41 : decode cX8_placeLiterals 41 = .ok (.iadd, 1) := by decide +kernel
theorem dX8_placeLiterals_42 : decode cX8_placeLiterals 42 = .ok (.istore_n 1, 1) := by decide +kernel
theorem dX8_placeLiterals_43 : decode cX8_placeLiterals 43 = .ok (.goto 21, 3) := by decide +kernel
theorem dX8_placeLiterals_46 : decode cX8_placeLiterals 46 = .ok (.aload_n 3, 1) := by decide +kernel
theorem dX8_placeLiterals_47 : decode cX8_placeLiterals 47 = .ok (.getfield 102, 3) := by decide +kernel
theorem dX8_placeLiterals_50 : decode cX8_placeLiterals 50 = .ok (.getstatic 106, 3) := by decide +kernel
theorem dX8_placeLiterals_53 : decode cX8_placeLiterals 53 = .ok (.if_acmp .ne 11, 3) := by decide +kernel
theorem dX8_placeLiterals_56 : decode cX8_placeLiterals 56 = .ok (.iinc 1 (-1), 3) := by decide +kernel
theorem dX8_placeLiterals_59 : decode cX8_placeLiterals 59 = .ok (.aload_n 3, 1) := by decide +kernel
theorem dX8_placeLiterals_60 : decode cX8_placeLiterals 60 = .ok (.iload_n 1, 1) := by decide +kernel
theorem dX8_placeLiterals_61 : decode cX8_placeLiterals 61 = .ok (.putfield 151, 3) := by decide +kernel
theorem dX8_placeLiterals_64 : decode cX8_placeLiterals 64 = .ok (.iinc 2 (-1), 3) := by decide +kernel
theorem dX8_placeLiterals_67 : decode cX8_placeLiterals 67 = .ok (.goto (-55), 3) := by decide +kernel
theorem dX8_placeLiterals_70 : decode cX8_placeLiterals 70 = .ok (.return_, 1) := by decide +kernel
theorem dX8_layOut_0 : decode cX8_layOut 0 = .ok (.iconst 0, 1) := by decide +kernel
theorem dX8_layOut_1 : decode cX8_layOut 1 = .ok (.istore_n 1, 1) := by decide +kernel
theorem dX8_layOut_2 : decode cX8_layOut 2 = .ok (.iconst 0, 1) := by decide +kernel
theorem dX8_layOut_3 : decode cX8_layOut 3 = .ok (.istore_n 2, 1) := by decide +kernel
theorem dX8_layOut_4 : decode cX8_layOut 4 = .ok (.iconst 0, 1) := by decide +kernel
theorem dX8_layOut_5 : decode cX8_layOut 5 = .ok (.istore_n 3, 1) := by decide +kernel
theorem dX8_layOut_6 : decode cX8_layOut 6 = .ok (.iload_n 3, 1) := by decide +kernel
theorem dX8_layOut_7 : decode cX8_layOut 7 = .ok (.aload_n 0, 1) := by decide +kernel
theorem dX8_layOut_8 : decode cX8_layOut 8 = .ok (.getfield 45, 3) := by decide +kernel
theorem dX8_layOut_11 : decode cX8_layOut 11 = .ok (.if_icmp .ge 85, 3) := by decide +kernel
theorem dX8_layOut_14 : decode cX8_layOut 14 = .ok (.aload_n 0, 1) := by decide +kernel
theorem dX8_layOut_15 : decode cX8_layOut 15 = .ok (.getfield 29, 3) := by decide +kernel
theorem dX8_layOut_18 : decode cX8_layOut 18 = .ok (.iload_n 3, 1) := by decide +kernel
theorem dX8_layOut_19 : decode cX8_layOut 19 = .ok (.aaload, 1) := by decide +kernel
theorem dX8_layOut_20 : decode cX8_layOut 20 = .ok (.astore 4, 2) := by decide +kernel
theorem dX8_layOut_22 : decode cX8_layOut 22 = .ok (.aload 4, 2) := by decide +kernel
theorem dX8_layOut_24 : decode cX8_layOut 24 = .ok (.iload_n 1, 1) := by decide +kernel
theorem dX8_layOut_25 : decode cX8_layOut 25 = .ok (.putfield 87, 3) := by decide +kernel
theorem dX8_layOut_28 : decode cX8_layOut 28 = .ok (.aload 4, 2) := by decide +kernel
theorem dX8_layOut_30 : decode cX8_layOut 30 = .ok (.aload 4, 2) := by decide +kernel
theorem dX8_layOut_32 : decode cX8_layOut 32 = .ok (.iload_n 2, 1) := by decide +kernel
theorem dX8_layOut_33 : decode cX8_layOut 33 = .ok (.invokestatic 90, 3) := by decide +kernel
theorem dX8_layOut_36 : decode cX8_layOut 36 = .ok (.putfield 94, 3) := by decide +kernel
theorem dX8_layOut_39 : decode cX8_layOut 39 = .ok (.aload_n 0, 1) := by decide +kernel
theorem dX8_layOut_40 : decode cX8_layOut 40 = .ok (.getfield 12, 3) := by decide +kernel
theorem dX8_layOut_43 : decode cX8_layOut 43 = .ok (.aload 4, 2) := by decide +kernel
theorem dX8_layOut_45 : decode cX8_layOut 45 = .ok (.getfield 97, 3) := by decide +kernel
theorem dX8_layOut_48 : decode cX8_layOut 48 = .ok (.iload_n 1, 1) := by decide +kernel
theorem dX8_layOut_49 : decode cX8_layOut 49 = .ok (.invokevirtual 100, 3) := by decide +kernel
theorem dX8_layOut_52 : decode cX8_layOut 52 = .ok (.iload_n 1, 1) := by decide +kernel
theorem dX8_layOut_53 : decode cX8_layOut 53 = .ok (.aload 4, 2) := by decide +kernel
theorem dX8_layOut_55 : decode cX8_layOut 55 = .ok (.getfield 94, 3) := by decide +kernel
theorem dX8_layOut_58 : decode cX8_layOut 58 = .ok (.iadd, 1) := by decide +kernel
theorem dX8_layOut_59 : decode cX8_layOut 59 = .ok (.istore_n 1, 1) := by decide +kernel
theorem dX8_layOut_60 : decode cX8_layOut 60 = .ok (.aload 4, 2) := by decide +kernel
theorem dX8_layOut_62 : decode cX8_layOut 62 = .ok (.getfield 102, 3) := by decide +kernel
theorem dX8_layOut_65 : decode cX8_layOut 65 = .ok (.getstatic 106, 3) := by decide +kernel
theorem dX8_layOut_68 : decode cX8_layOut 68 = .ok (.if_acmp .ne 9, 3) := by decide +kernel
theorem dX8_layOut_71 : decode cX8_layOut 71 = .ok (.iinc 2 1, 3) := by decide +kernel
theorem dX8_layOut_74 : decode cX8_layOut 74 = .ok (.goto 16, 3) := by decide +kernel
theorem dX8_layOut_77 : decode cX8_layOut 77 = .ok (.aload 4, 2) := by decide +kernel
theorem dX8_layOut_79 : decode cX8_layOut 79 = .ok (.getfield 102, 3) := by decide +kernel
theorem dX8_layOut_82 : decode cX8_layOut 82 = .ok (.getstatic 111, 3) := by decide +kernel
theorem dX8_layOut_85 : decode cX8_layOut 85 = .ok (.if_acmp .ne 5, 3) := by decide +kernel
theorem dX8_layOut_88 : decode cX8_layOut 88 = .ok (.iconst 0, 1) := by decide +kernel
theorem dX8_layOut_89 : decode cX8_layOut 89 = .ok (.istore_n 2, 1) := by decide +kernel
theorem dX8_layOut_90 : decode cX8_layOut 90 = .ok (.iinc 3 1, 3) := by decide +kernel
theorem dX8_layOut_93 : decode cX8_layOut 93 = .ok (.goto (-87), 3) := by decide +kernel
theorem dX8_layOut_96 : decode cX8_layOut 96 = .ok (.aload_n 0, 1) := by decide +kernel
theorem dX8_layOut_97 : decode cX8_layOut 97 = .ok (.iload_n 1, 1) := by decide +kernel
theorem dX8_layOut_98 : decode cX8_layOut 98 = .ok (.iload_n 2, 1) := by decide +kernel
theorem dX8_layOut_99 : decode cX8_layOut 99 = .ok (.iadd, 1) := by decide +kernel
theorem dX8_layOut_100 : decode cX8_layOut 100 = .ok (.putfield 49, 3) := by decide +kernel
theorem dX8_layOut_103 : decode cX8_layOut 103 = .ok (.return_, 1) := by decide +kernel
theorem dX8_check_0 : decode cX8_check 0 = .ok (.iconst 0, 1) := by decide +kernel
theorem dX8_check_1 : decode cX8_check 1 = .ok (.istore_n 1, 1) := by decide +kernel
theorem dX8_check_2 : decode cX8_check 2 = .ok (.iload_n 1, 1) := by decide +kernel
theorem dX8_check_3 : decode cX8_check 3 = .ok (.aload_n 0, 1) := by decide +kernel
theorem dX8_check_4 : decode cX8_check 4 = .ok (.getfield 45, 3) := by decide +kernel
theorem dX8_check_7 : decode cX8_check 7 = .ok (.if_icmp .ge 99, 3) := by decide +kernel
theorem dX8_check_10 : decode cX8_check 10 = .ok (.aload_n 0, 1) := by decide +kernel
theorem dX8_check_11 : decode cX8_check 11 = .ok (.getfield 29, 3) := by decide +kernel
theorem dX8_check_14 : decode cX8_check 14 = .ok (.iload_n 1, 1) := by decide +kernel
theorem dX8_check_15 : decode cX8_check 15 = .ok (.aaload, 1) := by decide +kernel
theorem dX8_check_16 : decode cX8_check 16 = .ok (.astore_n 2, 1) := by decide +kernel
theorem dX8_check_17 : decode cX8_check 17 = .ok (.iconst 0, 1) := by decide +kernel
theorem dX8_check_18 : decode cX8_check 18 = .ok (.istore_n 3, 1) := by decide +kernel
theorem dX8_check_19 : decode cX8_check 19 = .ok (.iload_n 3, 1) := by decide +kernel
theorem dX8_check_20 : decode cX8_check 20 = .ok (.aload_n 2, 1) := by decide +kernel
theorem dX8_check_21 : decode cX8_check 21 = .ok (.getfield 124, 3) := by decide +kernel
theorem dX8_check_24 : decode cX8_check 24 = .ok (.if_icmp .ge 76, 3) := by decide +kernel
theorem dX8_check_27 : decode cX8_check 27 = .ok (.aload_n 0, 1) := by decide +kernel
theorem dX8_check_28 : decode cX8_check 28 = .ok (.getfield 23, 3) := by decide +kernel
theorem dX8_check_31 : decode cX8_check 31 = .ok (.aload_n 2, 1) := by decide +kernel
theorem dX8_check_32 : decode cX8_check 32 = .ok (.getfield 142, 3) := by decide +kernel
theorem dX8_check_35 : decode cX8_check 35 = .ok (.iload_n 3, 1) := by decide +kernel
theorem dX8_check_36 : decode cX8_check 36 = .ok (.iadd, 1) := by decide +kernel
theorem dX8_check_37 : decode cX8_check 37 = .ok (.invokevirtual 154, 3) := by decide +kernel
theorem dX8_check_40 : decode cX8_check 40 = .ok (.ifCond .ne 18, 3) := by decide +kernel
theorem dX8_check_43 : decode cX8_check 43 = .ok (.aload_n 0, 1) := by decide +kernel
theorem dX8_check_44 : decode cX8_check 44 = .ok (.getfield 33, 3) := by decide +kernel
theorem dX8_check_47 : decode cX8_check 47 = .ok (.iconst 4, 1) := by decide +kernel
theorem dX8_check_48 : decode cX8_check 48 = .ok (.aload_n 2, 1) := by decide +kernel
theorem dX8_check_49 : decode cX8_check 49 = .ok (.getfield 158, 3) := by decide +kernel
theorem dX8_check_52 : decode cX8_check 52 = .ok (.invokevirtual 75, 3) := by decide +kernel
theorem dX8_check_55 : decode cX8_check 55 = .ok (.goto 39, 3) := by decide +kernel
theorem dX8_check_58 : decode cX8_check 58 = .ok (.aload_n 2, 1) := by decide +kernel
theorem dX8_check_59 : decode cX8_check 59 = .ok (.aload_n 0, 1) := by decide +kernel
theorem dX8_check_60 : decode cX8_check 60 = .ok (.getfield 23, 3) := by decide +kernel
theorem dX8_check_63 : decode cX8_check 63 = .ok (.aload_n 2, 1) := by decide +kernel
theorem dX8_check_64 : decode cX8_check 64 = .ok (.getfield 142, 3) := by decide +kernel
theorem dX8_check_67 : decode cX8_check 67 = .ok (.iload_n 3, 1) := by decide +kernel
theorem dX8_check_68 : decode cX8_check 68 = .ok (.iadd, 1) := by decide +kernel
theorem dX8_check_69 : decode cX8_check 69 = .ok (.aload_n 2, 1) := by decide +kernel
theorem dX8_check_70 : decode cX8_check 70 = .ok (.getfield 87, 3) := by decide +kernel
theorem dX8_check_73 : decode cX8_check 73 = .ok (.invokevirtual 145, 3) := by decide +kernel
theorem dX8_check_76 : decode cX8_check 76 = .ok (.invokestatic 161, 3) := by decide +kernel
theorem dX8_check_79 : decode cX8_check 79 = .ok (.ifCond .ne 15, 3) := by decide +kernel
theorem dX8_check_82 : decode cX8_check 82 = .ok (.aload_n 0, 1) := by decide +kernel
theorem dX8_check_83 : decode cX8_check 83 = .ok (.getfield 33, 3) := by decide +kernel
theorem dX8_check_86 : decode cX8_check 86 = .ok (.iconst 5, 1) := by decide +kernel
theorem dX8_check_87 : decode cX8_check 87 = .ok (.aload_n 2, 1) := by decide +kernel
theorem dX8_check_88 : decode cX8_check 88 = .ok (.getfield 158, 3) := by decide +kernel
theorem dX8_check_91 : decode cX8_check 91 = .ok (.invokevirtual 75, 3) := by decide +kernel
theorem dX8_check_94 : decode cX8_check 94 = .ok (.iinc 3 1, 3) := by decide +kernel
theorem dX8_check_97 : decode cX8_check 97 = .ok (.goto (-78), 3) := by decide +kernel
theorem dX8_check_100 : decode cX8_check 100 = .ok (.iinc 1 1, 3) := by decide +kernel
theorem dX8_check_103 : decode cX8_check 103 = .ok (.goto (-101), 3) := by decide +kernel
theorem dX8_check_106 : decode cX8_check 106 = .ok (.return_, 1) := by decide +kernel
theorem dX8_runTurnTwo_0 : decode cX8_runTurnTwo 0 = .ok (.aload_n 0, 1) := by decide +kernel
theorem dX8_runTurnTwo_1 : decode cX8_runTurnTwo 1 = .ok (.getfield 23, 3) := by decide +kernel
theorem dX8_runTurnTwo_4 : decode cX8_runTurnTwo 4 = .ok (.invokevirtual 65, 3) := by decide +kernel
theorem dX8_runTurnTwo_7 : decode cX8_runTurnTwo 7 = .ok (.iconst 1, 1) := by decide +kernel
theorem dX8_runTurnTwo_8 : decode cX8_runTurnTwo 8 = .ok (.istore_n 1, 1) := by decide +kernel
theorem dX8_runTurnTwo_9 : decode cX8_runTurnTwo 9 = .ok (.iload_n 1, 1) := by decide +kernel
theorem dX8_runTurnTwo_10 : decode cX8_runTurnTwo 10 = .ok (.ifCond .eq 35, 3) := by decide +kernel
theorem dX8_runTurnTwo_13 : decode cX8_runTurnTwo 13 = .ok (.aload_n 0, 1) := by decide +kernel
theorem dX8_runTurnTwo_14 : decode cX8_runTurnTwo 14 = .ok (.getfield 52, 3) := by decide +kernel
theorem dX8_runTurnTwo_17 : decode cX8_runTurnTwo 17 = .ok (.sipush 401, 3) := by decide +kernel
theorem dX8_runTurnTwo_20 : decode cX8_runTurnTwo 20 = .ok (.if_icmp .ge 25, 3) := by decide +kernel
theorem dX8_runTurnTwo_23 : decode cX8_runTurnTwo 23 = .ok (.aload_n 0, 1) := by decide +kernel
theorem dX8_runTurnTwo_24 : decode cX8_runTurnTwo 24 = .ok (.dup, 1) := by decide +kernel
theorem dX8_runTurnTwo_25 : decode cX8_runTurnTwo 25 = .ok (.getfield 52, 3) := by decide +kernel
theorem dX8_runTurnTwo_28 : decode cX8_runTurnTwo 28 = .ok (.iconst 1, 1) := by decide +kernel
theorem dX8_runTurnTwo_29 : decode cX8_runTurnTwo 29 = .ok (.iadd, 1) := by decide +kernel
theorem dX8_runTurnTwo_30 : decode cX8_runTurnTwo 30 = .ok (.putfield 52, 3) := by decide +kernel
theorem dX8_runTurnTwo_33 : decode cX8_runTurnTwo 33 = .ok (.aload_n 0, 1) := by decide +kernel
theorem dX8_runTurnTwo_34 : decode cX8_runTurnTwo 34 = .ok (.invokevirtual 68, 3) := by decide +kernel
theorem dX8_runTurnTwo_37 : decode cX8_runTurnTwo 37 = .ok (.aload_n 0, 1) := by decide +kernel
theorem dX8_runTurnTwo_38 : decode cX8_runTurnTwo 38 = .ok (.invokevirtual 71, 3) := by decide +kernel
theorem dX8_runTurnTwo_41 : decode cX8_runTurnTwo 41 = .ok (.istore_n 1, 1) := by decide +kernel
theorem dX8_runTurnTwo_42 : decode cX8_runTurnTwo 42 = .ok (.goto (-33), 3) := by decide +kernel
theorem dX8_runTurnTwo_45 : decode cX8_runTurnTwo 45 = .ok (.aload_n 0, 1) := by decide +kernel
theorem dX8_runTurnTwo_46 : decode cX8_runTurnTwo 46 = .ok (.getfield 49, 3) := by decide +kernel
theorem dX8_runTurnTwo_49 : decode cX8_runTurnTwo 49 = .ok (.ldc 74, 2) := by decide +kernel
theorem dX8_runTurnTwo_51 : decode cX8_runTurnTwo 51 = .ok (.if_icmp .le 13, 3) := by decide +kernel
theorem dX8_runTurnTwo_54 : decode cX8_runTurnTwo 54 = .ok (.aload_n 0, 1) := by decide +kernel
theorem dX8_runTurnTwo_55 : decode cX8_runTurnTwo 55 = .ok (.getfield 33, 3) := by decide +kernel
theorem dX8_runTurnTwo_58 : decode cX8_runTurnTwo 58 = .ok (.iconst 5, 1) := by decide +kernel
theorem dX8_runTurnTwo_59 : decode cX8_runTurnTwo 59 = .ok (.iconst 0, 1) := by decide +kernel
theorem dX8_runTurnTwo_60 : decode cX8_runTurnTwo 60 = .ok (.invokevirtual 75, 3) := by decide +kernel
theorem dX8_runTurnTwo_63 : decode cX8_runTurnTwo 63 = .ok (.return_, 1) := by decide +kernel
theorem dX8_runTurnTwo_64 : decode cX8_runTurnTwo 64 = .ok (.aload_n 0, 1) := by decide +kernel
theorem dX8_runTurnTwo_65 : decode cX8_runTurnTwo 65 = .ok (.invokevirtual 81, 3) := by decide +kernel
theorem dX8_runTurnTwo_68 : decode cX8_runTurnTwo 68 = .ok (.aload_n 0, 1) := by decide +kernel
theorem dX8_runTurnTwo_69 : decode cX8_runTurnTwo 69 = .ok (.invokevirtual 84, 3) := by decide +kernel
theorem dX8_runTurnTwo_72 : decode cX8_runTurnTwo 72 = .ok (.return_, 1) := by decide +kernel
theorem dX8_forget_0 : decode cX8_forget 0 = .ok (.aload_n 0, 1) := by decide +kernel
theorem dX8_forget_1 : decode cX8_forget 1 = .ok (.getfield 12, 3) := by decide +kernel
theorem dX8_forget_4 : decode cX8_forget 4 = .ok (.invokevirtual 38, 3) := by decide +kernel
theorem dX8_forget_7 : decode cX8_forget 7 = .ok (.aload_n 0, 1) := by decide +kernel
theorem dX8_forget_8 : decode cX8_forget 8 = .ok (.getfield 23, 3) := by decide +kernel
theorem dX8_forget_11 : decode cX8_forget 11 = .ok (.iconst 0, 1) := by decide +kernel
theorem dX8_forget_12 : decode cX8_forget 12 = .ok (.invokevirtual 41, 3) := by decide +kernel
theorem dX8_forget_15 : decode cX8_forget 15 = .ok (.aload_n 0, 1) := by decide +kernel
theorem dX8_forget_16 : decode cX8_forget 16 = .ok (.iconst 0, 1) := by decide +kernel
theorem dX8_forget_17 : decode cX8_forget 17 = .ok (.putfield 45, 3) := by decide +kernel
theorem dX8_forget_20 : decode cX8_forget 20 = .ok (.aload_n 0, 1) := by decide +kernel
theorem dX8_forget_21 : decode cX8_forget 21 = .ok (.iconst 0, 1) := by decide +kernel
theorem dX8_forget_22 : decode cX8_forget 22 = .ok (.putfield 49, 3) := by decide +kernel
theorem dX8_forget_25 : decode cX8_forget 25 = .ok (.aload_n 0, 1) := by decide +kernel
theorem dX8_forget_26 : decode cX8_forget 26 = .ok (.iconst 0, 1) := by decide +kernel
theorem dX8_forget_27 : decode cX8_forget 27 = .ok (.putfield 52, 3) := by decide +kernel
theorem dX8_forget_30 : decode cX8_forget 30 = .ok (.return_, 1) := by decide +kernel

