set_option maxRecDepth 20000 in
theorem w_1_8 : (Jvm.Cond.initialized "java/lang/Enum") ∈ b_Ws := bw_1 (List.mem_of_getElem? (i := 8) rfl) rfl
set_option maxRecDepth 20000 in
theorem w_1_9 : (Jvm.Cond.initialized "AssembleLines$Operation") ∈ b_Ws := bw_1 (List.mem_of_getElem? (i := 9) rfl) rfl
set_option maxRecDepth 20000 in
theorem w_1_150 : (Jvm.Cond.fieldLink "AssembleLines$TurnOne" (259 : Nat) "AssembleLines$Statement" "register" "I") ∈ b_Ws := bw_1 (List.mem_of_getElem? (i := 150) rfl) rfl
set_option maxRecDepth 20000 in
theorem w_1_153 : (Jvm.Cond.fieldLink "AssembleLines$TurnOne" (262 : Nat) "AssembleLines$Statement" "second" "I") ∈ b_Ws := bw_1 (List.mem_of_getElem? (i := 153) rfl) rfl
set_option maxRecDepth 20000 in
theorem w_1_159 : (Jvm.Cond.fieldLink "AssembleLines$TurnOne" (271 : Nat) "AssembleLines$Statement" "values" "I") ∈ b_Ws := bw_1 (List.mem_of_getElem? (i := 159) rfl) rfl
set_option maxRecDepth 20000 in
theorem w_2_0 : (Jvm.Cond.fieldLink "AssembleLines$TurnOne" (212 : Nat) "AssembleLines$Scanner" "packedWord" "J") ∈ b_Ws := bw_2 (List.mem_of_getElem? (i := 0) rfl) rfl
set_option maxRecDepth 20000 in
theorem w_2_83 : (Jvm.Cond.fieldLink "AssembleLines$TurnOne" (89 : Nat) "AssembleLines$Lines" "from" "I") ∈ b_Ws := bw_2 (List.mem_of_getElem? (i := 83) rfl) rfl
set_option maxRecDepth 20000 in
theorem w_2_90 : (Jvm.Cond.fieldLink "AssembleLines$TurnOne" (162 : Nat) "AssembleLines$Lines" "number" "I") ∈ b_Ws := bw_2 (List.mem_of_getElem? (i := 90) rfl) rfl
set_option maxRecDepth 20000 in
theorem w_2_135 : (Jvm.Cond.fieldLink "AssembleLines$TurnOne" (147 : Nat) "AssembleLines$TurnOne" "label" "J") ∈ b_Ws := bw_2 (List.mem_of_getElem? (i := 135) rfl) rfl
set_option maxRecDepth 20000 in
theorem w_2_136 : (Jvm.Cond.fieldLink "AssembleLines$TurnOne" (151 : Nat) "AssembleLines$TurnOne" "toldName" "J") ∈ b_Ws := bw_2 (List.mem_of_getElem? (i := 136) rfl) rfl
set_option maxRecDepth 20000 in
theorem w_2_137 : (Jvm.Cond.fieldLink "AssembleLines$TurnOne" (218 : Nat) "AssembleLines$TurnOne" "macro" "I") ∈ b_Ws := bw_2 (List.mem_of_getElem? (i := 137) rfl) rfl
set_option maxRecDepth 20000 in
theorem w_2_138 : (Jvm.Cond.fieldLink "AssembleLines$TurnOne" (159 : Nat) "AssembleLines$TurnOne" "mark" "I") ∈ b_Ws := bw_2 (List.mem_of_getElem? (i := 138) rfl) rfl
set_option maxRecDepth 20000 in
theorem w_2_139 : (Jvm.Cond.fieldLink "AssembleLines$TurnOne" (76 : Nat) "AssembleLines$TurnOne" "isPassing" "Z") ∈ b_Ws := bw_2 (List.mem_of_getElem? (i := 139) rfl) rfl
set_option maxRecDepth 20000 in
theorem w_2_140 : (Jvm.Cond.fieldLink "AssembleLines$TurnOne" (113 : Nat) "AssembleLines$TurnOne" "isBody" "Z") ∈ b_Ws := bw_2 (List.mem_of_getElem? (i := 140) rfl) rfl
set_option maxRecDepth 20000 in
theorem w_2_141 : (Jvm.Cond.fieldLink "AssembleLines$TurnOne" (116 : Nat) "AssembleLines$TurnOne" "macroLine" "I") ∈ b_Ws := bw_2 (List.mem_of_getElem? (i := 141) rfl) rfl
set_option maxRecDepth 20000 in
theorem w_3_80 : (Jvm.Cond.instanceMethod ({ cls := "AssembleLines$Expressions", name := "cut", desc := "(I)V" } : Jvm.MethodName)) ∈ b_Ws := bw_3 (List.mem_of_getElem? (i := 80) rfl) rfl
set_option maxRecDepth 20000 in
theorem w_3_81 : (Jvm.Cond.selects "AssembleLines$Expressions" ({ cls := "AssembleLines$Expressions", name := "cut", desc := "(I)V" } : Jvm.MethodName) ({ cls := "AssembleLines$Expressions", name := "cut", desc := "(I)V" } : Jvm.MethodName)) ∈ b_Ws := bw_3 (List.mem_of_getElem? (i := 81) rfl) rfl
set_option maxRecDepth 20000 in
theorem w_3_82 : (Jvm.Cond.code ({ cls := "AssembleLines$Expressions", name := "cut", desc := "(I)V" } : Jvm.MethodName) prog_5_method_2_code (2 : Nat) (Option.none : Option Jvm.ClassFile.FieldType)) ∈ b_Ws := bw_3 (List.mem_of_getElem? (i := 82) rfl) rfl
set_option maxRecDepth 20000 in
theorem w_3_87 : (Jvm.Cond.methodLink "AssembleLines$TurnOne" (68 : Nat) ({ cls := "AssembleLines$Macros", name := "forget", desc := "()V" } : Jvm.MethodName)) ∈ b_Ws := bw_3 (List.mem_of_getElem? (i := 87) rfl) rfl
set_option maxRecDepth 20000 in
theorem w_3_88 : (Jvm.Cond.instanceMethod ({ cls := "AssembleLines$Macros", name := "forget", desc := "()V" } : Jvm.MethodName)) ∈ b_Ws := bw_3 (List.mem_of_getElem? (i := 88) rfl) rfl
set_option maxRecDepth 20000 in
theorem w_3_89 : (Jvm.Cond.selects "AssembleLines$Macros" ({ cls := "AssembleLines$Macros", name := "forget", desc := "()V" } : Jvm.MethodName) ({ cls := "AssembleLines$Macros", name := "forget", desc := "()V" } : Jvm.MethodName)) ∈ b_Ws := bw_3 (List.mem_of_getElem? (i := 89) rfl) rfl
set_option maxRecDepth 20000 in
theorem w_3_90 : (Jvm.Cond.code ({ cls := "AssembleLines$Macros", name := "forget", desc := "()V" } : Jvm.MethodName) prog_7_method_2_code (1 : Nat) (Option.none : Option Jvm.ClassFile.FieldType)) ∈ b_Ws := bw_3 (List.mem_of_getElem? (i := 90) rfl) rfl
set_option maxRecDepth 20000 in
theorem w_3_91 : (Jvm.Cond.methodLink "AssembleLines$TurnOne" (71 : Nat) ({ cls := "AssembleLines$Lines", name := "forget", desc := "()V" } : Jvm.MethodName)) ∈ b_Ws := bw_3 (List.mem_of_getElem? (i := 91) rfl) rfl
set_option maxRecDepth 20000 in
theorem w_3_92 : (Jvm.Cond.instanceMethod ({ cls := "AssembleLines$Lines", name := "forget", desc := "()V" } : Jvm.MethodName)) ∈ b_Ws := bw_3 (List.mem_of_getElem? (i := 92) rfl) rfl
set_option maxRecDepth 20000 in
theorem w_3_93 : (Jvm.Cond.selects "AssembleLines$Lines" ({ cls := "AssembleLines$Lines", name := "forget", desc := "()V" } : Jvm.MethodName) ({ cls := "AssembleLines$Lines", name := "forget", desc := "()V" } : Jvm.MethodName)) ∈ b_Ws := bw_3 (List.mem_of_getElem? (i := 93) rfl) rfl
set_option maxRecDepth 20000 in
theorem w_3_94 : (Jvm.Cond.code ({ cls := "AssembleLines$Lines", name := "forget", desc := "()V" } : Jvm.MethodName) prog_6_method_3_code (1 : Nat) (Option.none : Option Jvm.ClassFile.FieldType)) ∈ b_Ws := bw_3 (List.mem_of_getElem? (i := 94) rfl) rfl
set_option maxRecDepth 20000 in
theorem w_3_154 : (Jvm.Cond.methodLink "AssembleLines$TurnOne" (125 : Nat) ({ cls := "AssembleLines$Scanner", name := "isPlain", desc := "()Z" } : Jvm.MethodName)) ∈ b_Ws := bw_3 (List.mem_of_getElem? (i := 154) rfl) rfl
set_option maxRecDepth 20000 in
theorem w_3_155 : (Jvm.Cond.instanceMethod ({ cls := "AssembleLines$Scanner", name := "isPlain", desc := "()Z" } : Jvm.MethodName)) ∈ b_Ws := bw_3 (List.mem_of_getElem? (i := 155) rfl) rfl
set_option maxRecDepth 20000 in
theorem w_3_156 : (Jvm.Cond.selects "AssembleLines$Scanner" ({ cls := "AssembleLines$Scanner", name := "isPlain", desc := "()Z" } : Jvm.MethodName) ({ cls := "AssembleLines$Scanner", name := "isPlain", desc := "()Z" } : Jvm.MethodName)) ∈ b_Ws := bw_3 (List.mem_of_getElem? (i := 156) rfl) rfl
set_option maxRecDepth 20000 in
theorem w_3_157 : (Jvm.Cond.code ({ cls := "AssembleLines$Scanner", name := "isPlain", desc := "()Z" } : Jvm.MethodName) prog_11_method_3_code (2 : Nat) (Option.some Jvm.ClassFile.FieldType.boolean)) ∈ b_Ws := bw_3 (List.mem_of_getElem? (i := 157) rfl) rfl
set_option maxRecDepth 20000 in
theorem w_3_158 : (Jvm.Cond.methodLink "AssembleLines$TurnOne" (128 : Nat) ({ cls := "AssembleLines$Scanner", name := "readLabel", desc := "()J" } : Jvm.MethodName)) ∈ b_Ws := bw_3 (List.mem_of_getElem? (i := 158) rfl) rfl
set_option maxRecDepth 20000 in
theorem w_3_159 : (Jvm.Cond.instanceMethod ({ cls := "AssembleLines$Scanner", name := "readLabel", desc := "()J" } : Jvm.MethodName)) ∈ b_Ws := bw_3 (List.mem_of_getElem? (i := 159) rfl) rfl
set_option maxRecDepth 20000 in
theorem w_3_160 : (Jvm.Cond.selects "AssembleLines$Scanner" ({ cls := "AssembleLines$Scanner", name := "readLabel", desc := "()J" } : Jvm.MethodName) ({ cls := "AssembleLines$Scanner", name := "readLabel", desc := "()J" } : Jvm.MethodName)) ∈ b_Ws := bw_3 (List.mem_of_getElem? (i := 160) rfl) rfl
set_option maxRecDepth 20000 in
theorem w_3_161 : (Jvm.Cond.code ({ cls := "AssembleLines$Scanner", name := "readLabel", desc := "()J" } : Jvm.MethodName) prog_11_method_12_code (4 : Nat) (Option.some Jvm.ClassFile.FieldType.long)) ∈ b_Ws := bw_3 (List.mem_of_getElem? (i := 161) rfl) rfl
set_option maxRecDepth 20000 in
theorem w_3_175 : (Jvm.Cond.constantLong "AssembleLines$TurnOne" (132 : Nat) (-1 : Int64)) ∈ b_Ws := bw_3 (List.mem_of_getElem? (i := 175) rfl) rfl
set_option maxRecDepth 20000 in
theorem w_3_176 : (Jvm.Cond.methodLink "AssembleLines$TurnOne" (134 : Nat) ({ cls := "AssembleLines$Scanner", name := "readOperation", desc := "()Z" } : Jvm.MethodName)) ∈ b_Ws := bw_3 (List.mem_of_getElem? (i := 176) rfl) rfl
set_option maxRecDepth 20000 in
theorem w_3_177 : (Jvm.Cond.instanceMethod ({ cls := "AssembleLines$Scanner", name := "readOperation", desc := "()Z" } : Jvm.MethodName)) ∈ b_Ws := bw_3 (List.mem_of_getElem? (i := 177) rfl) rfl
set_option maxRecDepth 20000 in
theorem w_3_178 : (Jvm.Cond.selects "AssembleLines$Scanner" ({ cls := "AssembleLines$Scanner", name := "readOperation", desc := "()Z" } : Jvm.MethodName) ({ cls := "AssembleLines$Scanner", name := "readOperation", desc := "()Z" } : Jvm.MethodName)) ∈ b_Ws := bw_3 (List.mem_of_getElem? (i := 178) rfl) rfl
set_option maxRecDepth 20000 in
theorem w_3_179 : (Jvm.Cond.code ({ cls := "AssembleLines$Scanner", name := "readOperation", desc := "()Z" } : Jvm.MethodName) prog_11_method_13_code (2 : Nat) (Option.some Jvm.ClassFile.FieldType.boolean)) ∈ b_Ws := bw_3 (List.mem_of_getElem? (i := 179) rfl) rfl
set_option maxRecDepth 20000 in
theorem w_3_184 : (Jvm.Cond.methodLink "AssembleLines$TurnOne" (137 : Nat) ({ cls := "AssembleLines$Operation", name := "spelledBy", desc := "(LAssembleLines$Scanner;)LAssembleLines$Operation;" } : Jvm.MethodName)) ∈ b_Ws := bw_3 (List.mem_of_getElem? (i := 184) rfl) rfl
set_option maxRecDepth 20000 in
theorem w_3_185 : (Jvm.Cond.static ({ cls := "AssembleLines$Operation", name := "spelledBy", desc := "(LAssembleLines$Scanner;)LAssembleLines$Operation;" } : Jvm.MethodName)) ∈ b_Ws := bw_3 (List.mem_of_getElem? (i := 185) rfl) rfl
set_option maxRecDepth 20000 in
theorem w_3_186 : (Jvm.Cond.code ({ cls := "AssembleLines$Operation", name := "spelledBy", desc := "(LAssembleLines$Scanner;)LAssembleLines$Operation;" } : Jvm.MethodName) prog_9_method_4_code (2 : Nat) (Option.some (Jvm.ClassFile.FieldType.object "AssembleLines$Operation"))) ∈ b_Ws := bw_3 (List.mem_of_getElem? (i := 186) rfl) rfl
set_option maxRecDepth 20000 in
theorem w_4_7 : (Jvm.Cond.fieldLink "AssembleLines$TurnOne" (141 : Nat) "AssembleLines$Operation" "END" "LAssembleLines$Operation;") ∈ b_Ws := bw_4 (List.mem_of_getElem? (i := 7) rfl) rfl
set_option maxRecDepth 20000 in
theorem w_4_9 : (Jvm.Cond.methodLink "AssembleLines$TurnOne" (144 : Nat) ({ cls := "AssembleLines$Macros", name := "close", desc := "(I)V" } : Jvm.MethodName)) ∈ b_Ws := bw_4 (List.mem_of_getElem? (i := 9) rfl) rfl
set_option maxRecDepth 20000 in
theorem w_4_10 : (Jvm.Cond.instanceMethod ({ cls := "AssembleLines$Macros", name := "close", desc := "(I)V" } : Jvm.MethodName)) ∈ b_Ws := bw_4 (List.mem_of_getElem? (i := 10) rfl) rfl
set_option maxRecDepth 20000 in
theorem w_4_11 : (Jvm.Cond.selects "AssembleLines$Macros" ({ cls := "AssembleLines$Macros", name := "close", desc := "(I)V" } : Jvm.MethodName) ({ cls := "AssembleLines$Macros", name := "close", desc := "(I)V" } : Jvm.MethodName)) ∈ b_Ws := bw_4 (List.mem_of_getElem? (i := 11) rfl) rfl
set_option maxRecDepth 20000 in
theorem w_4_12 : (Jvm.Cond.code ({ cls := "AssembleLines$Macros", name := "close", desc := "(I)V" } : Jvm.MethodName) prog_7_method_6_code (2 : Nat) (Option.none : Option Jvm.ClassFile.FieldType)) ∈ b_Ws := bw_4 (List.mem_of_getElem? (i := 12) rfl) rfl
set_option maxRecDepth 20000 in
theorem w_4_25 : (Jvm.Cond.methodLink "AssembleLines$TurnOne" (208 : Nat) ({ cls := "AssembleLines$Scanner", name := "registerOf", desc := "(J)I" } : Jvm.MethodName)) ∈ b_Ws := bw_4 (List.mem_of_getElem? (i := 25) rfl) rfl
set_option maxRecDepth 20000 in
theorem w_4_26 : (Jvm.Cond.static ({ cls := "AssembleLines$Scanner", name := "registerOf", desc := "(J)I" } : Jvm.MethodName)) ∈ b_Ws := bw_4 (List.mem_of_getElem? (i := 26) rfl) rfl
set_option maxRecDepth 20000 in
theorem w_4_27 : (Jvm.Cond.code ({ cls := "AssembleLines$Scanner", name := "registerOf", desc := "(J)I" } : Jvm.MethodName) prog_11_method_11_code (2 : Nat) (Option.some Jvm.ClassFile.FieldType.int)) ∈ b_Ws := bw_4 (List.mem_of_getElem? (i := 27) rfl) rfl
set_option maxRecDepth 20000 in
theorem w_4_30 : (Jvm.Cond.methodLink "AssembleLines$TurnOne" (182 : Nat) ({ cls := "AssembleLines$Scanner", name := "isAtEnd", desc := "()Z" } : Jvm.MethodName)) ∈ b_Ws := bw_4 (List.mem_of_getElem? (i := 30) rfl) rfl
set_option maxRecDepth 20000 in
theorem w_4_34 : (Jvm.Cond.methodLink "AssembleLines$TurnOne" (215 : Nat) ({ cls := "AssembleLines$Macros", name := "find", desc := "(J)I" } : Jvm.MethodName)) ∈ b_Ws := bw_4 (List.mem_of_getElem? (i := 34) rfl) rfl
set_option maxRecDepth 20000 in
theorem w_4_35 : (Jvm.Cond.instanceMethod ({ cls := "AssembleLines$Macros", name := "find", desc := "(J)I" } : Jvm.MethodName)) ∈ b_Ws := bw_4 (List.mem_of_getElem? (i := 35) rfl) rfl
set_option maxRecDepth 20000 in
theorem w_4_36 : (Jvm.Cond.selects "AssembleLines$Macros" ({ cls := "AssembleLines$Macros", name := "find", desc := "(J)I" } : Jvm.MethodName) ({ cls := "AssembleLines$Macros", name := "find", desc := "(J)I" } : Jvm.MethodName)) ∈ b_Ws := bw_4 (List.mem_of_getElem? (i := 36) rfl) rfl
set_option maxRecDepth 20000 in
theorem w_4_37 : (Jvm.Cond.code ({ cls := "AssembleLines$Macros", name := "find", desc := "(J)I" } : Jvm.MethodName) prog_7_method_4_code (4 : Nat) (Option.some Jvm.ClassFile.FieldType.int)) ∈ b_Ws := bw_4 (List.mem_of_getElem? (i := 37) rfl) rfl
set_option maxRecDepth 20000 in
theorem w_4_38 : (Jvm.Cond.fieldLink "AssembleLines$TurnOne" (173 : Nat) "AssembleLines$Operation" "UNHEARD" "LAssembleLines$Operation;") ∈ b_Ws := bw_4 (List.mem_of_getElem? (i := 38) rfl) rfl
set_option maxRecDepth 20000 in
theorem w_4_39 : (Jvm.Cond.fieldLink "AssembleLines$TurnOne" (221 : Nat) "AssembleLines$Operation" "CALL" "LAssembleLines$Operation;") ∈ b_Ws := bw_4 (List.mem_of_getElem? (i := 39) rfl) rfl
set_option maxRecDepth 20000 in
theorem w_4_45 : (Jvm.Cond.fieldLink "AssembleLines$TurnOne" (224 : Nat) "AssembleLines$1" "$SwitchMap$AssembleLines$Operation" "[I") ∈ b_Ws := bw_4 (List.mem_of_getElem? (i := 45) rfl) rfl
set_option maxRecDepth 20000 in
theorem w_4_47 : (Jvm.Cond.methodLink "AssembleLines$TurnOne" (230 : Nat) ({ cls := "AssembleLines$Operation", name := "ordinal", desc := "()I" } : Jvm.MethodName)) ∈ b_Ws := bw_4 (List.mem_of_getElem? (i := 47) rfl) rfl
set_option maxRecDepth 20000 in
theorem w_4_48 : (Jvm.Cond.sameMethod "AssembleLines$Operation" "java/lang/Enum" "ordinal" "()I") ∈ b_Ws := bw_4 (List.mem_of_getElem? (i := 48) rfl) rfl
set_option maxRecDepth 20000 in
theorem w_4_50 : (Jvm.Cond.selects "AssembleLines$Operation" ({ cls := "AssembleLines$Operation", name := "ordinal", desc := "()I" } : Jvm.MethodName) ({ cls := "java/lang/Enum", name := "ordinal", desc := "()I" } : Jvm.MethodName)) ∈ b_Ws := bw_4 (List.mem_of_getElem? (i := 50) rfl) rfl
set_option maxRecDepth 20000 in
theorem w_4_51 : (Jvm.Cond.instanceMethod ({ cls := "java/lang/Enum", name := "ordinal", desc := "()I" } : Jvm.MethodName)) ∈ b_Ws := bw_4 (List.mem_of_getElem? (i := 51) rfl) rfl
set_option maxRecDepth 20000 in
theorem w_4_52 : (Jvm.Cond.code ({ cls := "java/lang/Enum", name := "ordinal", desc := "()I" } : Jvm.MethodName) prog_17_method_2_code (1 : Nat) (Option.some Jvm.ClassFile.FieldType.int)) ∈ b_Ws := bw_4 (List.mem_of_getElem? (i := 52) rfl) rfl
set_option maxRecDepth 20000 in
theorem w_4_53 : (Jvm.Cond.methodLink "AssembleLines$TurnOne" (233 : Nat) ({ cls := "AssembleLines$TurnOne", name := "readRegister", desc := "()Z" } : Jvm.MethodName)) ∈ b_Ws := bw_4 (List.mem_of_getElem? (i := 53) rfl) rfl
set_option maxRecDepth 20000 in
theorem w_4_55 : (Jvm.Cond.instanceMethod ({ cls := "AssembleLines$TurnOne", name := "readRegister", desc := "()Z" } : Jvm.MethodName)) ∈ b_Ws := bw_4 (List.mem_of_getElem? (i := 55) rfl) rfl
set_option maxRecDepth 20000 in
theorem w_4_56 : (Jvm.Cond.code ({ cls := "AssembleLines$TurnOne", name := "readRegister", desc := "()Z" } : Jvm.MethodName) prog_13_method_8_code (1 : Nat) (Option.some Jvm.ClassFile.FieldType.boolean)) ∈ b_Ws := bw_4 (List.mem_of_getElem? (i := 56) rfl) rfl
set_option maxRecDepth 20000 in
theorem w_4_57 : (Jvm.Cond.methodLink "AssembleLines$TurnOne" (253 : Nat) ({ cls := "AssembleLines$Scanner", name := "passBlanks", desc := "()V" } : Jvm.MethodName)) ∈ b_Ws := bw_4 (List.mem_of_getElem? (i := 57) rfl) rfl
set_option maxRecDepth 20000 in
theorem w_4_58 : (Jvm.Cond.methodLink "AssembleLines$TurnOne" (256 : Nat) ({ cls := "AssembleLines$Scanner", name := "readName", desc := "()J" } : Jvm.MethodName)) ∈ b_Ws := bw_4 (List.mem_of_getElem? (i := 58) rfl) rfl
set_option maxRecDepth 20000 in
theorem w_4_59 : (Jvm.Cond.methodLink "AssembleLines$TurnOne" (236 : Nat) ({ cls := "AssembleLines$Scanner", name := "takes", desc := "(C)Z" } : Jvm.MethodName)) ∈ b_Ws := bw_4 (List.mem_of_getElem? (i := 59) rfl) rfl
set_option maxRecDepth 20000 in
theorem w_4_63 : (Jvm.Cond.methodLink "AssembleLines$TurnOne" (240 : Nat) ({ cls := "AssembleLines$TurnOne", name := "readSecond", desc := "()Z" } : Jvm.MethodName)) ∈ b_Ws := bw_4 (List.mem_of_getElem? (i := 63) rfl) rfl
set_option maxRecDepth 20000 in
theorem w_4_65 : (Jvm.Cond.instanceMethod ({ cls := "AssembleLines$TurnOne", name := "readSecond", desc := "()Z" } : Jvm.MethodName)) ∈ b_Ws := bw_4 (List.mem_of_getElem? (i := 65) rfl) rfl
set_option maxRecDepth 20000 in
theorem w_4_66 : (Jvm.Cond.code ({ cls := "AssembleLines$TurnOne", name := "readSecond", desc := "()Z" } : Jvm.MethodName) prog_13_method_9_code (1 : Nat) (Option.some Jvm.ClassFile.FieldType.boolean)) ∈ b_Ws := bw_4 (List.mem_of_getElem? (i := 66) rfl) rfl
set_option maxRecDepth 20000 in
theorem w_4_67 : (Jvm.Cond.methodLink "AssembleLines$TurnOne" (243 : Nat) ({ cls := "AssembleLines$TurnOne", name := "readToldName", desc := "()Z" } : Jvm.MethodName)) ∈ b_Ws := bw_4 (List.mem_of_getElem? (i := 67) rfl) rfl
set_option maxRecDepth 20000 in
theorem w_4_69 : (Jvm.Cond.instanceMethod ({ cls := "AssembleLines$TurnOne", name := "readToldName", desc := "()Z" } : Jvm.MethodName)) ∈ b_Ws := bw_4 (List.mem_of_getElem? (i := 69) rfl) rfl
set_option maxRecDepth 20000 in
theorem w_4_70 : (Jvm.Cond.code ({ cls := "AssembleLines$TurnOne", name := "readToldName", desc := "()Z" } : Jvm.MethodName) prog_13_method_10_code (1 : Nat) (Option.some Jvm.ClassFile.FieldType.boolean)) ∈ b_Ws := bw_4 (List.mem_of_getElem? (i := 70) rfl) rfl
set_option maxRecDepth 20000 in
theorem w_4_71 : (Jvm.Cond.methodLink "AssembleLines$TurnOne" (246 : Nat) ({ cls := "AssembleLines$Lines", name := "isMade", desc := "()Z" } : Jvm.MethodName)) ∈ b_Ws := bw_4 (List.mem_of_getElem? (i := 71) rfl) rfl
set_option maxRecDepth 20000 in
theorem w_4_72 : (Jvm.Cond.instanceMethod ({ cls := "AssembleLines$Lines", name := "isMade", desc := "()Z" } : Jvm.MethodName)) ∈ b_Ws := bw_4 (List.mem_of_getElem? (i := 72) rfl) rfl
set_option maxRecDepth 20000 in
theorem w_4_73 : (Jvm.Cond.selects "AssembleLines$Lines" ({ cls := "AssembleLines$Lines", name := "isMade", desc := "()Z" } : Jvm.MethodName) ({ cls := "AssembleLines$Lines", name := "isMade", desc := "()Z" } : Jvm.MethodName)) ∈ b_Ws := bw_4 (List.mem_of_getElem? (i := 73) rfl) rfl
set_option maxRecDepth 20000 in
theorem w_4_74 : (Jvm.Cond.code ({ cls := "AssembleLines$Lines", name := "isMade", desc := "()Z" } : Jvm.MethodName) prog_6_method_12_code (1 : Nat) (Option.some Jvm.ClassFile.FieldType.boolean)) ∈ b_Ws := bw_4 (List.mem_of_getElem? (i := 74) rfl) rfl
set_option maxRecDepth 20000 in
theorem w_4_75 : (Jvm.Cond.methodLink "AssembleLines$TurnOne" (249 : Nat) ({ cls := "AssembleLines$Lines", name := "readOperands", desc := "(LAssembleLines$Scanner;)Z" } : Jvm.MethodName)) ∈ b_Ws := bw_4 (List.mem_of_getElem? (i := 75) rfl) rfl
set_option maxRecDepth 20000 in
theorem w_4_76 : (Jvm.Cond.instanceMethod ({ cls := "AssembleLines$Lines", name := "readOperands", desc := "(LAssembleLines$Scanner;)Z" } : Jvm.MethodName)) ∈ b_Ws := bw_4 (List.mem_of_getElem? (i := 76) rfl) rfl
set_option maxRecDepth 20000 in
theorem w_4_77 : (Jvm.Cond.selects "AssembleLines$Lines" ({ cls := "AssembleLines$Lines", name := "readOperands", desc := "(LAssembleLines$Scanner;)Z" } : Jvm.MethodName) ({ cls := "AssembleLines$Lines", name := "readOperands", desc := "(LAssembleLines$Scanner;)Z" } : Jvm.MethodName)) ∈ b_Ws := bw_4 (List.mem_of_getElem? (i := 77) rfl) rfl
set_option maxRecDepth 20000 in
theorem w_4_78 : (Jvm.Cond.code ({ cls := "AssembleLines$Lines", name := "readOperands", desc := "(LAssembleLines$Scanner;)Z" } : Jvm.MethodName) prog_6_method_15_code (2 : Nat) (Option.some Jvm.ClassFile.FieldType.boolean)) ∈ b_Ws := bw_4 (List.mem_of_getElem? (i := 78) rfl) rfl
set_option maxRecDepth 20000 in
theorem w_4_94 : (Jvm.Cond.methodLink "AssembleLines$TurnOne" (268 : Nat) ({ cls := "AssembleLines$Expressions", name := "read", desc := "(LAssembleLines$Scanner;)Z" } : Jvm.MethodName)) ∈ b_Ws := bw_4 (List.mem_of_getElem? (i := 94) rfl) rfl
set_option maxRecDepth 20000 in
theorem w_4_95 : (Jvm.Cond.instanceMethod ({ cls := "AssembleLines$Expressions", name := "read", desc := "(LAssembleLines$Scanner;)Z" } : Jvm.MethodName)) ∈ b_Ws := bw_4 (List.mem_of_getElem? (i := 95) rfl) rfl
set_option maxRecDepth 20000 in
theorem w_4_96 : (Jvm.Cond.selects "AssembleLines$Expressions" ({ cls := "AssembleLines$Expressions", name := "read", desc := "(LAssembleLines$Scanner;)Z" } : Jvm.MethodName) ({ cls := "AssembleLines$Expressions", name := "read", desc := "(LAssembleLines$Scanner;)Z" } : Jvm.MethodName)) ∈ b_Ws := bw_4 (List.mem_of_getElem? (i := 96) rfl) rfl
set_option maxRecDepth 20000 in
theorem w_4_97 : (Jvm.Cond.code ({ cls := "AssembleLines$Expressions", name := "read", desc := "(LAssembleLines$Scanner;)Z" } : Jvm.MethodName) prog_5_method_3_code (5 : Nat) (Option.some Jvm.ClassFile.FieldType.boolean)) ∈ b_Ws := bw_4 (List.mem_of_getElem? (i := 97) rfl) rfl
set_option maxRecDepth 20000 in
theorem w_4_156 : (Jvm.Cond.methodLink "AssembleLines$TurnOne" (274 : Nat) ({ cls := "AssembleLines$Names", name := "find", desc := "(J)I" } : Jvm.MethodName)) ∈ b_Ws := bw_4 (List.mem_of_getElem? (i := 156) rfl) rfl
set_option maxRecDepth 20000 in
theorem w_4_157 : (Jvm.Cond.fieldLink "AssembleLines$TurnOne" (277 : Nat) "AssembleLines$Operation" "SET" "LAssembleLines$Operation;") ∈ b_Ws := bw_4 (List.mem_of_getElem? (i := 157) rfl) rfl
set_option maxRecDepth 20000 in
theorem w_4_159 : (Jvm.Cond.fieldLink "AssembleLines$TurnOne" (280 : Nat) "AssembleLines$Operation" "MACRO" "LAssembleLines$Operation;") ∈ b_Ws := bw_4 (List.mem_of_getElem? (i := 159) rfl) rfl
set_option maxRecDepth 20000 in
theorem w_4_165 : (Jvm.Cond.fieldLink "AssembleLines$TurnOne" (194 : Nat) "AssembleLines$Operation" "SPACE" "LAssembleLines$Operation;") ∈ b_Ws := bw_4 (List.mem_of_getElem? (i := 165) rfl) rfl
set_option maxRecDepth 20000 in
theorem w_4_178 : (Jvm.Cond.methodLink "AssembleLines$TurnOne" (283 : Nat) ({ cls := "AssembleLines$Lines", name := "isTooLong", desc := "()Z" } : Jvm.MethodName)) ∈ b_Ws := bw_4 (List.mem_of_getElem? (i := 178) rfl) rfl
set_option maxRecDepth 20000 in
theorem w_4_179 : (Jvm.Cond.instanceMethod ({ cls := "AssembleLines$Lines", name := "isTooLong", desc := "()Z" } : Jvm.MethodName)) ∈ b_Ws := bw_4 (List.mem_of_getElem? (i := 179) rfl) rfl
set_option maxRecDepth 20000 in
theorem w_4_180 : (Jvm.Cond.selects "AssembleLines$Lines" ({ cls := "AssembleLines$Lines", name := "isTooLong", desc := "()Z" } : Jvm.MethodName) ({ cls := "AssembleLines$Lines", name := "isTooLong", desc := "()Z" } : Jvm.MethodName)) ∈ b_Ws := bw_4 (List.mem_of_getElem? (i := 180) rfl) rfl
set_option maxRecDepth 20000 in
theorem w_4_181 : (Jvm.Cond.code ({ cls := "AssembleLines$Lines", name := "isTooLong", desc := "()Z" } : Jvm.MethodName) prog_6_method_13_code (1 : Nat) (Option.some Jvm.ClassFile.FieldType.boolean)) ∈ b_Ws := bw_4 (List.mem_of_getElem? (i := 181) rfl) rfl
set_option maxRecDepth 20000 in
theorem w_4_182 : (Jvm.Cond.methodLink "AssembleLines$TurnOne" (286 : Nat) ({ cls := "AssembleLines$Lines", name := "isFull", desc := "()Z" } : Jvm.MethodName)) ∈ b_Ws := bw_4 (List.mem_of_getElem? (i := 182) rfl) rfl
set_option maxRecDepth 20000 in
theorem w_4_186 : (Jvm.Cond.methodLink "AssembleLines$TurnOne" (289 : Nat) ({ cls := "AssembleLines$Names", name := "isFull", desc := "()Z" } : Jvm.MethodName)) ∈ b_Ws := bw_4 (List.mem_of_getElem? (i := 186) rfl) rfl
set_option maxRecDepth 20000 in
theorem w_4_187 : (Jvm.Cond.instanceMethod ({ cls := "AssembleLines$Names", name := "isFull", desc := "()Z" } : Jvm.MethodName)) ∈ b_Ws := bw_4 (List.mem_of_getElem? (i := 187) rfl) rfl
set_option maxRecDepth 20000 in
theorem w_4_188 : (Jvm.Cond.selects "AssembleLines$Names" ({ cls := "AssembleLines$Names", name := "isFull", desc := "()Z" } : Jvm.MethodName) ({ cls := "AssembleLines$Names", name := "isFull", desc := "()Z" } : Jvm.MethodName)) ∈ b_Ws := bw_4 (List.mem_of_getElem? (i := 188) rfl) rfl
set_option maxRecDepth 20000 in
theorem w_4_189 : (Jvm.Cond.code ({ cls := "AssembleLines$Names", name := "isFull", desc := "()Z" } : Jvm.MethodName) prog_8_method_5_code (1 : Nat) (Option.some Jvm.ClassFile.FieldType.boolean)) ∈ b_Ws := bw_4 (List.mem_of_getElem? (i := 189) rfl) rfl
set_option maxRecDepth 20000 in
theorem w_4_190 : (Jvm.Cond.methodLink "AssembleLines$TurnOne" (290 : Nat) ({ cls := "AssembleLines$Macros", name := "isFull", desc := "()Z" } : Jvm.MethodName)) ∈ b_Ws := bw_4 (List.mem_of_getElem? (i := 190) rfl) rfl
set_option maxRecDepth 20000 in
theorem w_4_191 : (Jvm.Cond.instanceMethod ({ cls := "AssembleLines$Macros", name := "isFull", desc := "()Z" } : Jvm.MethodName)) ∈ b_Ws := bw_4 (List.mem_of_getElem? (i := 191) rfl) rfl
set_option maxRecDepth 20000 in
theorem w_4_192 : (Jvm.Cond.selects "AssembleLines$Macros" ({ cls := "AssembleLines$Macros", name := "isFull", desc := "()Z" } : Jvm.MethodName) ({ cls := "AssembleLines$Macros", name := "isFull", desc := "()Z" } : Jvm.MethodName)) ∈ b_Ws := bw_4 (List.mem_of_getElem? (i := 192) rfl) rfl
set_option maxRecDepth 20000 in
theorem w_4_193 : (Jvm.Cond.code ({ cls := "AssembleLines$Macros", name := "isFull", desc := "()Z" } : Jvm.MethodName) prog_7_method_3_code (1 : Nat) (Option.some Jvm.ClassFile.FieldType.boolean)) ∈ b_Ws := bw_4 (List.mem_of_getElem? (i := 193) rfl) rfl
set_option maxRecDepth 20000 in
theorem w_4_194 : (Jvm.Cond.methodLink "AssembleLines$TurnOne" (291 : Nat) ({ cls := "AssembleLines$TurnOne", name := "isStatement", desc := "()Z" } : Jvm.MethodName)) ∈ b_Ws := bw_4 (List.mem_of_getElem? (i := 194) rfl) rfl
set_option maxRecDepth 20000 in
theorem w_4_196 : (Jvm.Cond.instanceMethod ({ cls := "AssembleLines$TurnOne", name := "isStatement", desc := "()Z" } : Jvm.MethodName)) ∈ b_Ws := bw_4 (List.mem_of_getElem? (i := 196) rfl) rfl
set_option maxRecDepth 20000 in
theorem w_4_197 : (Jvm.Cond.code ({ cls := "AssembleLines$TurnOne", name := "isStatement", desc := "()Z" } : Jvm.MethodName) prog_13_method_16_code (1 : Nat) (Option.some Jvm.ClassFile.FieldType.boolean)) ∈ b_Ws := bw_4 (List.mem_of_getElem? (i := 197) rfl) rfl
set_option maxRecDepth 20000 in
theorem w_4_198 : (Jvm.Cond.methodLink "AssembleLines$TurnOne" (294 : Nat) ({ cls := "AssembleLines$Program", name := "isFull", desc := "()Z" } : Jvm.MethodName)) ∈ b_Ws := bw_4 (List.mem_of_getElem? (i := 198) rfl) rfl
set_option maxRecDepth 20000 in
theorem w_4_199 : (Jvm.Cond.instanceMethod ({ cls := "AssembleLines$Program", name := "isFull", desc := "()Z" } : Jvm.MethodName)) ∈ b_Ws := bw_4 (List.mem_of_getElem? (i := 199) rfl) rfl
set_option maxRecDepth 20000 in
theorem w_4_200 : (Jvm.Cond.selects "AssembleLines$Program" ({ cls := "AssembleLines$Program", name := "isFull", desc := "()Z" } : Jvm.MethodName) ({ cls := "AssembleLines$Program", name := "isFull", desc := "()Z" } : Jvm.MethodName)) ∈ b_Ws := bw_4 (List.mem_of_getElem? (i := 200) rfl) rfl
set_option maxRecDepth 20000 in
theorem w_4_201 : (Jvm.Cond.code ({ cls := "AssembleLines$Program", name := "isFull", desc := "()Z" } : Jvm.MethodName) prog_10_method_4_code (1 : Nat) (Option.some Jvm.ClassFile.FieldType.boolean)) ∈ b_Ws := bw_4 (List.mem_of_getElem? (i := 201) rfl) rfl
set_option maxRecDepth 20000 in
theorem w_4_206 : (Jvm.Cond.methodLink "AssembleLines$TurnOne" (297 : Nat) ({ cls := "AssembleLines$Expressions", name := "cut", desc := "(I)V" } : Jvm.MethodName)) ∈ b_Ws := bw_4 (List.mem_of_getElem? (i := 206) rfl) rfl
set_option maxRecDepth 20000 in
theorem w_4_222 : (Jvm.Cond.methodLink "AssembleLines$TurnOne" (313 : Nat) ({ cls := "AssembleLines$TurnOne", name := "pass", desc := "(Z)V" } : Jvm.MethodName)) ∈ b_Ws := bw_4 (List.mem_of_getElem? (i := 222) rfl) rfl
set_option maxRecDepth 20000 in
theorem w_4_224 : (Jvm.Cond.instanceMethod ({ cls := "AssembleLines$TurnOne", name := "pass", desc := "(Z)V" } : Jvm.MethodName)) ∈ b_Ws := bw_4 (List.mem_of_getElem? (i := 224) rfl) rfl
set_option maxRecDepth 20000 in
theorem w_4_225 : (Jvm.Cond.code ({ cls := "AssembleLines$TurnOne", name := "pass", desc := "(Z)V" } : Jvm.MethodName) prog_13_method_19_code (2 : Nat) (Option.none : Option Jvm.ClassFile.FieldType)) ∈ b_Ws := bw_4 (List.mem_of_getElem? (i := 225) rfl) rfl
set_option maxRecDepth 20000 in
theorem w_5_26 : (Jvm.Cond.methodLink "AssembleLines$Program" (61 : Nat) ({ cls := "AssembleLines$Program", name := "isFull", desc := "()Z" } : Jvm.MethodName)) ∈ b_Ws := bw_5 (List.mem_of_getElem? (i := 26) rfl) rfl
set_option maxRecDepth 20000 in
theorem w_5_31 : (Jvm.Cond.methodLink "AssembleLines$TurnOne" (119 : Nat) ({ cls := "AssembleLines$Errors", name := "tell", desc := "(II)V" } : Jvm.MethodName)) ∈ b_Ws := bw_5 (List.mem_of_getElem? (i := 31) rfl) rfl
set_option maxRecDepth 20000 in
theorem w_5_32 : (Jvm.Cond.instanceMethod ({ cls := "AssembleLines$Errors", name := "tell", desc := "(II)V" } : Jvm.MethodName)) ∈ b_Ws := bw_5 (List.mem_of_getElem? (i := 32) rfl) rfl
set_option maxRecDepth 20000 in
theorem w_5_33 : (Jvm.Cond.selects "AssembleLines$Errors" ({ cls := "AssembleLines$Errors", name := "tell", desc := "(II)V" } : Jvm.MethodName) ({ cls := "AssembleLines$Errors", name := "tell", desc := "(II)V" } : Jvm.MethodName)) ∈ b_Ws := bw_5 (List.mem_of_getElem? (i := 33) rfl) rfl
set_option maxRecDepth 20000 in
theorem w_5_34 : (Jvm.Cond.code ({ cls := "AssembleLines$Errors", name := "tell", desc := "(II)V" } : Jvm.MethodName) prog_4_method_3_code (3 : Nat) (Option.none : Option Jvm.ClassFile.FieldType)) ∈ b_Ws := bw_5 (List.mem_of_getElem? (i := 34) rfl) rfl
set_option maxRecDepth 20000 in
theorem w_8_1 : (Jvm.Cond.fieldLink "AssembleLines$TurnOne" (265 : Nat) "AssembleLines$Operation" "most" "I") ∈ b_Ws := bw_8 (List.mem_of_getElem? (i := 1) rfl) rfl
set_option maxRecDepth 20000 in
theorem w_8_2 : (Jvm.Cond.fieldLink "AssembleLines$TurnOne" (295 : Nat) "AssembleLines$Operation" "isStatement" "Z") ∈ b_Ws := bw_8 (List.mem_of_getElem? (i := 2) rfl) rfl
theorem dX8_isFull_0 : decode cX8_isFull 0 = .ok (.aload_n 0, 1) := by decide +kernel
theorem dX8_isFull_1 : decode cX8_isFull 1 = .ok (.getfield 45, 3) := by decide +kernel
theorem dX8_isFull_4 : decode cX8_isFull 4 = .ok (.sipush 400, 3) := by decide +kernel
theorem dX8_isFull_7 : decode cX8_isFull 7 = .ok (.if_icmp .lt 7, 3) := by decide +kernel
theorem dX8_isFull_10 : decode cX8_isFull 10 = .ok (.iconst 1, 1) := by decide +kernel
theorem dX8_isFull_11 : decode cX8_isFull 11 = .ok (.goto 4, 3) := by decide +kernel
theorem dX8_isFull_14 : decode cX8_isFull 14 = .ok (.iconst 0, 1) := by decide +kernel
theorem dX8_isFull_15 : decode cX8_isFull 15 = .ok (.ireturn, 1) := by decide +kernel
theorem dX8_keepDraft_0 : decode cX8_keepDraft 0 = .ok (.aload_n 0, 1) := by decide +kernel
theorem dX8_keepDraft_1 : decode cX8_keepDraft 1 = .ok (.invokevirtual 61, 3) := by decide +kernel
theorem dX8_keepDraft_4 : decode cX8_keepDraft 4 = .ok (.ifCond .ne 13, 3) := by decide +kernel
theorem dX8_keepDraft_7 : decode cX8_keepDraft 7 = .ok (.aload_n 0, 1) := by decide +kernel
theorem dX8_keepDraft_8 : decode cX8_keepDraft 8 = .ok (.dup, 1) := by decide +kernel
theorem dX8_keepDraft_9 : decode cX8_keepDraft 9 = .ok (.getfield 45, 3) := by decide +kernel
theorem dX8_keepDraft_12 : decode cX8_keepDraft 12 = .ok (.iconst 1, 1) := by decide +kernel
theorem dX8_keepDraft_13 : decode cX8_keepDraft 13 = .ok (.iadd, 1) := by decide +kernel
theorem dX8_keepDraft_14 : decode cX8_keepDraft 14 = .ok (.putfield 45, 3) := by decide +kernel
theorem dX8_keepDraft_17 : decode cX8_keepDraft 17 = .ok (.return_, 1) := by decide +kernel
theorem dX11_readRegister_0 : decode cX11_readRegister 0 = .ok (.aload_n 0, 1) := by decide +kernel
theorem dX11_readRegister_1 : decode cX11_readRegister 1 = .ok (.getfield 12, 3) := by decide +kernel
theorem dX11_readRegister_4 : decode cX11_readRegister 4 = .ok (.invokevirtual 253, 3) := by decide +kernel
theorem dX11_readRegister_7 : decode cX11_readRegister 7 = .ok (.aload_n 0, 1) := by decide +kernel
theorem dX11_readRegister_8 : decode cX11_readRegister 8 = .ok (.getfield 65, 3) := by decide +kernel
theorem dX11_readRegister_11 : decode cX11_readRegister 11 = .ok (.aload_n 0, 1) := by decide +kernel
theorem dX11_readRegister_12 : decode cX11_readRegister 12 = .ok (.getfield 12, 3) := by decide +kernel
theorem dX11_readRegister_15 : decode cX11_readRegister 15 = .ok (.invokevirtual 256, 3) := by decide +kernel
theorem dX11_readRegister_18 : decode cX11_readRegister 18 = .ok (.invokestatic 208, 3) := by decide +kernel
theorem dX11_readRegister_21 : decode cX11_readRegister 21 = .ok (.putfield 259, 3) := by decide +kernel
theorem dX11_readRegister_24 : decode cX11_readRegister 24 = .ok (.aload_n 0, 1) := by decide +kernel
theorem dX11_readRegister_25 : decode cX11_readRegister 25 = .ok (.getfield 65, 3) := by decide +kernel
theorem dX11_readRegister_28 : decode cX11_readRegister 28 = .ok (.getfield 259, 3) := by decide +kernel
theorem dX11_readRegister_31 : decode cX11_readRegister 31 = .ok (.iconst (-1), 1) := by decide +kernel
theorem dX11_readRegister_32 : decode cX11_readRegister 32 = .ok (.if_icmp .eq 7, 3) := by decide +kernel
theorem dX11_readRegister_35 : decode cX11_readRegister 35 = .ok (.iconst 1, 1) := by decide +kernel
theorem dX11_readRegister_36 : decode cX11_readRegister 36 = .ok (.goto 4, 3) := by decide +kernel
theorem dX11_readRegister_39 : decode cX11_readRegister 39 = .ok (.iconst 0, 1) := by decide +kernel
theorem dX11_readRegister_40 : decode cX11_readRegister 40 = .ok (.ireturn, 1) := by decide +kernel
theorem dX11_readSecond_0 : decode cX11_readSecond 0 = .ok (.aload_n 0, 1) := by decide +kernel
theorem dX11_readSecond_1 : decode cX11_readSecond 1 = .ok (.getfield 12, 3) := by decide +kernel
theorem dX11_readSecond_4 : decode cX11_readSecond 4 = .ok (.invokevirtual 253, 3) := by decide +kernel
theorem dX11_readSecond_7 : decode cX11_readSecond 7 = .ok (.aload_n 0, 1) := by decide +kernel
theorem dX11_readSecond_8 : decode cX11_readSecond 8 = .ok (.getfield 65, 3) := by decide +kernel
theorem dX11_readSecond_11 : decode cX11_readSecond 11 = .ok (.aload_n 0, 1) := by decide +kernel
theorem dX11_readSecond_12 : decode cX11_readSecond 12 = .ok (.getfield 12, 3) := by decide +kernel
theorem dX11_readSecond_15 : decode cX11_readSecond 15 = .ok (.invokevirtual 256, 3) := by decide +kernel
theorem dX11_readSecond_18 : decode cX11_readSecond 18 = .ok (.invokestatic 208, 3) := by decide +kernel
theorem dX11_readSecond_21 : decode cX11_readSecond 21 = .ok (.putfield 262, 3) := by decide +kernel
theorem dX11_readSecond_24 : decode cX11_readSecond 24 = .ok (.aload_n 0, 1) := by decide +kernel
theorem dX11_readSecond_25 : decode cX11_readSecond 25 = .ok (.getfield 65, 3) := by decide +kernel
theorem dX11_readSecond_28 : decode cX11_readSecond 28 = .ok (.getfield 262, 3) := by decide +kernel
theorem dX11_readSecond_31 : decode cX11_readSecond 31 = .ok (.iconst (-1), 1) := by decide +kernel
theorem dX11_readSecond_32 : decode cX11_readSecond 32 = .ok (.if_icmp .eq 7, 3) := by decide +kernel
theorem dX11_readSecond_35 : decode cX11_readSecond 35 = .ok (.iconst 1, 1) := by decide +kernel
theorem dX11_readSecond_36 : decode cX11_readSecond 36 = .ok (.goto 4, 3) := by decide +kernel
theorem dX11_readSecond_39 : decode cX11_readSecond 39 = .ok (.iconst 0, 1) := by decide +kernel
theorem dX11_readSecond_40 : decode cX11_readSecond 40 = .ok (.ireturn, 1) := by decide +kernel
theorem dX11_readToldName_0 : decode cX11_readToldName 0 = .ok (.aload_n 0, 1) := by decide +kernel
theorem dX11_readToldName_1 : decode cX11_readToldName 1 = .ok (.getfield 12, 3) := by decide +kernel
theorem dX11_readToldName_4 : decode cX11_readToldName 4 = .ok (.invokevirtual 253, 3) := by decide +kernel
theorem dX11_readToldName_7 : decode cX11_readToldName 7 = .ok (.aload_n 0, 1) := by decide +kernel
theorem dX11_readToldName_8 : decode cX11_readToldName 8 = .ok (.aload_n 0, 1) := by decide +kernel
theorem dX11_readToldName_9 : decode cX11_readToldName 9 = .ok (.getfield 12, 3) := by decide +kernel
theorem dX11_readToldName_12 : decode cX11_readToldName 12 = .ok (.invokevirtual 256, 3) := by decide +kernel
theorem dX11_readToldName_15 : decode cX11_readToldName 15 = .ok (.putfield 151, 3) := by decide +kernel
theorem dX11_readToldName_18 : decode cX11_readToldName 18 = .ok (.aload_n 0, 1) := by decide +kernel
theorem dX11_readToldName_19 : decode cX11_readToldName 19 = .ok (.getfield 151, 3) := by decide +kernel
theorem dX11_readToldName_22 : decode cX11_readToldName 22 = .ok (.lconst 0, 1) := by decide +kernel
theorem dX11_readToldName_23 : decode cX11_readToldName 23 = .ok (.lcmp, 1) := by decide +kernel
theorem dX11_readToldName_24 : decode cX11_readToldName 24 = .ok (.ifCond .eq 7, 3) := by decide +kernel
theorem dX11_readToldName_27 : decode cX11_readToldName 27 = .ok (.iconst 1, 1) := by decide +kernel
theorem dX11_readToldName_28 : decode cX11_readToldName 28 = .ok (.goto 4, 3) := by decide +kernel
theorem dX11_readToldName_31 : decode cX11_readToldName 31 = .ok (.iconst 0, 1) := by decide +kernel
theorem dX11_readToldName_32 : decode cX11_readToldName 32 = .ok (.ireturn, 1) := by decide +kernel
theorem dX11_readHead_0 : decode cX11_readHead 0 = .ok (.aload_n 0, 1) := by decide +kernel
theorem dX11_readHead_1 : decode cX11_readHead 1 = .ok (.aload_n 0, 1) := by decide +kernel
theorem dX11_readHead_2 : decode cX11_readHead 2 = .ok (.getfield 12, 3) := by decide +kernel
theorem dX11_readHead_5 : decode cX11_readHead 5 = .ok (.invokevirtual 128, 3) := by decide +kernel
theorem dX11_readHead_8 : decode cX11_readHead 8 = .ok (.putfield 147, 3) := by decide +kernel
theorem dX11_readHead_11 : decode cX11_readHead 11 = .ok (.aload_n 0, 1) := by decide +kernel
theorem dX11_readHead_12 : decode cX11_readHead 12 = .ok (.getfield 147, 3) := by decide +kernel
theorem dX11_readHead_15 : decode cX11_readHead 15 = .ok (.ldc2_w 132, 3) := by decide +kernel
theorem dX11_readHead_18 : decode cX11_readHead 18 = .ok (.lcmp, 1) := by decide +kernel
theorem dX11_readHead_19 : decode cX11_readHead 19 = .ok (.ifCond .eq 14, 3) := by decide +kernel
theorem dX11_readHead_22 : decode cX11_readHead 22 = .ok (.aload_n 0, 1) := by decide +kernel
theorem dX11_readHead_23 : decode cX11_readHead 23 = .ok (.getfield 147, 3) := by decide +kernel
theorem dX11_readHead_26 : decode cX11_readHead 26 = .ok (.invokestatic 208, 3) := by decide +kernel
theorem dX11_readHead_29 : decode cX11_readHead 29 = .ok (.iconst (-1), 1) := by decide +kernel
theorem dX11_readHead_30 : decode cX11_readHead 30 = .ok (.if_icmp .eq 5, 3) := by decide +kernel
theorem dX11_readHead_33 : decode cX11_readHead 33 = .ok (.iconst 0, 1) := by decide +kernel
theorem dX11_readHead_34 : decode cX11_readHead 34 = .ok (.ireturn, 1) := by decide +kernel
theorem dX11_readHead_35 : decode cX11_readHead 35 = .ok (.aload_n 0, 1) := by decide +kernel
theorem dX11_readHead_36 : decode cX11_readHead 36 = .ok (.getfield 12, 3) := by decide +kernel
theorem dX11_readHead_39 : decode cX11_readHead 39 = .ok (.invokevirtual 182, 3) := by decide +kernel
theorem dX11_readHead_42 : decode cX11_readHead 42 = .ok (.ifCond .eq 5, 3) := by decide +kernel
theorem dX11_readHead_45 : decode cX11_readHead 45 = .ok (.iconst 1, 1) := by decide +kernel
theorem dX11_readHead_46 : decode cX11_readHead 46 = .ok (.ireturn, 1) := by decide +kernel
theorem dX11_readHead_47 : decode cX11_readHead 47 = .ok (.aload_n 0, 1) := by decide +kernel
theorem dX11_readHead_48 : decode cX11_readHead 48 = .ok (.getfield 12, 3) := by decide +kernel
theorem dX11_readHead_51 : decode cX11_readHead 51 = .ok (.invokevirtual 134, 3) := by decide +kernel
theorem dX11_readHead_54 : decode cX11_readHead 54 = .ok (.ifCond .ne 5, 3) := by decide +kernel
theorem dX11_readHead_57 : decode cX11_readHead 57 = .ok (.iconst 0, 1) := by decide +kernel
theorem dX11_readHead_58 : decode cX11_readHead 58 = .ok (.ireturn, 1) := by decide +kernel
theorem dX11_readHead_59 : decode cX11_readHead 59 = .ok (.aload_n 0, 1) := by decide +kernel
theorem dX11_readHead_60 : decode cX11_readHead 60 = .ok (.aload_n 0, 1) := by decide +kernel
theorem dX11_readHead_61 : decode cX11_readHead 61 = .ok (.getfield 12, 3) := by decide +kernel
theorem dX11_readHead_64 : decode cX11_readHead 64 = .ok (.invokestatic 137, 3) := by decide +kernel
theorem dX11_readHead_67 : decode cX11_readHead 67 = .ok (.putfield 38, 3) := by decide +kernel
theorem dX11_readHead_70 : decode cX11_readHead 70 = .ok (.aload_n 0, 1) := by decide +kernel
theorem dX11_readHead_71 : decode cX11_readHead 71 = .ok (.aload_n 0, 1) := by decide +kernel
theorem dX11_readHead_72 : decode cX11_readHead 72 = .ok (.getfield 21, 3) := by decide +kernel
theorem dX11_readHead_75 : decode cX11_readHead 75 = .ok (.aload_n 0, 1) := by decide +kernel
theorem dX11_readHead_76 : decode cX11_readHead 76 = .ok (.getfield 12, 3) := by decide +kernel
theorem dX11_readHead_79 : decode cX11_readHead 79 = .ok (.getfield 212, 3) := by decide +kernel
theorem dX11_readHead_82 : decode cX11_readHead 82 = .ok (.invokevirtual 215, 3) := by decide +kernel
theorem dX11_readHead_85 : decode cX11_readHead 85 = .ok (.putfield 218, 3) := by decide +kernel
theorem dX11_readHead_88 : decode cX11_readHead 88 = .ok (.aload_n 0, 1) := by decide +kernel
theorem dX11_readHead_89 : decode cX11_readHead 89 = .ok (.getfield 38, 3) := by decide +kernel
theorem dX11_readHead_92 : decode cX11_readHead 92 = .ok (.getstatic 173, 3) := by decide +kernel
theorem dX11_readHead_95 : decode cX11_readHead 95 = .ok (.if_acmp .ne 18, 3) := by decide +kernel
theorem dX11_readHead_98 : decode cX11_readHead 98 = .ok (.aload_n 0, 1) := by decide +kernel
theorem dX11_readHead_99 : decode cX11_readHead 99 = .ok (.getfield 218, 3) := by decide +kernel
theorem dX11_readHead_102 : decode cX11_readHead 102 = .ok (.iconst (-1), 1) := by decide +kernel
theorem dX11_readHead_103 : decode cX11_readHead 103 = .ok (.if_icmp .eq 10, 3) := by decide +kernel
theorem dX11_readHead_106 : decode cX11_readHead 106 = .ok (.aload_n 0, 1) := by decide +kernel
theorem dX11_readHead_107 : decode cX11_readHead 107 = .ok (.getstatic 221, 3) := by decide +kernel
theorem dX11_readHead_110 : decode cX11_readHead 110 = .ok (.putfield 38, 3) := by decide +kernel
theorem dX11_readHead_113 : decode cX11_readHead 113 = .ok (.iconst 1, 1) := by decide +kernel
theorem dX11_readHead_114 : decode cX11_readHead 114 = .ok (.ireturn, 1) := by decide +kernel
theorem dX11_readAhead_0 : decode cX11_readAhead 0 = .ok (.getstatic 224, 3) := by decide +kernel
theorem dX11_readAhead_3 : decode cX11_readAhead 3 = .ok (.aload_n 0, 1) := by decide +kernel
theorem dX11_readAhead_4 : decode cX11_readAhead 4 = .ok (.getfield 38, 3) := by decide +kernel
theorem dX11_readAhead_7 : decode cX11_readAhead 7 = .ok (.invokevirtual 230, 3) := by decide +kernel
theorem dX11_readAhead_10 : decode cX11_readAhead 10 = .ok (.iaload, 1) := by decide +kernel
theorem dX11_readAhead_11 : decode cX11_readAhead 11 = .ok (.tableswitch 225 1 9 #[49, 49, 74, 111, 111, 143, 179, 211, 223], 49) := by decide +kernel
theorem dX11_readAhead_60 : decode cX11_readAhead 60 = .ok (.aload_n 0, 1) := by decide +kernel
theorem dX11_readAhead_61 : decode cX11_readAhead 61 = .ok (.invokevirtual 233, 3) := by decide +kernel
theorem dX11_readAhead_64 : decode cX11_readAhead 64 = .ok (.ifCond .eq 19, 3) := by decide +kernel
theorem dX11_readAhead_67 : decode cX11_readAhead 67 = .ok (.aload_n 0, 1) := by decide +kernel
theorem dX11_readAhead_68 : decode cX11_readAhead 68 = .ok (.getfield 12, 3) := by decide +kernel
theorem dX11_readAhead_71 : decode cX11_readAhead 71 = .ok (.bipush 44, 2) := by decide +kernel
theorem dX11_readAhead_73 : decode cX11_readAhead 73 = .ok (.invokevirtual 236, 3) := by decide +kernel
theorem dX11_readAhead_76 : decode cX11_readAhead 76 = .ok (.ifCond .eq 7, 3) := by decide +kernel
theorem dX11_readAhead_79 : decode cX11_readAhead 79 = .ok (.iconst 1, 1) := by decide +kernel
theorem dX11_readAhead_80 : decode cX11_readAhead 80 = .ok (.goto 4, 3) := by decide +kernel
theorem dX11_readAhead_83 : decode cX11_readAhead 83 = .ok (.iconst 0, 1) := by decide +kernel
theorem dX11_readAhead_84 : decode cX11_readAhead 84 = .ok (.ireturn, 1) := by decide +kernel
theorem dX11_readAhead_85 : decode cX11_readAhead 85 = .ok (.aload_n 0, 1) := by decide +kernel
theorem dX11_readAhead_86 : decode cX11_readAhead 86 = .ok (.invokevirtual 233, 3) := by decide +kernel
theorem dX11_readAhead_89 : decode cX11_readAhead 89 = .ok (.ifCond .eq 31, 3) := by decide +kernel
theorem dX11_readAhead_92 : decode cX11_readAhead 92 = .ok (.aload_n 0, 1) := by decide +kernel
theorem dX11_readAhead_93 : decode cX11_readAhead 93 = .ok (.getfield 12, 3) := by decide +kernel
theorem dX11_readAhead_96 : decode cX11_readAhead 96 = .ok (.bipush 44, 2) := by decide +kernel
theorem dX11_readAhead_98 : decode cX11_readAhead 98 = .ok (.invokevirtual 236, 3) := by decide +kernel
theorem dX11_readAhead_101 : decode cX11_readAhead 101 = .ok (.ifCond .eq 19, 3) := by decide +kernel
theorem dX11_readAhead_104 : decode cX11_readAhead 104 = .ok (.aload_n 0, 1) := by decide +kernel
theorem dX11_readAhead_105 : decode cX11_readAhead 105 = .ok (.getfield 12, 3) := by decide +kernel
theorem dX11_readAhead_108 : decode cX11_readAhead 108 = .ok (.bipush 61, 2) := by decide +kernel
theorem dX11_readAhead_110 : decode cX11_readAhead 110 = .ok (.invokevirtual 236, 3) := by decide +kernel
theorem dX11_readAhead_113 : decode cX11_readAhead 113 = .ok (.ifCond .eq 7, 3) := by decide +kernel
theorem dX11_readAhead_116 : decode cX11_readAhead 116 = .ok (.iconst 1, 1) := by decide +kernel
theorem dX11_readAhead_117 : decode cX11_readAhead 117 = .ok (.goto 4, 3) := by decide +kernel
theorem dX11_readAhead_120 : decode cX11_readAhead 120 = .ok (.iconst 0, 1) := by decide +kernel
theorem dX11_readAhead_121 : decode cX11_readAhead 121 = .ok (.ireturn, 1) := by decide +kernel
theorem dX11_readAhead_122 : decode cX11_readAhead 122 = .ok (.aload_n 0, 1) := by decide +kernel
theorem dX11_readAhead_123 : decode cX11_readAhead 123 = .ok (.invokevirtual 233, 3) := by decide +kernel
theorem dX11_readAhead_126 : decode cX11_readAhead 126 = .ok (.ifCond .eq 26, 3) := by decide +kernel
theorem dX11_readAhead_129 : decode cX11_readAhead 129 = .ok (.aload_n 0, 1) := by decide +kernel
theorem dX11_readAhead_130 : decode cX11_readAhead 130 = .ok (.getfield 12, 3) := by decide +kernel
theorem dX11_readAhead_133 : decode cX11_readAhead 133 = .ok (.bipush 44, 2) := by decide +kernel
theorem dX11_readAhead_135 : decode cX11_readAhead 135 = .ok (.invokevirtual 236, 3) := by decide +kernel
theorem dX11_readAhead_138 : decode cX11_readAhead 138 = .ok (.ifCond .eq 14, 3) := by decide +kernel
theorem dX11_readAhead_141 : decode cX11_readAhead 141 = .ok (.aload_n 0, 1) := by decide +kernel
theorem dX11_readAhead_142 : decode cX11_readAhead 142 = .ok (.invokevirtual 240, 3) := by decide +kernel
theorem dX11_readAhead_145 : decode cX11_readAhead 145 = .ok (.ifCond .eq 7, 3) := by decide +kernel
theorem dX11_readAhead_148 : decode cX11_readAhead 148 = .ok (.iconst 1, 1) := by decide +kernel
theorem dX11_readAhead_149 : decode cX11_readAhead 149 = .ok (.goto 4, 3) := by decide +kernel
theorem dX11_readAhead_152 : decode cX11_readAhead 152 = .ok (.iconst 0, 1) := by decide +kernel
theorem dX11_readAhead_153 : decode cX11_readAhead 153 = .ok (.ireturn, 1) := by decide +kernel
theorem dX11_readAhead_154 : decode cX11_readAhead 154 = .ok (.aload_n 0, 1) := by decide +kernel
theorem dX11_readAhead_155 : decode cX11_readAhead 155 = .ok (.invokevirtual 243, 3) := by decide +kernel
theorem dX11_readAhead_158 : decode cX11_readAhead 158 = .ok (.ifCond .eq 30, 3) := by decide +kernel
theorem dX11_readAhead_161 : decode cX11_readAhead 161 = .ok (.aload_n 0, 1) := by decide +kernel
theorem dX11_readAhead_162 : decode cX11_readAhead 162 = .ok (.getfield 151, 3) := by decide +kernel
theorem dX11_readAhead_165 : decode cX11_readAhead 165 = .ok (.invokestatic 208, 3) := by decide +kernel
theorem dX11_readAhead_168 : decode cX11_readAhead 168 = .ok (.iconst (-1), 1) := by decide +kernel
theorem dX11_readAhead_169 : decode cX11_readAhead 169 = .ok (.if_icmp .ne 19, 3) := by decide +kernel
theorem dX11_readAhead_172 : decode cX11_readAhead 172 = .ok (.aload_n 0, 1) := by decide +kernel
theorem dX11_readAhead_173 : decode cX11_readAhead 173 = .ok (.getfield 12, 3) := by decide +kernel
theorem dX11_readAhead_176 : decode cX11_readAhead 176 = .ok (.bipush 44, 2) := by decide +kernel
theorem dX11_readAhead_178 : decode cX11_readAhead 178 = .ok (.invokevirtual 236, 3) := by decide +kernel
theorem dX11_readAhead_181 : decode cX11_readAhead 181 = .ok (.ifCond .eq 7, 3) := by decide +kernel
theorem dX11_readAhead_184 : decode cX11_readAhead 184 = .ok (.iconst 1, 1) := by decide +kernel
theorem dX11_readAhead_185 : decode cX11_readAhead 185 = .ok (.goto 4, 3) := by decide +kernel
theorem dX11_readAhead_188 : decode cX11_readAhead 188 = .ok (.iconst 0, 1) := by decide +kernel
theorem dX11_readAhead_189 : decode cX11_readAhead 189 = .ok (.ireturn, 1) := by decide +kernel
theorem dX11_readAhead_190 : decode cX11_readAhead 190 = .ok (.aload_n 0, 1) := by decide +kernel
theorem dX11_readAhead_191 : decode cX11_readAhead 191 = .ok (.getfield 147, 3) := by decide +kernel
theorem dX11_readAhead_194 : decode cX11_readAhead 194 = .ok (.lconst 0, 1) := by decide +kernel
theorem dX11_readAhead_195 : decode cX11_readAhead 195 = .ok (.lcmp, 1) := by decide +kernel
theorem dX11_readAhead_196 : decode cX11_readAhead 196 = .ok (.ifCond .ne 24, 3) := by decide +kernel
theorem dX11_readAhead_199 : decode cX11_readAhead 199 = .ok (.aload_n 0, 1) := by decide +kernel
theorem dX11_readAhead_200 : decode cX11_readAhead 200 = .ok (.getfield 28, 3) := by decide +kernel
theorem dX11_readAhead_203 : decode cX11_readAhead 203 = .ok (.invokevirtual 246, 3) := by decide +kernel
theorem dX11_readAhead_206 : decode cX11_readAhead 206 = .ok (.ifCond .ne 14, 3) := by decide +kernel
theorem dX11_readAhead_209 : decode cX11_readAhead 209 = .ok (.aload_n 0, 1) := by decide +kernel
theorem dX11_readAhead_210 : decode cX11_readAhead 210 = .ok (.invokevirtual 243, 3) := by decide +kernel
theorem dX11_readAhead_213 : decode cX11_readAhead 213 = .ok (.ifCond .eq 7, 3) := by decide +kernel
theorem dX11_readAhead_216 : decode cX11_readAhead 216 = .ok (.iconst 1, 1) := by decide +kernel
theorem dX11_readAhead_217 : decode cX11_readAhead 217 = .ok (.goto 4, 3) := by decide +kernel
theorem dX11_readAhead_220 : decode cX11_readAhead 220 = .ok (.iconst 0, 1) := by decide +kernel
theorem dX11_readAhead_221 : decode cX11_readAhead 221 = .ok (.ireturn, 1) := by decide +kernel
theorem dX11_readAhead_222 : decode cX11_readAhead 222 = .ok (.aload_n 0, 1) := by decide +kernel
theorem dX11_readAhead_223 : decode cX11_readAhead 223 = .ok (.getfield 28, 3) := by decide +kernel
theorem dX11_readAhead_226 : decode cX11_readAhead 226 = .ok (.aload_n 0, 1) := by decide +kernel
theorem dX11_readAhead_227 : decode cX11_readAhead 227 = .ok (.getfield 12, 3) := by decide +kernel
theorem dX11_readAhead_230 : decode cX11_readAhead 230 = .ok (.invokevirtual 249, 3) := by decide +kernel
theorem dX11_readAhead_233 : decode cX11_readAhead 233 = .ok (.ireturn, 1) := by decide +kernel
theorem dX11_readAhead_234 : decode cX11_readAhead 234 = .ok (.iconst 0, 1) := by decide +kernel
theorem dX11_readAhead_235 : decode cX11_readAhead 235 = .ok (.ireturn, 1) := by decide +kernel
theorem dX11_readAhead_236 : decode cX11_readAhead 236 = .ok (.iconst 1, 1) := by decide +kernel
theorem dX11_readAhead_237 : decode cX11_readAhead 237 = .ok (.ireturn, 1) := by decide +kernel
theorem dX11_readValues_0 : decode cX11_readValues 0 = .ok (.iconst 0, 1) := by decide +kernel
theorem dX11_readValues_1 : decode cX11_readValues 1 = .ok (.istore_n 1, 1) := by decide +kernel
theorem dX11_readValues_2 : decode cX11_readValues 2 = .ok (.iload_n 1, 1) := by decide +kernel
theorem dX11_readValues_3 : decode cX11_readValues 3 = .ok (.aload_n 0, 1) := by decide +kernel
theorem dX11_readValues_4 : decode cX11_readValues 4 = .ok (.getfield 38, 3) := by decide +kernel
theorem dX11_readValues_7 : decode cX11_readValues 7 = .ok (.getfield 265, 3) := by decide +kernel
theorem dX11_readValues_10 : decode cX11_readValues 10 = .ok (.if_icmp .ge 52, 3) := by decide +kernel
theorem dX11_readValues_13 : decode cX11_readValues 13 = .ok (.aload_n 0, 1) := by decide +kernel
theorem dX11_readValues_14 : decode cX11_readValues 14 = .ok (.getfield 56, 3) := by decide +kernel
theorem dX11_readValues_17 : decode cX11_readValues 17 = .ok (.aload_n 0, 1) := by decide +kernel
theorem dX11_readValues_18 : decode cX11_readValues 18 = .ok (.getfield 12, 3) := by decide +kernel
theorem dX11_readValues_21 : decode cX11_readValues 21 = .ok (.invokevirtual 268, 3) := by decide +kernel
theorem dX11_readValues_24 : decode cX11_readValues 24 = .ok (.ifCond .ne 5, 3) := by decide +kernel
theorem dX11_readValues_27 : decode cX11_readValues 27 = .ok (.iconst 0, 1) := by decide +kernel
theorem dX11_readValues_28 : decode cX11_readValues 28 = .ok (.ireturn, 1) := by decide +kernel
theorem dX11_readValues_29 : decode cX11_readValues 29 = .ok (.aload_n 0, 1) := by decide +kernel
theorem dX11_readValues_30 : decode cX11_readValues 30 = .ok (.getfield 65, 3) := by decide +kernel
theorem dX11_readValues_33 : decode cX11_readValues 33 = .ok (.dup, 1) := by decide +kernel
theorem dX11_readValues_34 : decode cX11_readValues 34 = .ok (.getfield 271, 3) := by decide +kernel
theorem dX11_readValues_37 : decode cX11_readValues 37 = .ok (.iconst 1, 1) := by decide +kernel
theorem dX11_readValues_38 : decode cX11_readValues 38 = .ok (.iadd, 1) := by decide +kernel
theorem dX11_readValues_39 : decode cX11_readValues 39 = .ok (.putfield 271, 3) := by decide +kernel
theorem dX11_readValues_42 : decode cX11_readValues 42 = .ok (.aload_n 0, 1) := by decide +kernel
theorem dX11_readValues_43 : decode cX11_readValues 43 = .ok (.getfield 12, 3) := by decide +kernel
theorem dX11_readValues_46 : decode cX11_readValues 46 = .ok (.bipush 44, 2) := by decide +kernel
theorem dX11_readValues_48 : decode cX11_readValues 48 = .ok (.invokevirtual 236, 3) := by decide +kernel
theorem dX11_readValues_51 : decode cX11_readValues 51 = .ok (.ifCond .ne 5, 3) := by decide +kernel
theorem dX11_readValues_54 : decode cX11_readValues 54 = .ok (.iconst 1, 1) := by decide +kernel
theorem dX11_readValues_55 : decode cX11_readValues 55 = .ok (.ireturn, 1) := by decide +kernel
theorem dX11_readValues_56 : decode cX11_readValues 56 = .ok (.iinc 1 1, 3) := by decide +kernel
theorem dX11_readValues_59 : decode cX11_readValues 59 = .ok (.goto (-57), 3) := by decide +kernel
theorem dX11_readValues_62 : decode cX11_readValues 62 = .ok (.aload_n 0, 1) := by decide +kernel
theorem dX11_readValues_63 : decode cX11_readValues 63 = .ok (.getfield 38, 3) := by decide +kernel
theorem dX11_readValues_66 : decode cX11_readValues 66 = .ok (.getfield 265, 3) := by decide +kernel
theorem dX11_readValues_69 : decode cX11_readValues 69 = .ok (.ifCond .ne 7, 3) := by decide +kernel
theorem dX11_readValues_72 : decode cX11_readValues 72 = .ok (.iconst 1, 1) := by decide +kernel
theorem dX11_readValues_73 : decode cX11_readValues 73 = .ok (.goto 4, 3) := by decide +kernel
theorem dX11_readValues_76 : decode cX11_readValues 76 = .ok (.iconst 0, 1) := by decide +kernel
theorem dX11_readValues_77 : decode cX11_readValues 77 = .ok (.ireturn, 1) := by decide +kernel
theorem dX11_wantsSetNames_0 : decode cX11_wantsSetNames 0 = .ok (.aload_n 0, 1) := by decide +kernel
theorem dX11_wantsSetNames_1 : decode cX11_wantsSetNames 1 = .ok (.getfield 38, 3) := by decide +kernel
theorem dX11_wantsSetNames_4 : decode cX11_wantsSetNames 4 = .ok (.getstatic 277, 3) := by decide +kernel
theorem dX11_wantsSetNames_7 : decode cX11_wantsSetNames 7 = .ok (.if_acmp .eq 13, 3) := by decide +kernel
theorem dX11_wantsSetNames_10 : decode cX11_wantsSetNames 10 = .ok (.aload_n 0, 1) := by decide +kernel
theorem dX11_wantsSetNames_11 : decode cX11_wantsSetNames 11 = .ok (.getfield 38, 3) := by decide +kernel
theorem dX11_wantsSetNames_14 : decode cX11_wantsSetNames 14 = .ok (.getstatic 194, 3) := by decide +kernel
theorem dX11_wantsSetNames_17 : decode cX11_wantsSetNames 17 = .ok (.if_acmp .ne 7, 3) := by decide +kernel
theorem dX11_wantsSetNames_20 : decode cX11_wantsSetNames 20 = .ok (.iconst 1, 1) := by decide +kernel
theorem dX11_wantsSetNames_21 : decode cX11_wantsSetNames 21 = .ok (.goto 4, 3) := by decide +kernel
theorem dX11_wantsSetNames_24 : decode cX11_wantsSetNames 24 = .ok (.iconst 0, 1) := by decide +kernel
theorem dX11_wantsSetNames_25 : decode cX11_wantsSetNames 25 = .ok (.ireturn, 1) := by decide +kernel
theorem dX11_isSpace_0 : decode cX11_isSpace 0 = .ok (.iload_n 0, 1) := by decide +kernel
theorem dX11_isSpace_1 : decode cX11_isSpace 1 = .ok (.ifCond .lt 14, 3) := by decide +kernel
theorem dX11_isSpace_4 : decode cX11_isSpace 4 = .ok (.iload_n 0, 1) := by decide +kernel
theorem dX11_isSpace_5 : decode cX11_isSpace 5 = .ok (.sipush 1000, 3) := by decide +kernel
theorem dX11_isSpace_8 : decode cX11_isSpace 8 = .ok (.if_icmp .gt 7, 3) := by decide +kernel
theorem dX11_isSpace_11 : decode cX11_isSpace 11 = .ok (.iconst 1, 1) := by decide +kernel
theorem dX11_isSpace_12 : decode cX11_isSpace 12 = .ok (.goto 4, 3) := by decide +kernel
theorem dX11_isSpace_15 : decode cX11_isSpace 15 = .ok (.iconst 0, 1) := by decide +kernel
theorem dX11_isSpace_16 : decode cX11_isSpace 16 = .ok (.ireturn, 1) := by decide +kernel
theorem dX11_isStatement_0 : decode cX11_isStatement 0 = .ok (.aload_n 0, 1) := by decide +kernel
theorem dX11_isStatement_1 : decode cX11_isStatement 1 = .ok (.getfield 147, 3) := by decide +kernel
theorem dX11_isStatement_4 : decode cX11_isStatement 4 = .ok (.lconst 0, 1) := by decide +kernel
theorem dX11_isStatement_5 : decode cX11_isStatement 5 = .ok (.lcmp, 1) := by decide +kernel
theorem dX11_isStatement_6 : decode cX11_isStatement 6 = .ok (.ifCond .ne 13, 3) := by decide +kernel
theorem dX11_isStatement_9 : decode cX11_isStatement 9 = .ok (.aload_n 0, 1) := by decide +kernel
theorem dX11_isStatement_10 : decode cX11_isStatement 10 = .ok (.getfield 38, 3) := by decide +kernel
theorem dX11_isStatement_13 : decode cX11_isStatement 13 = .ok (.getfield 295, 3) := by decide +kernel
theorem dX11_isStatement_16 : decode cX11_isStatement 16 = .ok (.ifCond .eq 7, 3) := by decide +kernel
theorem dX11_isStatement_19 : decode cX11_isStatement 19 = .ok (.iconst 1, 1) := by decide +kernel
theorem dX11_isStatement_20 : decode cX11_isStatement 20 = .ok (.goto 4, 3) := by decide +kernel
theorem dX11_isStatement_23 : decode cX11_isStatement 23 = .ok (.iconst 0, 1) := by decide +kernel
theorem dX11_isStatement_24 : decode cX11_isStatement 24 = .ok (.ireturn, 1) := by decide +kernel
theorem dX11_isTwice_0 : decode cX11_isTwice 0 = .ok (.aload_n 0, 1) := by decide +kernel
theorem dX11_isTwice_1 : decode cX11_isTwice 1 = .ok (.getfield 147, 3) := by decide +kernel
theorem dX11_isTwice_4 : decode cX11_isTwice 4 = .ok (.lconst 0, 1) := by decide +kernel
theorem dX11_isTwice_5 : decode cX11_isTwice 5 = .ok (.lcmp, 1) := by decide +kernel
theorem dX11_isTwice_6 : decode cX11_isTwice 6 = .ok (.ifCond .eq 20, 3) := by decide +kernel
theorem dX11_isTwice_9 : decode cX11_isTwice 9 = .ok (.aload_n 0, 1) := by decide +kernel
theorem dX11_isTwice_10 : decode cX11_isTwice 10 = .ok (.getfield 51, 3) := by decide +kernel
theorem dX11_isTwice_13 : decode cX11_isTwice 13 = .ok (.aload_n 0, 1) := by decide +kernel
theorem dX11_isTwice_14 : decode cX11_isTwice 14 = .ok (.getfield 147, 3) := by decide +kernel
theorem dX11_isTwice_17 : decode cX11_isTwice 17 = .ok (.invokevirtual 274, 3) := by decide +kernel
theorem dX11_isTwice_20 : decode cX11_isTwice 20 = .ok (.iconst (-1), 1) := by decide +kernel
theorem dX11_isTwice_21 : decode cX11_isTwice 21 = .ok (.if_icmp .eq 5, 3) := by decide +kernel
theorem dX11_isTwice_24 : decode cX11_isTwice 24 = .ok (.iconst 1, 1) := by decide +kernel
theorem dX11_isTwice_25 : decode cX11_isTwice 25 = .ok (.ireturn, 1) := by decide +kernel
theorem dX11_isTwice_26 : decode cX11_isTwice 26 = .ok (.aload_n 0, 1) := by decide +kernel
theorem dX11_isTwice_27 : decode cX11_isTwice 27 = .ok (.getfield 38, 3) := by decide +kernel
theorem dX11_isTwice_30 : decode cX11_isTwice 30 = .ok (.getstatic 277, 3) := by decide +kernel
theorem dX11_isTwice_33 : decode cX11_isTwice 33 = .ok (.if_acmp .ne 36, 3) := by decide +kernel
theorem dX11_isTwice_36 : decode cX11_isTwice 36 = .ok (.aload_n 0, 1) := by decide +kernel
theorem dX11_isTwice_37 : decode cX11_isTwice 37 = .ok (.getfield 151, 3) := by decide +kernel
theorem dX11_isTwice_40 : decode cX11_isTwice 40 = .ok (.aload_n 0, 1) := by decide +kernel
theorem dX11_isTwice_41 : decode cX11_isTwice 41 = .ok (.getfield 147, 3) := by decide +kernel
theorem dX11_isTwice_44 : decode cX11_isTwice 44 = .ok (.lcmp, 1) := by decide +kernel
theorem dX11_isTwice_45 : decode cX11_isTwice 45 = .ok (.ifCond .eq 18, 3) := by decide +kernel
theorem dX11_isTwice_48 : decode cX11_isTwice 48 = .ok (.aload_n 0, 1) := by decide +kernel
theorem dX11_isTwice_49 : decode cX11_isTwice 49 = .ok (.getfield 51, 3) := by decide +kernel
theorem dX11_isTwice_52 : decode cX11_isTwice 52 = .ok (.aload_n 0, 1) := by decide +kernel
theorem dX11_isTwice_53 : decode cX11_isTwice 53 = .ok (.getfield 151, 3) := by decide +kernel
theorem dX11_isTwice_56 : decode cX11_isTwice 56 = .ok (.invokevirtual 274, 3) := by decide +kernel
theorem dX11_isTwice_59 : decode cX11_isTwice 59 = .ok (.iconst (-1), 1) := by decide +kernel
theorem dX11_isTwice_60 : decode cX11_isTwice 60 = .ok (.if_icmp .eq 7, 3) := by decide +kernel
theorem dX11_isTwice_63 : decode cX11_isTwice 63 = .ok (.iconst 1, 1) := by decide +kernel
theorem dX11_isTwice_64 : decode cX11_isTwice 64 = .ok (.goto 4, 3) := by decide +kernel
theorem dX11_isTwice_67 : decode cX11_isTwice 67 = .ok (.iconst 0, 1) := by decide +kernel
theorem dX11_isTwice_68 : decode cX11_isTwice 68 = .ok (.ireturn, 1) := by decide +kernel
theorem dX11_isTwice_69 : decode cX11_isTwice 69 = .ok (.aload_n 0, 1) := by decide +kernel
theorem dX11_isTwice_70 : decode cX11_isTwice 70 = .ok (.getfield 38, 3) := by decide +kernel
theorem dX11_isTwice_73 : decode cX11_isTwice 73 = .ok (.getstatic 280, 3) := by decide +kernel
theorem dX11_isTwice_76 : decode cX11_isTwice 76 = .ok (.if_acmp .ne 35, 3) := by decide +kernel
theorem dX11_isTwice_79 : decode cX11_isTwice 79 = .ok (.aload_n 0, 1) := by decide +kernel
theorem dX11_isTwice_80 : decode cX11_isTwice 80 = .ok (.getfield 21, 3) := by decide +kernel
theorem dX11_isTwice_83 : decode cX11_isTwice 83 = .ok (.aload_n 0, 1) := by decide +kernel
theorem dX11_isTwice_84 : decode cX11_isTwice 84 = .ok (.getfield 151, 3) := by decide +kernel
theorem dX11_isTwice_87 : decode cX11_isTwice 87 = .ok (.invokevirtual 215, 3) := by decide +kernel
theorem dX11_isTwice_90 : decode cX11_isTwice 90 = .ok (.iconst (-1), 1) := by decide +kernel
theorem dX11_isTwice_91 : decode cX11_isTwice 91 = .ok (.if_icmp .ne 16, 3) := by decide +kernel
theorem dX11_isTwice_94 : decode cX11_isTwice 94 = .ok (.aload_n 0, 1) := by decide +kernel
theorem dX11_isTwice_95 : decode cX11_isTwice 95 = .ok (.getfield 12, 3) := by decide +kernel
theorem dX11_isTwice_98 : decode cX11_isTwice 98 = .ok (.invokestatic 137, 3) := by decide +kernel
theorem dX11_isTwice_101 : decode cX11_isTwice 101 = .ok (.getstatic 173, 3) := by decide +kernel
theorem dX11_isTwice_104 : decode cX11_isTwice 104 = .ok (.if_acmp .eq 7, 3) := by decide +kernel
theorem dX11_isTwice_107 : decode cX11_isTwice 107 = .ok (.iconst 1, 1) := by decide +kernel
theorem dX11_isTwice_108 : decode cX11_isTwice 108 = .ok (.goto 4, 3) := by decide +kernel
theorem dX11_isTwice_111 : decode cX11_isTwice 111 = .ok (.iconst 0, 1) := by decide +kernel
theorem dX11_isTwice_112 : decode cX11_isTwice 112 = .ok (.ireturn, 1) := by decide +kernel
theorem dX11_isTooMuch_0 : decode cX11_isTooMuch 0 = .ok (.aload_n 0, 1) := by decide +kernel
theorem dX11_isTooMuch_1 : decode cX11_isTooMuch 1 = .ok (.getfield 28, 3) := by decide +kernel
theorem dX11_isTooMuch_4 : decode cX11_isTooMuch 4 = .ok (.invokevirtual 283, 3) := by decide +kernel
theorem dX11_isTooMuch_7 : decode cX11_isTooMuch 7 = .ok (.ifCond .ne 80, 3) := by decide +kernel
theorem dX11_isTooMuch_10 : decode cX11_isTooMuch 10 = .ok (.aload_n 0, 1) := by decide +kernel
theorem dX11_isTooMuch_11 : decode cX11_isTooMuch 11 = .ok (.getfield 38, 3) := by decide +kernel
theorem dX11_isTooMuch_14 : decode cX11_isTooMuch 14 = .ok (.getstatic 221, 3) := by decide +kernel
theorem dX11_isTooMuch_17 : decode cX11_isTooMuch 17 = .ok (.if_acmp .ne 13, 3) := by decide +kernel
theorem dX11_isTooMuch_20 : decode cX11_isTooMuch 20 = .ok (.aload_n 0, 1) := by decide +kernel
theorem dX11_isTooMuch_21 : decode cX11_isTooMuch 21 = .ok (.getfield 28, 3) := by decide +kernel
theorem dX11_isTooMuch_24 : decode cX11_isTooMuch 24 = .ok (.invokevirtual 286, 3) := by decide +kernel
theorem dX11_isTooMuch_27 : decode cX11_isTooMuch 27 = .ok (.ifCond .ne 60, 3) := by decide +kernel
theorem dX11_isTooMuch_30 : decode cX11_isTooMuch 30 = .ok (.aload_n 0, 1) := by decide +kernel
theorem dX11_isTooMuch_31 : decode cX11_isTooMuch 31 = .ok (.getfield 38, 3) := by decide +kernel
theorem dX11_isTooMuch_34 : decode cX11_isTooMuch 34 = .ok (.getstatic 277, 3) := by decide +kernel
theorem dX11_isTooMuch_37 : decode cX11_isTooMuch 37 = .ok (.if_acmp .ne 13, 3) := by decide +kernel
theorem dX11_isTooMuch_40 : decode cX11_isTooMuch 40 = .ok (.aload_n 0, 1) := by decide +kernel
theorem dX11_isTooMuch_41 : decode cX11_isTooMuch 41 = .ok (.getfield 51, 3) := by decide +kernel
theorem dX11_isTooMuch_44 : decode cX11_isTooMuch 44 = .ok (.invokevirtual 289, 3) := by decide +kernel
theorem dX11_isTooMuch_47 : decode cX11_isTooMuch 47 = .ok (.ifCond .ne 40, 3) := by decide +kernel
theorem dX11_isTooMuch_50 : decode cX11_isTooMuch 50 = .ok (.aload_n 0, 1) := by decide +kernel
theorem dX11_isTooMuch_51 : decode cX11_isTooMuch 51 = .ok (.getfield 38, 3) := by decide +kernel
theorem dX11_isTooMuch_54 : decode cX11_isTooMuch 54 = .ok (.getstatic 280, 3) := by decide +kernel
theorem dX11_isTooMuch_57 : decode cX11_isTooMuch 57 = .ok (.if_acmp .ne 13, 3) := by decide +kernel
theorem dX11_isTooMuch_60 : decode cX11_isTooMuch 60 = .ok (.aload_n 0, 1) := by decide +kernel
theorem dX11_isTooMuch_61 : decode cX11_isTooMuch 61 = .ok (.getfield 21, 3) := by decide +kernel
theorem dX11_isTooMuch_64 : decode cX11_isTooMuch 64 = .ok (.invokevirtual 290, 3) := by decide +kernel
theorem dX11_isTooMuch_67 : decode cX11_isTooMuch 67 = .ok (.ifCond .ne 20, 3) := by decide +kernel
theorem dX11_isTooMuch_70 : decode cX11_isTooMuch 70 = .ok (.aload_n 0, 1) := by decide +kernel
theorem dX11_isTooMuch_71 : decode cX11_isTooMuch 71 = .ok (.invokevirtual 291, 3) := by decide +kernel
theorem dX11_isTooMuch_74 : decode cX11_isTooMuch 74 = .ok (.ifCond .eq 17, 3) := by decide +kernel
theorem dX11_isTooMuch_77 : decode cX11_isTooMuch 77 = .ok (.aload_n 0, 1) := by decide +kernel
theorem dX11_isTooMuch_78 : decode cX11_isTooMuch 78 = .ok (.getfield 41, 3) := by decide +kernel
theorem dX11_isTooMuch_81 : decode cX11_isTooMuch 81 = .ok (.invokevirtual 294, 3) := by decide +kernel
theorem dX11_isTooMuch_84 : decode cX11_isTooMuch 84 = .ok (.ifCond .eq 7, 3) := by decide +kernel
theorem dX11_isTooMuch_87 : decode cX11_isTooMuch 87 = .ok (.iconst 1, 1) := by decide +kernel
theorem dX11_isTooMuch_88 : decode cX11_isTooMuch 88 = .ok (.goto 4, 3) := by decide +kernel
theorem dX11_isTooMuch_91 : decode cX11_isTooMuch 91 = .ok (.iconst 0, 1) := by decide +kernel
theorem dX11_isTooMuch_92 : decode cX11_isTooMuch 92 = .ok (.ireturn, 1) := by decide +kernel
theorem dX11_pass_0 : decode cX11_pass 0 = .ok (.aload_n 0, 1) := by decide +kernel
theorem dX11_pass_1 : decode cX11_pass 1 = .ok (.iconst 1, 1) := by decide +kernel
theorem dX11_pass_2 : decode cX11_pass 2 = .ok (.putfield 76, 3) := by decide +kernel
theorem dX11_pass_5 : decode cX11_pass 5 = .ok (.aload_n 0, 1) := by decide +kernel
theorem dX11_pass_6 : decode cX11_pass 6 = .ok (.iload_n 1, 1) := by decide +kernel
theorem dX11_pass_7 : decode cX11_pass 7 = .ok (.putfield 113, 3) := by decide +kernel
theorem dX11_pass_10 : decode cX11_pass 10 = .ok (.aload_n 0, 1) := by decide +kernel
theorem dX11_pass_11 : decode cX11_pass 11 = .ok (.aload_n 0, 1) := by decide +kernel
theorem dX11_pass_12 : decode cX11_pass 12 = .ok (.getfield 28, 3) := by decide +kernel
theorem dX11_pass_15 : decode cX11_pass 15 = .ok (.getfield 162, 3) := by decide +kernel
theorem dX11_pass_18 : decode cX11_pass 18 = .ok (.putfield 116, 3) := by decide +kernel
theorem dX11_pass_21 : decode cX11_pass 21 = .ok (.return_, 1) := by decide +kernel
theorem dX11_refuse_0 : decode cX11_refuse 0 = .ok (.aload_n 0, 1) := by decide +kernel
theorem dX11_refuse_1 : decode cX11_refuse 1 = .ok (.getfield 57, 3) := by decide +kernel
theorem dX11_refuse_4 : decode cX11_refuse 4 = .ok (.iload_n 1, 1) := by decide +kernel
theorem dX11_refuse_5 : decode cX11_refuse 5 = .ok (.aload_n 0, 1) := by decide +kernel
theorem dX11_refuse_6 : decode cX11_refuse 6 = .ok (.getfield 28, 3) := by decide +kernel
theorem dX11_refuse_9 : decode cX11_refuse 9 = .ok (.getfield 162, 3) := by decide +kernel
theorem dX11_refuse_12 : decode cX11_refuse 12 = .ok (.invokevirtual 119, 3) := by decide +kernel
theorem dX11_refuse_15 : decode cX11_refuse 15 = .ok (.aload_n 0, 1) := by decide +kernel
theorem dX11_refuse_16 : decode cX11_refuse 16 = .ok (.getfield 56, 3) := by decide +kernel
theorem dX11_refuse_19 : decode cX11_refuse 19 = .ok (.aload_n 0, 1) := by decide +kernel
theorem dX11_refuse_20 : decode cX11_refuse 20 = .ok (.getfield 159, 3) := by decide +kernel
theorem dX11_refuse_23 : decode cX11_refuse 23 = .ok (.invokevirtual 297, 3) := by decide +kernel
theorem dX11_refuse_26 : decode cX11_refuse 26 = .ok (.aload_n 0, 1) := by decide +kernel
theorem dX11_refuse_27 : decode cX11_refuse 27 = .ok (.getfield 38, 3) := by decide +kernel
theorem dX11_refuse_30 : decode cX11_refuse 30 = .ok (.getstatic 280, 3) := by decide +kernel
theorem dX11_refuse_33 : decode cX11_refuse 33 = .ok (.if_acmp .ne 8, 3) := by decide +kernel
theorem dX11_refuse_36 : decode cX11_refuse 36 = .ok (.aload_n 0, 1) := by decide +kernel
theorem dX11_refuse_37 : decode cX11_refuse 37 = .ok (.iconst 0, 1) := by decide +kernel
theorem dX11_refuse_38 : decode cX11_refuse 38 = .ok (.invokevirtual 313, 3) := by decide +kernel
theorem dX11_refuse_41 : decode cX11_refuse 41 = .ok (.return_, 1) := by decide +kernel
theorem dX11_passLine_0 : decode cX11_passLine 0 = .ok (.aload_n 0, 1) := by decide +kernel
theorem dX11_passLine_1 : decode cX11_passLine 1 = .ok (.getfield 12, 3) := by decide +kernel
theorem dX11_passLine_4 : decode cX11_passLine 4 = .ok (.invokevirtual 125, 3) := by decide +kernel
theorem dX11_passLine_7 : decode cX11_passLine 7 = .ok (.ifCond .eq 44, 3) := by decide +kernel
theorem dX11_passLine_10 : decode cX11_passLine 10 = .ok (.aload_n 0, 1) := by decide +kernel
theorem dX11_passLine_11 : decode cX11_passLine 11 = .ok (.getfield 12, 3) := by decide +kernel
theorem dX11_passLine_14 : decode cX11_passLine 14 = .ok (.invokevirtual 128, 3) := by decide +kernel
theorem dX11_passLine_17 : decode cX11_passLine 17 = .ok (.ldc2_w 132, 3) := by decide +kernel
theorem dX11_passLine_20 : decode cX11_passLine 20 = .ok (.lcmp, 1) := by decide +kernel
theorem dX11_passLine_21 : decode cX11_passLine 21 = .ok (.ifCond .eq 30, 3) := by decide +kernel
theorem dX11_passLine_24 : decode cX11_passLine 24 = .ok (.aload_n 0, 1) := by decide +kernel
theorem dX11_passLine_25 : decode cX11_passLine 25 = .ok (.getfield 12, 3) := by decide +kernel
theorem dX11_passLine_28 : decode cX11_passLine 28 = .ok (.invokevirtual 134, 3) := by decide +kernel
theorem dX11_passLine_31 : decode cX11_passLine 31 = .ok (.ifCond .eq 20, 3) := by decide +kernel
theorem dX11_passLine_34 : decode cX11_passLine 34 = .ok (.aload_n 0, 1) := by decide +kernel
theorem dX11_passLine_35 : decode cX11_passLine 35 = .ok (.getfield 12, 3) := by decide +kernel
theorem dX11_passLine_38 : decode cX11_passLine 38 = .ok (.invokestatic 137, 3) := by decide +kernel
theorem dX11_passLine_41 : decode cX11_passLine 41 = .ok (.getstatic 141, 3) := by decide +kernel
theorem dX11_passLine_44 : decode cX11_passLine 44 = .ok (.if_acmp .ne 7, 3) := by decide +kernel
theorem dX11_passLine_47 : decode cX11_passLine 47 = .ok (.iconst 1, 1) := by decide +kernel
theorem dX11_passLine_48 : decode cX11_passLine 48 = .ok (.goto 4, 3) := by decide +kernel
theorem dX11_passLine_51 : decode cX11_passLine 51 = .ok (.iconst 0, 1) := by decide +kernel
theorem dX11_passLine_52 : decode cX11_passLine 52 = .ok (.istore_n 1, 1) := by decide +kernel
theorem dX11_passLine_53 : decode cX11_passLine 53 = .ok (.iload_n 1, 1) := by decide +kernel
theorem dX11_passLine_54 : decode cX11_passLine 54 = .ok (.ifCond .eq 24, 3) := by decide +kernel
theorem dX11_passLine_57 : decode cX11_passLine 57 = .ok (.aload_n 0, 1) := by decide +kernel
theorem dX11_passLine_58 : decode cX11_passLine 58 = .ok (.getfield 113, 3) := by decide +kernel
theorem dX11_passLine_61 : decode cX11_passLine 61 = .ok (.ifCond .eq 17, 3) := by decide +kernel
theorem dX11_passLine_64 : decode cX11_passLine 64 = .ok (.aload_n 0, 1) := by decide +kernel
theorem dX11_passLine_65 : decode cX11_passLine 65 = .ok (.getfield 21, 3) := by decide +kernel
theorem dX11_passLine_68 : decode cX11_passLine 68 = .ok (.aload_n 0, 1) := by decide +kernel
theorem dX11_passLine_69 : decode cX11_passLine 69 = .ok (.getfield 28, 3) := by decide +kernel
theorem dX11_passLine_72 : decode cX11_passLine 72 = .ok (.getfield 89, 3) := by decide +kernel
theorem dX11_passLine_75 : decode cX11_passLine 75 = .ok (.invokevirtual 144, 3) := by decide +kernel
theorem dX11_passLine_78 : decode cX11_passLine 78 = .ok (.aload_n 0, 1) := by decide +kernel
theorem dX11_passLine_79 : decode cX11_passLine 79 = .ok (.iload_n 1, 1) := by decide +kernel
theorem dX11_passLine_80 : decode cX11_passLine 80 = .ok (.ifCond .ne 7, 3) := by decide +kernel
theorem dX11_passLine_83 : decode cX11_passLine 83 = .ok (.iconst 1, 1) := by decide +kernel
theorem dX11_passLine_84 : decode cX11_passLine 84 = .ok (.goto 4, 3) := by decide +kernel
theorem dX11_passLine_87 : decode cX11_passLine 87 = .ok (.iconst 0, 1) := by decide +kernel
theorem dX11_passLine_88 : decode cX11_passLine 88 = .ok (.putfield 76, 3) := by decide +kernel
theorem dX11_passLine_91 : decode cX11_passLine 91 = .ok (.return_, 1) := by decide +kernel
theorem dX11_forget_0 : decode cX11_forget 0 = .ok (.aload_n 0, 1) := by decide +kernel
theorem dX11_forget_1 : decode cX11_forget 1 = .ok (.getfield 21, 3) := by decide +kernel
theorem dX11_forget_4 : decode cX11_forget 4 = .ok (.invokevirtual 68, 3) := by decide +kernel
theorem dX11_forget_7 : decode cX11_forget 7 = .ok (.aload_n 0, 1) := by decide +kernel
theorem dX11_forget_8 : decode cX11_forget 8 = .ok (.getfield 28, 3) := by decide +kernel
theorem dX11_forget_11 : decode cX11_forget 11 = .ok (.invokevirtual 71, 3) := by decide +kernel
theorem dX11_forget_14 : decode cX11_forget 14 = .ok (.return_, 1) := by decide +kernel

