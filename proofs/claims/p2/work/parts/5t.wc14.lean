set_option maxRecDepth 20000 in
theorem w_1_28 : (Jvm.Cond.initialized "java/lang/IndexOutOfBoundsException") ∈ b_Ws := bw_1 (List.mem_of_getElem? (i := 28) rfl) rfl
set_option maxRecDepth 20000 in
theorem w_1_44 : (Jvm.Cond.fieldLink "AssembleLines" (86 : Nat) "AssembleLines$Errors" "numbers" "[I") ∈ b_Ws := bw_1 (List.mem_of_getElem? (i := 44) rfl) rfl
set_option maxRecDepth 20000 in
theorem w_1_46 : (Jvm.Cond.fieldLink "AssembleLines" (90 : Nat) "AssembleLines$Errors" "lines" "[I") ∈ b_Ws := bw_1 (List.mem_of_getElem? (i := 46) rfl) rfl
set_option maxRecDepth 20000 in
theorem w_1_48 : (Jvm.Cond.fieldLink "AssembleLines" (70 : Nat) "AssembleLines$Errors" "told" "I") ∈ b_Ws := bw_1 (List.mem_of_getElem? (i := 48) rfl) rfl
set_option maxRecDepth 20000 in
theorem w_1_82 : (Jvm.Cond.fieldLink "AssembleLines" (117 : Nat) "AssembleLines$Names" "labels" "I") ∈ b_Ws := bw_1 (List.mem_of_getElem? (i := 82) rfl) rfl
set_option maxRecDepth 20000 in
theorem w_1_84 : (Jvm.Cond.fieldLink "AssembleLines" (122 : Nat) "AssembleLines$Names" "sets" "I") ∈ b_Ws := bw_1 (List.mem_of_getElem? (i := 84) rfl) rfl
set_option maxRecDepth 20000 in
theorem w_1_195 : (Jvm.Cond.fieldLink "AssembleLines" (113 : Nat) "AssembleLines$Program" "names" "LAssembleLines$Names;") ∈ b_Ws := bw_1 (List.mem_of_getElem? (i := 195) rfl) rfl
set_option maxRecDepth 20000 in
theorem w_1_199 : (Jvm.Cond.fieldLink "AssembleLines" (104 : Nat) "AssembleLines$Program" "statements" "[LAssembleLines$Statement;") ∈ b_Ws := bw_1 (List.mem_of_getElem? (i := 199) rfl) rfl
set_option maxRecDepth 20000 in
theorem w_1_201 : (Jvm.Cond.fieldLink "AssembleLines" (99 : Nat) "AssembleLines$Program" "kept" "I") ∈ b_Ws := bw_1 (List.mem_of_getElem? (i := 201) rfl) rfl
set_option maxRecDepth 20000 in
theorem w_1_203 : (Jvm.Cond.fieldLink "AssembleLines" (78 : Nat) "AssembleLines$Program" "words" "I") ∈ b_Ws := bw_1 (List.mem_of_getElem? (i := 203) rfl) rfl
set_option maxRecDepth 20000 in
theorem w_1_205 : (Jvm.Cond.fieldLink "AssembleLines" (146 : Nat) "AssembleLines$Program" "rounds" "I") ∈ b_Ws := bw_1 (List.mem_of_getElem? (i := 205) rfl) rfl
set_option maxRecDepth 20000 in
theorem w_2_25 : (Jvm.Cond.fieldLink "AssembleLines" (137 : Nat) "AssembleLines$Macros" "told" "I") ∈ b_Ws := bw_2 (List.mem_of_getElem? (i := 25) rfl) rfl
set_option maxRecDepth 20000 in
theorem w_2_92 : (Jvm.Cond.fieldLink "AssembleLines" (143 : Nat) "AssembleLines$Lines" "told" "I") ∈ b_Ws := bw_2 (List.mem_of_getElem? (i := 92) rfl) rfl
set_option maxRecDepth 20000 in
theorem w_2_130 : (Jvm.Cond.fieldLink "AssembleLines" (133 : Nat) "AssembleLines$TurnOne" "macros" "LAssembleLines$Macros;") ∈ b_Ws := bw_2 (List.mem_of_getElem? (i := 130) rfl) rfl
set_option maxRecDepth 20000 in
theorem w_2_132 : (Jvm.Cond.fieldLink "AssembleLines" (140 : Nat) "AssembleLines$TurnOne" "lines" "LAssembleLines$Lines;") ∈ b_Ws := bw_2 (List.mem_of_getElem? (i := 132) rfl) rfl
set_option maxRecDepth 20000 in
theorem w_2_195 : (Jvm.Cond.methodLink "AssembleLines" (149 : Nat) ({ cls := "AssembleLines$Program", name := "longOnes", desc := "()I" } : Jvm.MethodName)) ∈ b_Ws := bw_2 (List.mem_of_getElem? (i := 195) rfl) rfl
set_option maxRecDepth 20000 in
theorem w_2_196 : (Jvm.Cond.instanceMethod ({ cls := "AssembleLines$Program", name := "longOnes", desc := "()I" } : Jvm.MethodName)) ∈ b_Ws := bw_2 (List.mem_of_getElem? (i := 196) rfl) rfl
set_option maxRecDepth 20000 in
theorem w_2_197 : (Jvm.Cond.selects "AssembleLines$Program" ({ cls := "AssembleLines$Program", name := "longOnes", desc := "()I" } : Jvm.MethodName) ({ cls := "AssembleLines$Program", name := "longOnes", desc := "()I" } : Jvm.MethodName)) ∈ b_Ws := bw_2 (List.mem_of_getElem? (i := 197) rfl) rfl
set_option maxRecDepth 20000 in
theorem w_2_198 : (Jvm.Cond.code ({ cls := "AssembleLines$Program", name := "longOnes", desc := "()I" } : Jvm.MethodName) prog_10_method_16_code (3 : Nat) (Option.some Jvm.ClassFile.FieldType.int)) ∈ b_Ws := bw_2 (List.mem_of_getElem? (i := 198) rfl) rfl
set_option maxRecDepth 20000 in
theorem w_3_70 : (Jvm.Cond.methodLink "AssembleLines" (60 : Nat) ({ cls := "AssembleLines", name := "forgetProgram", desc := "()V" } : Jvm.MethodName)) ∈ b_Ws := bw_3 (List.mem_of_getElem? (i := 70) rfl) rfl
set_option maxRecDepth 20000 in
theorem w_3_72 : (Jvm.Cond.instanceMethod ({ cls := "AssembleLines", name := "forgetProgram", desc := "()V" } : Jvm.MethodName)) ∈ b_Ws := bw_3 (List.mem_of_getElem? (i := 72) rfl) rfl
set_option maxRecDepth 20000 in
theorem w_3_73 : (Jvm.Cond.code ({ cls := "AssembleLines", name := "forgetProgram", desc := "()V" } : Jvm.MethodName) prog_1_method_11_code (1 : Nat) (Option.none : Option Jvm.ClassFile.FieldType)) ∈ b_Ws := bw_3 (List.mem_of_getElem? (i := 73) rfl) rfl
set_option maxRecDepth 20000 in
theorem w_3_74 : (Jvm.Cond.methodLink "AssembleLines" (153 : Nat) ({ cls := "AssembleLines$Program", name := "forget", desc := "()V" } : Jvm.MethodName)) ∈ b_Ws := bw_3 (List.mem_of_getElem? (i := 74) rfl) rfl
set_option maxRecDepth 20000 in
theorem w_3_75 : (Jvm.Cond.instanceMethod ({ cls := "AssembleLines$Program", name := "forget", desc := "()V" } : Jvm.MethodName)) ∈ b_Ws := bw_3 (List.mem_of_getElem? (i := 75) rfl) rfl
set_option maxRecDepth 20000 in
theorem w_3_76 : (Jvm.Cond.selects "AssembleLines$Program" ({ cls := "AssembleLines$Program", name := "forget", desc := "()V" } : Jvm.MethodName) ({ cls := "AssembleLines$Program", name := "forget", desc := "()V" } : Jvm.MethodName)) ∈ b_Ws := bw_3 (List.mem_of_getElem? (i := 76) rfl) rfl
set_option maxRecDepth 20000 in
theorem w_3_77 : (Jvm.Cond.code ({ cls := "AssembleLines$Program", name := "forget", desc := "()V" } : Jvm.MethodName) prog_10_method_2_code (1 : Nat) (Option.none : Option Jvm.ClassFile.FieldType)) ∈ b_Ws := bw_3 (List.mem_of_getElem? (i := 77) rfl) rfl
set_option maxRecDepth 20000 in
theorem w_3_83 : (Jvm.Cond.methodLink "AssembleLines" (154 : Nat) ({ cls := "AssembleLines$TurnOne", name := "forget", desc := "()V" } : Jvm.MethodName)) ∈ b_Ws := bw_3 (List.mem_of_getElem? (i := 83) rfl) rfl
set_option maxRecDepth 20000 in
theorem w_3_84 : (Jvm.Cond.instanceMethod ({ cls := "AssembleLines$TurnOne", name := "forget", desc := "()V" } : Jvm.MethodName)) ∈ b_Ws := bw_3 (List.mem_of_getElem? (i := 84) rfl) rfl
set_option maxRecDepth 20000 in
theorem w_3_85 : (Jvm.Cond.selects "AssembleLines$TurnOne" ({ cls := "AssembleLines$TurnOne", name := "forget", desc := "()V" } : Jvm.MethodName) ({ cls := "AssembleLines$TurnOne", name := "forget", desc := "()V" } : Jvm.MethodName)) ∈ b_Ws := bw_3 (List.mem_of_getElem? (i := 85) rfl) rfl
set_option maxRecDepth 20000 in
theorem w_3_86 : (Jvm.Cond.code ({ cls := "AssembleLines$TurnOne", name := "forget", desc := "()V" } : Jvm.MethodName) prog_13_method_2_code (1 : Nat) (Option.none : Option Jvm.ClassFile.FieldType)) ∈ b_Ws := bw_3 (List.mem_of_getElem? (i := 86) rfl) rfl
set_option maxRecDepth 20000 in
theorem w_3_95 : (Jvm.Cond.methodLink "AssembleLines" (63 : Nat) ({ cls := "AssembleLines$Errors", name := "forget", desc := "()V" } : Jvm.MethodName)) ∈ b_Ws := bw_3 (List.mem_of_getElem? (i := 95) rfl) rfl
set_option maxRecDepth 20000 in
theorem w_3_96 : (Jvm.Cond.instanceMethod ({ cls := "AssembleLines$Errors", name := "forget", desc := "()V" } : Jvm.MethodName)) ∈ b_Ws := bw_3 (List.mem_of_getElem? (i := 96) rfl) rfl
set_option maxRecDepth 20000 in
theorem w_3_97 : (Jvm.Cond.selects "AssembleLines$Errors" ({ cls := "AssembleLines$Errors", name := "forget", desc := "()V" } : Jvm.MethodName) ({ cls := "AssembleLines$Errors", name := "forget", desc := "()V" } : Jvm.MethodName)) ∈ b_Ws := bw_3 (List.mem_of_getElem? (i := 97) rfl) rfl
set_option maxRecDepth 20000 in
theorem w_3_98 : (Jvm.Cond.code ({ cls := "AssembleLines$Errors", name := "forget", desc := "()V" } : Jvm.MethodName) prog_4_method_2_code (1 : Nat) (Option.none : Option Jvm.ClassFile.FieldType)) ∈ b_Ws := bw_3 (List.mem_of_getElem? (i := 98) rfl) rfl
set_option maxRecDepth 20000 in
theorem w_3_99 : (Jvm.Cond.methodLink "AssembleLines" (66 : Nat) ({ cls := "AssembleLines$TurnOne", name := "run", desc := "([BI)V" } : Jvm.MethodName)) ∈ b_Ws := bw_3 (List.mem_of_getElem? (i := 99) rfl) rfl
set_option maxRecDepth 20000 in
theorem w_3_100 : (Jvm.Cond.instanceMethod ({ cls := "AssembleLines$TurnOne", name := "run", desc := "([BI)V" } : Jvm.MethodName)) ∈ b_Ws := bw_3 (List.mem_of_getElem? (i := 100) rfl) rfl
set_option maxRecDepth 20000 in
theorem w_3_101 : (Jvm.Cond.selects "AssembleLines$TurnOne" ({ cls := "AssembleLines$TurnOne", name := "run", desc := "([BI)V" } : Jvm.MethodName) ({ cls := "AssembleLines$TurnOne", name := "run", desc := "([BI)V" } : Jvm.MethodName)) ∈ b_Ws := bw_3 (List.mem_of_getElem? (i := 101) rfl) rfl
set_option maxRecDepth 20000 in
theorem w_3_102 : (Jvm.Cond.code ({ cls := "AssembleLines$TurnOne", name := "run", desc := "([BI)V" } : Jvm.MethodName) prog_13_method_3_code (5 : Nat) (Option.none : Option Jvm.ClassFile.FieldType)) ∈ b_Ws := bw_3 (List.mem_of_getElem? (i := 102) rfl) rfl
set_option maxRecDepth 20000 in
theorem w_5_35 : (Jvm.Cond.methodLink "AssembleLines" (73 : Nat) ({ cls := "AssembleLines$Program", name := "runTurnTwo", desc := "()V" } : Jvm.MethodName)) ∈ b_Ws := bw_5 (List.mem_of_getElem? (i := 35) rfl) rfl
set_option maxRecDepth 20000 in
theorem w_5_36 : (Jvm.Cond.instanceMethod ({ cls := "AssembleLines$Program", name := "runTurnTwo", desc := "()V" } : Jvm.MethodName)) ∈ b_Ws := bw_5 (List.mem_of_getElem? (i := 36) rfl) rfl
set_option maxRecDepth 20000 in
theorem w_5_37 : (Jvm.Cond.selects "AssembleLines$Program" ({ cls := "AssembleLines$Program", name := "runTurnTwo", desc := "()V" } : Jvm.MethodName) ({ cls := "AssembleLines$Program", name := "runTurnTwo", desc := "()V" } : Jvm.MethodName)) ∈ b_Ws := bw_5 (List.mem_of_getElem? (i := 37) rfl) rfl
set_option maxRecDepth 20000 in
theorem w_5_38 : (Jvm.Cond.code ({ cls := "AssembleLines$Program", name := "runTurnTwo", desc := "()V" } : Jvm.MethodName) prog_10_method_6_code (2 : Nat) (Option.none : Option Jvm.ClassFile.FieldType)) ∈ b_Ws := bw_5 (List.mem_of_getElem? (i := 38) rfl) rfl
set_option maxRecDepth 20000 in
theorem w_5_118 : (Jvm.Cond.classLink "AssembleLines" (81 : Nat) "java/lang/IndexOutOfBoundsException") ∈ b_Ws := bw_5 (List.mem_of_getElem? (i := 118) rfl) rfl
set_option maxRecDepth 20000 in
theorem w_5_142 : (Jvm.Cond.methodLink "AssembleLines" (95 : Nat) ({ cls := "AssembleLines$Program", name := "wordAt", desc := "(I)I" } : Jvm.MethodName)) ∈ b_Ws := bw_5 (List.mem_of_getElem? (i := 142) rfl) rfl
set_option maxRecDepth 20000 in
theorem w_5_143 : (Jvm.Cond.instanceMethod ({ cls := "AssembleLines$Program", name := "wordAt", desc := "(I)I" } : Jvm.MethodName)) ∈ b_Ws := bw_5 (List.mem_of_getElem? (i := 143) rfl) rfl
set_option maxRecDepth 20000 in
theorem w_5_144 : (Jvm.Cond.selects "AssembleLines$Program" ({ cls := "AssembleLines$Program", name := "wordAt", desc := "(I)I" } : Jvm.MethodName) ({ cls := "AssembleLines$Program", name := "wordAt", desc := "(I)I" } : Jvm.MethodName)) ∈ b_Ws := bw_5 (List.mem_of_getElem? (i := 144) rfl) rfl
set_option maxRecDepth 20000 in
theorem w_5_145 : (Jvm.Cond.code ({ cls := "AssembleLines$Program", name := "wordAt", desc := "(I)I" } : Jvm.MethodName) prog_10_method_17_code (4 : Nat) (Option.some Jvm.ClassFile.FieldType.int)) ∈ b_Ws := bw_5 (List.mem_of_getElem? (i := 145) rfl) rfl
set_option maxRecDepth 20000 in
theorem w_5_174 : (Jvm.Cond.methodLink "AssembleLines" (108 : Nat) ({ cls := "AssembleLines$Statement", name := "tell", desc := "(I)I" } : Jvm.MethodName)) ∈ b_Ws := bw_5 (List.mem_of_getElem? (i := 174) rfl) rfl
set_option maxRecDepth 20000 in
theorem w_5_175 : (Jvm.Cond.instanceMethod ({ cls := "AssembleLines$Statement", name := "tell", desc := "(I)I" } : Jvm.MethodName)) ∈ b_Ws := bw_5 (List.mem_of_getElem? (i := 175) rfl) rfl
set_option maxRecDepth 20000 in
theorem w_5_176 : (Jvm.Cond.selects "AssembleLines$Statement" ({ cls := "AssembleLines$Statement", name := "tell", desc := "(I)I" } : Jvm.MethodName) ({ cls := "AssembleLines$Statement", name := "tell", desc := "(I)I" } : Jvm.MethodName)) ∈ b_Ws := bw_5 (List.mem_of_getElem? (i := 176) rfl) rfl
set_option maxRecDepth 20000 in
theorem w_5_177 : (Jvm.Cond.code ({ cls := "AssembleLines$Statement", name := "tell", desc := "(I)I" } : Jvm.MethodName) prog_12_method_4_code (2 : Nat) (Option.some Jvm.ClassFile.FieldType.int)) ∈ b_Ws := bw_5 (List.mem_of_getElem? (i := 177) rfl) rfl
set_option maxRecDepth 20000 in
theorem w_5_186 : (Jvm.Cond.methodLink "AssembleLines" (127 : Nat) ({ cls := "AssembleLines$Names", name := "labelValue", desc := "(I)I" } : Jvm.MethodName)) ∈ b_Ws := bw_5 (List.mem_of_getElem? (i := 186) rfl) rfl
set_option maxRecDepth 20000 in
theorem w_5_187 : (Jvm.Cond.instanceMethod ({ cls := "AssembleLines$Names", name := "labelValue", desc := "(I)I" } : Jvm.MethodName)) ∈ b_Ws := bw_5 (List.mem_of_getElem? (i := 187) rfl) rfl
set_option maxRecDepth 20000 in
theorem w_5_188 : (Jvm.Cond.selects "AssembleLines$Names" ({ cls := "AssembleLines$Names", name := "labelValue", desc := "(I)I" } : Jvm.MethodName) ({ cls := "AssembleLines$Names", name := "labelValue", desc := "(I)I" } : Jvm.MethodName)) ∈ b_Ws := bw_5 (List.mem_of_getElem? (i := 188) rfl) rfl
set_option maxRecDepth 20000 in
theorem w_5_189 : (Jvm.Cond.code ({ cls := "AssembleLines$Names", name := "labelValue", desc := "(I)I" } : Jvm.MethodName) prog_8_method_10_code (2 : Nat) (Option.some Jvm.ClassFile.FieldType.int)) ∈ b_Ws := bw_5 (List.mem_of_getElem? (i := 189) rfl) rfl
set_option maxRecDepth 20000 in
theorem w_5_191 : (Jvm.Cond.methodLink "AssembleLines" (130 : Nat) ({ cls := "AssembleLines$Names", name := "setValue", desc := "(I)I" } : Jvm.MethodName)) ∈ b_Ws := bw_5 (List.mem_of_getElem? (i := 191) rfl) rfl
set_option maxRecDepth 20000 in
theorem w_5_192 : (Jvm.Cond.instanceMethod ({ cls := "AssembleLines$Names", name := "setValue", desc := "(I)I" } : Jvm.MethodName)) ∈ b_Ws := bw_5 (List.mem_of_getElem? (i := 192) rfl) rfl
set_option maxRecDepth 20000 in
theorem w_5_193 : (Jvm.Cond.selects "AssembleLines$Names" ({ cls := "AssembleLines$Names", name := "setValue", desc := "(I)I" } : Jvm.MethodName) ({ cls := "AssembleLines$Names", name := "setValue", desc := "(I)I" } : Jvm.MethodName)) ∈ b_Ws := bw_5 (List.mem_of_getElem? (i := 193) rfl) rfl
set_option maxRecDepth 20000 in
theorem w_5_194 : (Jvm.Cond.code ({ cls := "AssembleLines$Names", name := "setValue", desc := "(I)I" } : Jvm.MethodName) prog_8_method_11_code (2 : Nat) (Option.some Jvm.ClassFile.FieldType.int)) ∈ b_Ws := bw_5 (List.mem_of_getElem? (i := 194) rfl) rfl
theorem dX12_forgetProgram_0 : decode cX12_forgetProgram 0 = .ok (.aload_n 0, 1) := by decide +kernel
theorem dX12_forgetProgram_1 : decode cX12_forgetProgram 1 = .ok (.getfield 25, 3) := by decide +kernel
theorem dX12_forgetProgram_4 : decode cX12_forgetProgram 4 = .ok (.invokevirtual 153, 3) := by decide +kernel
theorem dX12_forgetProgram_7 : decode cX12_forgetProgram 7 = .ok (.aload_n 0, 1) := by decide +kernel
theorem dX12_forgetProgram_8 : decode cX12_forgetProgram 8 = .ok (.getfield 34, 3) := by decide +kernel
theorem dX12_forgetProgram_11 : decode cX12_forgetProgram 11 = .ok (.invokevirtual 154, 3) := by decide +kernel
theorem dX12_forgetProgram_14 : decode cX12_forgetProgram 14 = .ok (.return_, 1) := by decide +kernel
theorem dX12_error_0 : decode cX12_error 0 = .ok (.iload_n 1, 1) := by decide +kernel
theorem dX12_error_1 : decode cX12_error 1 = .ok (.ifCond .lt 23, 3) := by decide +kernel
theorem dX12_error_4 : decode cX12_error 4 = .ok (.iload_n 1, 1) := by decide +kernel
theorem dX12_error_5 : decode cX12_error 5 = .ok (.aload_n 0, 1) := by decide +kernel
theorem dX12_error_6 : decode cX12_error 6 = .ok (.getfield 16, 3) := by decide +kernel
theorem dX12_error_9 : decode cX12_error 9 = .ok (.getfield 70, 3) := by decide +kernel
theorem dX12_error_12 : decode cX12_error 12 = .ok (.if_icmp .ge 12, 3) := by decide +kernel
theorem dX12_error_15 : decode cX12_error 15 = .ok (.iload_n 2, 1) := by decide +kernel
theorem dX12_error_16 : decode cX12_error 16 = .ok (.ifCond .lt 8, 3) := by decide +kernel
theorem dX12_error_19 : decode cX12_error 19 = .ok (.iload_n 2, 1) := by decide +kernel
theorem dX12_error_20 : decode cX12_error 20 = .ok (.iconst 1, 1) := by decide +kernel
theorem dX12_error_21 : decode cX12_error 21 = .ok (.if_icmp .le 13, 3) := by decide +kernel
theorem dX12_error_24 : decode cX12_error 24 = .ok (.new 81, 3) := by decide +kernel
theorem dX12_error_27 : decode cX12_error 27 = .ok (.dup, 1) := by decide +kernel
theorem dX12_error_28 : decode cX12_error 28 = .ok (.ldc 83, 2) := by decide +kernel
theorem dX12_error_30 : decode cX12_error 30 = .ok (.invokespecial 85, 3) := by decide +kernel
theorem dX12_error_33 : decode cX12_error 33 = .ok (.athrow, 1) := by decide +kernel
theorem dX12_error_34 : decode cX12_error 34 = .ok (.iload_n 2, 1) := by decide +kernel
theorem dX12_error_35 : decode cX12_error 35 = .ok (.ifCond .ne 15, 3) := by decide +kernel
theorem dX12_error_38 : decode cX12_error 38 = .ok (.aload_n 0, 1) := by decide +kernel
theorem dX12_error_39 : decode cX12_error 39 = .ok (.getfield 16, 3) := by decide +kernel
theorem dX12_error_42 : decode cX12_error 42 = .ok (.getfield 86, 3) := by decide +kernel
theorem dX12_error_45 : decode cX12_error 45 = .ok (.iload_n 1, 1) := by decide +kernel
theorem dX12_error_46 : decode cX12_error 46 = .ok (.iaload, 1) := by decide +kernel
theorem dX12_error_47 : decode cX12_error 47 = .ok (.goto 12, 3) := by decide +kernel
theorem dX12_error_50 : decode cX12_error 50 = .ok (.aload_n 0, 1) := by decide +kernel
theorem dX12_error_51 : decode cX12_error 51 = .ok (.getfield 16, 3) := by decide +kernel
theorem dX12_error_54 : decode cX12_error 54 = .ok (.getfield 90, 3) := by decide +kernel
theorem dX12_error_57 : decode cX12_error 57 = .ok (.iload_n 1, 1) := by decide +kernel
theorem dX12_error_58 : decode cX12_error 58 = .ok (.iaload, 1) := by decide +kernel
theorem dX12_error_59 : decode cX12_error 59 = .ok (.ireturn, 1) := by decide +kernel
theorem dX12_word_0 : decode cX12_word 0 = .ok (.iload_n 1, 1) := by decide +kernel
theorem dX12_word_1 : decode cX12_word 1 = .ok (.ifCond .lt 14, 3) := by decide +kernel
theorem dX12_word_4 : decode cX12_word 4 = .ok (.iload_n 1, 1) := by decide +kernel
theorem dX12_word_5 : decode cX12_word 5 = .ok (.aload_n 0, 1) := by decide +kernel
theorem dX12_word_6 : decode cX12_word 6 = .ok (.getfield 25, 3) := by decide +kernel
theorem dX12_word_9 : decode cX12_word 9 = .ok (.getfield 78, 3) := by decide +kernel
theorem dX12_word_12 : decode cX12_word 12 = .ok (.if_icmp .lt 13, 3) := by decide +kernel
theorem dX12_word_15 : decode cX12_word 15 = .ok (.new 81, 3) := by decide +kernel
theorem dX12_word_18 : decode cX12_word 18 = .ok (.dup, 1) := by decide +kernel
theorem dX12_word_19 : decode cX12_word 19 = .ok (.ldc 93, 2) := by decide +kernel
theorem dX12_word_21 : decode cX12_word 21 = .ok (.invokespecial 85, 3) := by decide +kernel
theorem dX12_word_24 : decode cX12_word 24 = .ok (.athrow, 1) := by decide +kernel
theorem dX12_word_25 : decode cX12_word 25 = .ok (.aload_n 0, 1) := by decide +kernel
theorem dX12_word_26 : decode cX12_word 26 = .ok (.getfield 25, 3) := by decide +kernel
theorem dX12_word_29 : decode cX12_word 29 = .ok (.iload_n 1, 1) := by decide +kernel
theorem dX12_word_30 : decode cX12_word 30 = .ok (.invokevirtual 95, 3) := by decide +kernel
theorem dX12_word_33 : decode cX12_word 33 = .ok (.ireturn, 1) := by decide +kernel
theorem dX12_statement_0 : decode cX12_statement 0 = .ok (.iload_n 1, 1) := by decide +kernel
theorem dX12_statement_1 : decode cX12_statement 1 = .ok (.ifCond .lt 23, 3) := by decide +kernel
theorem dX12_statement_4 : decode cX12_statement 4 = .ok (.iload_n 1, 1) := by decide +kernel
theorem dX12_statement_5 : decode cX12_statement 5 = .ok (.aload_n 0, 1) := by decide +kernel
theorem dX12_statement_6 : decode cX12_statement 6 = .ok (.getfield 25, 3) := by decide +kernel
theorem dX12_statement_9 : decode cX12_statement 9 = .ok (.getfield 99, 3) := by decide +kernel
theorem dX12_statement_12 : decode cX12_statement 12 = .ok (.if_icmp .ge 12, 3) := by decide +kernel
theorem dX12_statement_15 : decode cX12_statement 15 = .ok (.iload_n 2, 1) := by decide +kernel
theorem dX12_statement_16 : decode cX12_statement 16 = .ok (.ifCond .lt 8, 3) := by decide +kernel
theorem dX12_statement_19 : decode cX12_statement 19 = .ok (.iload_n 2, 1) := by decide +kernel
theorem dX12_statement_20 : decode cX12_statement 20 = .ok (.iconst 3, 1) := by decide +kernel
theorem dX12_statement_21 : decode cX12_statement 21 = .ok (.if_icmp .le 13, 3) := by decide +kernel
theorem dX12_statement_24 : decode cX12_statement 24 = .ok (.new 81, 3) := by decide +kernel
theorem dX12_statement_27 : decode cX12_statement 27 = .ok (.dup, 1) := by decide +kernel
theorem dX12_statement_28 : decode cX12_statement 28 = .ok (.ldc 102, 2) := by decide +kernel
theorem dX12_statement_30 : decode cX12_statement 30 = .ok (.invokespecial 85, 3) := by decide +kernel
theorem dX12_statement_33 : decode cX12_statement 33 = .ok (.athrow, 1) := by decide +kernel
theorem dX12_statement_34 : decode cX12_statement 34 = .ok (.aload_n 0, 1) := by decide +kernel
theorem dX12_statement_35 : decode cX12_statement 35 = .ok (.getfield 25, 3) := by decide +kernel
theorem dX12_statement_38 : decode cX12_statement 38 = .ok (.getfield 104, 3) := by decide +kernel
theorem dX12_statement_41 : decode cX12_statement 41 = .ok (.iload_n 1, 1) := by decide +kernel
theorem dX12_statement_42 : decode cX12_statement 42 = .ok (.aaload, 1) := by decide +kernel
theorem dX12_statement_43 : decode cX12_statement 43 = .ok (.iload_n 2, 1) := by decide +kernel
theorem dX12_statement_44 : decode cX12_statement 44 = .ok (.invokevirtual 108, 3) := by decide +kernel
theorem dX12_statement_47 : decode cX12_statement 47 = .ok (.ireturn, 1) := by decide +kernel
theorem dX12_name_0 : decode cX12_name 0 = .ok (.aload_n 0, 1) := by decide +kernel
theorem dX12_name_1 : decode cX12_name 1 = .ok (.getfield 25, 3) := by decide +kernel
theorem dX12_name_4 : decode cX12_name 4 = .ok (.getfield 113, 3) := by decide +kernel
theorem dX12_name_7 : decode cX12_name 7 = .ok (.astore_n 3, 1) := by decide +kernel
theorem dX12_name_8 : decode cX12_name 8 = .ok (.iload_n 2, 1) := by decide +kernel
theorem dX12_name_9 : decode cX12_name 9 = .ok (.ifCond .ne 15, 3) := by decide +kernel
theorem dX12_name_12 : decode cX12_name 12 = .ok (.iload_n 1, 1) := by decide +kernel
theorem dX12_name_13 : decode cX12_name 13 = .ok (.aload_n 3, 1) := by decide +kernel
theorem dX12_name_14 : decode cX12_name 14 = .ok (.getfield 117, 3) := by decide +kernel
theorem dX12_name_17 : decode cX12_name 17 = .ok (.if_icmp .ge 7, 3) := by decide +kernel
theorem dX12_name_20 : decode cX12_name 20 = .ok (.iconst 1, 1) := by decide +kernel
theorem dX12_name_21 : decode cX12_name 21 = .ok (.goto 4, 3) := by decide +kernel
theorem dX12_name_24 : decode cX12_name 24 = .ok (.iconst 0, 1) := by decide +kernel
theorem dX12_name_25 : decode cX12_name 25 = .ok (.istore 4, 2) := by decide +kernel
theorem dX12_name_27 : decode cX12_name 27 = .ok (.iload_n 2, 1) := by decide +kernel
theorem dX12_name_28 : decode cX12_name 28 = .ok (.iconst 1, 1) := by decide +kernel
theorem dX12_name_29 : decode cX12_name 29 = .ok (.if_icmp .ne 15, 3) := by decide +kernel
theorem dX12_name_32 : decode cX12_name 32 = .ok (.iload_n 1, 1) := by decide +kernel
theorem dX12_name_33 : decode cX12_name 33 = .ok (.aload_n 3, 1) := by decide +kernel
theorem dX12_name_34 : decode cX12_name 34 = .ok (.getfield 122, 3) := by decide +kernel
theorem dX12_name_37 : decode cX12_name 37 = .ok (.if_icmp .ge 7, 3) := by decide +kernel
theorem dX12_name_40 : decode cX12_name 40 = .ok (.iconst 1, 1) := by decide +kernel
theorem dX12_name_41 : decode cX12_name 41 = .ok (.goto 4, 3) := by decide +kernel
theorem dX12_name_44 : decode cX12_name 44 = .ok (.iconst 0, 1) := by decide +kernel
theorem dX12_name_45 : decode cX12_name 45 = .ok (.istore 5, 2) := by decide +kernel
theorem dX12_name_47 : decode cX12_name 47 = .ok (.iload_n 1, 1) := by decide +kernel
theorem dX12_name_48 : decode cX12_name 48 = .ok (.ifCond .lt 13, 3) := by decide +kernel
theorem dX12_name_51 : decode cX12_name 51 = .ok (.iload 4, 2) := by decide +kernel
theorem dX12_name_53 : decode cX12_name 53 = .ok (.ifCond .ne 18, 3) := by decide +kernel
theorem dX12_name_56 : decode cX12_name 56 = .ok (.iload 5, 2) := by decide +kernel
theorem dX12_name_58 : decode cX12_name 58 = .ok (.ifCond .ne 13, 3) := by decide +kernel
theorem dX12_name_61 : decode cX12_name 61 = .ok (.new 81, 3) := by decide +kernel
theorem dX12_name_64 : decode cX12_name 64 = .ok (.dup, 1) := by decide +kernel
theorem dX12_name_65 : decode cX12_name 65 = .ok (.ldc 125, 2) := by decide +kernel
theorem dX12_name_67 : decode cX12_name 67 = .ok (.invokespecial 85, 3) := by decide +kernel
theorem dX12_name_70 : decode cX12_name 70 = .ok (.athrow, 1) := by decide +kernel
theorem dX12_name_71 : decode cX12_name 71 = .ok (.iload 4, 2) := by decide +kernel
theorem dX12_name_73 : decode cX12_name 73 = .ok (.ifCond .eq 11, 3) := by decide +kernel
theorem dX12_name_76 : decode cX12_name 76 = .ok (.aload_n 3, 1) := by decide +kernel
theorem dX12_name_77 : decode cX12_name 77 = .ok (.iload_n 1, 1) := by decide +kernel
theorem dX12_name_78 : decode cX12_name 78 = .ok (.invokevirtual 127, 3) := by decide +kernel
theorem dX12_name_81 : decode cX12_name 81 = .ok (.goto 8, 3) := by decide +kernel
theorem dX12_name_84 : decode cX12_name 84 = .ok (.aload_n 3, 1) := by decide +kernel
theorem dX12_name_85 : decode cX12_name 85 = .ok (.iload_n 1, 1) := by decide +kernel
theorem dX12_name_86 : decode cX12_name 86 = .ok (.invokevirtual 130, 3) := by decide +kernel
theorem dX12_name_89 : decode cX12_name 89 = .ok (.ireturn, 1) := by decide +kernel
theorem dX12_count_0 : decode cX12_count 0 = .ok (.iload_n 1, 1) := by decide +kernel
theorem dX12_count_1 : decode cX12_count 1 = .ok (.tableswitch 144 0 9 #[55, 60, 68, 76, 87, 98, 109, 120, 128, 136], 55) := by decide +kernel
theorem dX12_count_56 : decode cX12_count 56 = .ok (.aload_n 0, 1) := by decide +kernel
theorem dX12_count_57 : decode cX12_count 57 = .ok (.getfield 38, 3) := by decide +kernel
theorem dX12_count_60 : decode cX12_count 60 = .ok (.ireturn, 1) := by decide +kernel
theorem dX12_count_61 : decode cX12_count 61 = .ok (.aload_n 0, 1) := by decide +kernel
theorem dX12_count_62 : decode cX12_count 62 = .ok (.getfield 25, 3) := by decide +kernel
theorem dX12_count_65 : decode cX12_count 65 = .ok (.getfield 78, 3) := by decide +kernel
theorem dX12_count_68 : decode cX12_count 68 = .ok (.ireturn, 1) := by decide +kernel
theorem dX12_count_69 : decode cX12_count 69 = .ok (.aload_n 0, 1) := by decide +kernel
theorem dX12_count_70 : decode cX12_count 70 = .ok (.getfield 25, 3) := by decide +kernel
theorem dX12_count_73 : decode cX12_count 73 = .ok (.getfield 99, 3) := by decide +kernel
theorem dX12_count_76 : decode cX12_count 76 = .ok (.ireturn, 1) := by decide +kernel
theorem dX12_count_77 : decode cX12_count 77 = .ok (.aload_n 0, 1) := by decide +kernel
theorem dX12_count_78 : decode cX12_count 78 = .ok (.getfield 25, 3) := by decide +kernel
theorem dX12_count_81 : decode cX12_count 81 = .ok (.getfield 113, 3) := by decide +kernel
theorem dX12_count_84 : decode cX12_count 84 = .ok (.getfield 117, 3) := by decide +kernel
theorem dX12_count_87 : decode cX12_count 87 = .ok (.ireturn, 1) := by decide +kernel
theorem dX12_count_88 : decode cX12_count 88 = .ok (.aload_n 0, 1) := by decide +kernel
theorem dX12_count_89 : decode cX12_count 89 = .ok (.getfield 25, 3) := by decide +kernel
theorem dX12_count_92 : decode cX12_count 92 = .ok (.getfield 113, 3) := by decide +kernel
theorem dX12_count_95 : decode cX12_count 95 = .ok (.getfield 122, 3) := by decide +kernel
theorem dX12_count_98 : decode cX12_count 98 = .ok (.ireturn, 1) := by decide +kernel
theorem dX12_count_99 : decode cX12_count 99 = .ok (.aload_n 0, 1) := by decide +kernel
theorem dX12_count_100 : decode cX12_count 100 = .ok (.getfield 34, 3) := by decide +kernel
theorem dX12_count_103 : decode cX12_count 103 = .ok (.getfield 133, 3) := by decide +kernel
theorem dX12_count_106 : decode cX12_count 106 = .ok (.getfield 137, 3) := by decide +kernel
theorem dX12_count_109 : decode cX12_count 109 = .ok (.ireturn, 1) := by decide +kernel
theorem dX12_count_110 : decode cX12_count 110 = .ok (.aload_n 0, 1) := by decide +kernel
theorem dX12_count_111 : decode cX12_count 111 = .ok (.getfield 34, 3) := by decide +kernel
theorem dX12_count_114 : decode cX12_count 114 = .ok (.getfield 140, 3) := by decide +kernel
theorem dX12_count_117 : decode cX12_count 117 = .ok (.getfield 143, 3) := by decide +kernel
theorem dX12_count_120 : decode cX12_count 120 = .ok (.ireturn, 1) := by decide +kernel
theorem dX12_count_121 : decode cX12_count 121 = .ok (.aload_n 0, 1) := by decide +kernel
theorem dX12_count_122 : decode cX12_count 122 = .ok (.getfield 25, 3) := by decide +kernel
theorem dX12_count_125 : decode cX12_count 125 = .ok (.getfield 146, 3) := by decide +kernel
theorem dX12_count_128 : decode cX12_count 128 = .ok (.ireturn, 1) := by decide +kernel
theorem dX12_count_129 : decode cX12_count 129 = .ok (.aload_n 0, 1) := by decide +kernel
theorem dX12_count_130 : decode cX12_count 130 = .ok (.getfield 16, 3) := by decide +kernel
theorem dX12_count_133 : decode cX12_count 133 = .ok (.getfield 70, 3) := by decide +kernel
theorem dX12_count_136 : decode cX12_count 136 = .ok (.ireturn, 1) := by decide +kernel
theorem dX12_count_137 : decode cX12_count 137 = .ok (.aload_n 0, 1) := by decide +kernel
theorem dX12_count_138 : decode cX12_count 138 = .ok (.getfield 25, 3) := by decide +kernel
theorem dX12_count_141 : decode cX12_count 141 = .ok (.invokevirtual 149, 3) := by decide +kernel
theorem dX12_count_144 : decode cX12_count 144 = .ok (.ireturn, 1) := by decide +kernel
theorem dX12_count_145 : decode cX12_count 145 = .ok (.iconst (-1), 1) := by decide +kernel
theorem dX12_count_146 : decode cX12_count 146 = .ok (.ireturn, 1) := by decide +kernel
theorem dX12_assemble_0 : decode cX12_assemble 0 = .ok (.aload_n 0, 1) := by decide +kernel
theorem dX12_assemble_1 : decode cX12_assemble 1 = .ok (.invokevirtual 60, 3) := by decide +kernel
theorem dX12_assemble_4 : decode cX12_assemble 4 = .ok (.aload_n 0, 1) := by decide +kernel
theorem dX12_assemble_5 : decode cX12_assemble 5 = .ok (.getfield 16, 3) := by decide +kernel
theorem dX12_assemble_8 : decode cX12_assemble 8 = .ok (.invokevirtual 63, 3) := by decide +kernel
theorem dX12_assemble_11 : decode cX12_assemble 11 = .ok (.aload_n 0, 1) := by decide +kernel
theorem dX12_assemble_12 : decode cX12_assemble 12 = .ok (.getfield 34, 3) := by decide +kernel
theorem dX12_assemble_15 : decode cX12_assemble 15 = .ok (.aload_n 0, 1) := by decide +kernel
theorem dX12_assemble_16 : decode cX12_assemble 16 = .ok (.getfield 9, 3) := by decide +kernel
theorem dX12_assemble_19 : decode cX12_assemble 19 = .ok (.aload_n 0, 1) := by decide +kernel
theorem dX12_assemble_20 : decode cX12_assemble 20 = .ok (.getfield 38, 3) := by decide +kernel
theorem dX12_assemble_23 : decode cX12_assemble 23 = .ok (.invokevirtual 66, 3) := by decide +kernel
theorem dX12_assemble_26 : decode cX12_assemble 26 = .ok (.aload_n 0, 1) := by decide +kernel
theorem dX12_assemble_27 : decode cX12_assemble 27 = .ok (.iconst 0, 1) := by decide +kernel
theorem dX12_assemble_28 : decode cX12_assemble 28 = .ok (.putfield 38, 3) := by decide +kernel
theorem dX12_assemble_31 : decode cX12_assemble 31 = .ok (.aload_n 0, 1) := by decide +kernel
theorem dX12_assemble_32 : decode cX12_assemble 32 = .ok (.getfield 16, 3) := by decide +kernel
theorem dX12_assemble_35 : decode cX12_assemble 35 = .ok (.getfield 70, 3) := by decide +kernel
theorem dX12_assemble_38 : decode cX12_assemble 38 = .ok (.ifCond .ne 10, 3) := by decide +kernel
theorem dX12_assemble_41 : decode cX12_assemble 41 = .ok (.aload_n 0, 1) := by decide +kernel
theorem dX12_assemble_42 : decode cX12_assemble 42 = .ok (.getfield 25, 3) := by decide +kernel
theorem dX12_assemble_45 : decode cX12_assemble 45 = .ok (.invokevirtual 73, 3) := by decide +kernel
theorem dX12_assemble_48 : decode cX12_assemble 48 = .ok (.aload_n 0, 1) := by decide +kernel
theorem dX12_assemble_49 : decode cX12_assemble 49 = .ok (.getfield 16, 3) := by decide +kernel
theorem dX12_assemble_52 : decode cX12_assemble 52 = .ok (.getfield 70, 3) := by decide +kernel
theorem dX12_assemble_55 : decode cX12_assemble 55 = .ok (.ifCond .le 17, 3) := by decide +kernel
theorem dX12_assemble_58 : decode cX12_assemble 58 = .ok (.aload_n 0, 1) := by decide +kernel
theorem dX12_assemble_59 : decode cX12_assemble 59 = .ok (.invokevirtual 60, 3) := by decide +kernel
theorem dX12_assemble_62 : decode cX12_assemble 62 = .ok (.new 53, 3) := by decide +kernel
theorem dX12_assemble_65 : decode cX12_assemble 65 = .ok (.dup, 1) := by decide +kernel
theorem dX12_assemble_66 : decode cX12_assemble 66 = .ok (.ldc 76, 2) := by decide +kernel
theorem dX12_assemble_68 : decode cX12_assemble 68 = .ok (.invokespecial 57, 3) := by decide +kernel
theorem dX12_assemble_71 : decode cX12_assemble 71 = .ok (.athrow, 1) := by decide +kernel
theorem dX12_assemble_72 : decode cX12_assemble 72 = .ok (.aload_n 0, 1) := by decide +kernel
theorem dX12_assemble_73 : decode cX12_assemble 73 = .ok (.getfield 25, 3) := by decide +kernel
theorem dX12_assemble_76 : decode cX12_assemble 76 = .ok (.getfield 78, 3) := by decide +kernel
theorem dX12_assemble_79 : decode cX12_assemble 79 = .ok (.ireturn, 1) := by decide +kernel

