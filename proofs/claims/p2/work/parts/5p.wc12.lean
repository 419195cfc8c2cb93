set_option maxRecDepth 20000 in
theorem w_1_111 : (Jvm.Cond.fieldLink "AssembleLines$TurnOne" (154 : Nat) "AssembleLines$Expressions" "held" "I") ∈ b_Ws := bw_1 (List.mem_of_getElem? (i := 111) rfl) rfl
set_option maxRecDepth 20000 in
theorem w_1_114 : (Jvm.Cond.fieldLink "AssembleLines$TurnOne" (191 : Nat) "AssembleLines$Expressions" "isSettled" "Z") ∈ b_Ws := bw_1 (List.mem_of_getElem? (i := 114) rfl) rfl
set_option maxRecDepth 20000 in
theorem w_1_143 : (Jvm.Cond.fieldLink "AssembleLines$TurnOne" (327 : Nat) "AssembleLines$Statement" "operation" "LAssembleLines$Operation;") ∈ b_Ws := bw_1 (List.mem_of_getElem? (i := 143) rfl) rfl
set_option maxRecDepth 20000 in
theorem w_1_148 : (Jvm.Cond.fieldLink "AssembleLines$TurnOne" (331 : Nat) "AssembleLines$Statement" "label" "I") ∈ b_Ws := bw_1 (List.mem_of_getElem? (i := 148) rfl) rfl
set_option maxRecDepth 20000 in
theorem w_1_162 : (Jvm.Cond.fieldLink "AssembleLines$TurnOne" (304 : Nat) "AssembleLines$Statement" "size" "I") ∈ b_Ws := bw_1 (List.mem_of_getElem? (i := 162) rfl) rfl
set_option maxRecDepth 20000 in
theorem w_2_82 : (Jvm.Cond.fieldLink "AssembleLines$TurnOne" (85 : Nat) "AssembleLines$Lines" "bytes" "[B") ∈ b_Ws := bw_2 (List.mem_of_getElem? (i := 82) rfl) rfl
set_option maxRecDepth 20000 in
theorem w_2_85 : (Jvm.Cond.fieldLink "AssembleLines$TurnOne" (93 : Nat) "AssembleLines$Lines" "to" "I") ∈ b_Ws := bw_2 (List.mem_of_getElem? (i := 85) rfl) rfl
set_option maxRecDepth 20000 in
theorem w_2_88 : (Jvm.Cond.fieldLink "AssembleLines$TurnOne" (307 : Nat) "AssembleLines$Lines" "next" "I") ∈ b_Ws := bw_2 (List.mem_of_getElem? (i := 88) rfl) rfl
set_option maxRecDepth 20000 in
theorem w_3_103 : (Jvm.Cond.methodLink "AssembleLines$TurnOne" (72 : Nat) ({ cls := "AssembleLines$Lines", name := "start", desc := "([BI)V" } : Jvm.MethodName)) ∈ b_Ws := bw_3 (List.mem_of_getElem? (i := 103) rfl) rfl
set_option maxRecDepth 20000 in
theorem w_3_104 : (Jvm.Cond.instanceMethod ({ cls := "AssembleLines$Lines", name := "start", desc := "([BI)V" } : Jvm.MethodName)) ∈ b_Ws := bw_3 (List.mem_of_getElem? (i := 104) rfl) rfl
set_option maxRecDepth 20000 in
theorem w_3_105 : (Jvm.Cond.selects "AssembleLines$Lines" ({ cls := "AssembleLines$Lines", name := "start", desc := "([BI)V" } : Jvm.MethodName) ({ cls := "AssembleLines$Lines", name := "start", desc := "([BI)V" } : Jvm.MethodName)) ∈ b_Ws := bw_3 (List.mem_of_getElem? (i := 105) rfl) rfl
set_option maxRecDepth 20000 in
theorem w_3_106 : (Jvm.Cond.code ({ cls := "AssembleLines$Lines", name := "start", desc := "([BI)V" } : Jvm.MethodName) prog_6_method_2_code (3 : Nat) (Option.none : Option Jvm.ClassFile.FieldType)) ∈ b_Ws := bw_3 (List.mem_of_getElem? (i := 106) rfl) rfl
set_option maxRecDepth 20000 in
theorem w_3_108 : (Jvm.Cond.constant "AssembleLines$TurnOne" (80 : Nat) (1000000 : Int32)) ∈ b_Ws := bw_3 (List.mem_of_getElem? (i := 108) rfl) rfl
set_option maxRecDepth 20000 in
theorem w_3_109 : (Jvm.Cond.methodLink "AssembleLines$TurnOne" (81 : Nat) ({ cls := "AssembleLines$Lines", name := "advance", desc := "()Z" } : Jvm.MethodName)) ∈ b_Ws := bw_3 (List.mem_of_getElem? (i := 109) rfl) rfl
set_option maxRecDepth 20000 in
theorem w_3_110 : (Jvm.Cond.instanceMethod ({ cls := "AssembleLines$Lines", name := "advance", desc := "()Z" } : Jvm.MethodName)) ∈ b_Ws := bw_3 (List.mem_of_getElem? (i := 110) rfl) rfl
set_option maxRecDepth 20000 in
theorem w_3_111 : (Jvm.Cond.selects "AssembleLines$Lines" ({ cls := "AssembleLines$Lines", name := "advance", desc := "()Z" } : Jvm.MethodName) ({ cls := "AssembleLines$Lines", name := "advance", desc := "()Z" } : Jvm.MethodName)) ∈ b_Ws := bw_3 (List.mem_of_getElem? (i := 111) rfl) rfl
set_option maxRecDepth 20000 in
theorem w_3_112 : (Jvm.Cond.code ({ cls := "AssembleLines$Lines", name := "advance", desc := "()Z" } : Jvm.MethodName) prog_6_method_4_code (1 : Nat) (Option.some Jvm.ClassFile.FieldType.boolean)) ∈ b_Ws := bw_3 (List.mem_of_getElem? (i := 112) rfl) rfl
set_option maxRecDepth 20000 in
theorem w_3_146 : (Jvm.Cond.methodLink "AssembleLines$TurnOne" (96 : Nat) ({ cls := "AssembleLines$Scanner", name := "start", desc := "([BII)V" } : Jvm.MethodName)) ∈ b_Ws := bw_3 (List.mem_of_getElem? (i := 146) rfl) rfl
set_option maxRecDepth 20000 in
theorem w_3_147 : (Jvm.Cond.instanceMethod ({ cls := "AssembleLines$Scanner", name := "start", desc := "([BII)V" } : Jvm.MethodName)) ∈ b_Ws := bw_3 (List.mem_of_getElem? (i := 147) rfl) rfl
set_option maxRecDepth 20000 in
theorem w_3_148 : (Jvm.Cond.selects "AssembleLines$Scanner" ({ cls := "AssembleLines$Scanner", name := "start", desc := "([BII)V" } : Jvm.MethodName) ({ cls := "AssembleLines$Scanner", name := "start", desc := "([BII)V" } : Jvm.MethodName)) ∈ b_Ws := bw_3 (List.mem_of_getElem? (i := 148) rfl) rfl
set_option maxRecDepth 20000 in
theorem w_3_149 : (Jvm.Cond.code ({ cls := "AssembleLines$Scanner", name := "start", desc := "([BII)V" } : Jvm.MethodName) prog_11_method_2_code (4 : Nat) (Option.none : Option Jvm.ClassFile.FieldType)) ∈ b_Ws := bw_3 (List.mem_of_getElem? (i := 149) rfl) rfl
set_option maxRecDepth 20000 in
theorem w_3_150 : (Jvm.Cond.methodLink "AssembleLines$TurnOne" (99 : Nat) ({ cls := "AssembleLines$TurnOne", name := "passLine", desc := "()V" } : Jvm.MethodName)) ∈ b_Ws := bw_3 (List.mem_of_getElem? (i := 150) rfl) rfl
set_option maxRecDepth 20000 in
theorem w_3_152 : (Jvm.Cond.instanceMethod ({ cls := "AssembleLines$TurnOne", name := "passLine", desc := "()V" } : Jvm.MethodName)) ∈ b_Ws := bw_3 (List.mem_of_getElem? (i := 152) rfl) rfl
set_option maxRecDepth 20000 in
theorem w_3_153 : (Jvm.Cond.code ({ cls := "AssembleLines$TurnOne", name := "passLine", desc := "()V" } : Jvm.MethodName) prog_13_method_4_code (2 : Nat) (Option.none : Option Jvm.ClassFile.FieldType)) ∈ b_Ws := bw_3 (List.mem_of_getElem? (i := 153) rfl) rfl
set_option maxRecDepth 20000 in
theorem w_4_13 : (Jvm.Cond.methodLink "AssembleLines$TurnOne" (102 : Nat) ({ cls := "AssembleLines$TurnOne", name := "look", desc := "()I" } : Jvm.MethodName)) ∈ b_Ws := bw_4 (List.mem_of_getElem? (i := 13) rfl) rfl
set_option maxRecDepth 20000 in
theorem w_4_15 : (Jvm.Cond.instanceMethod ({ cls := "AssembleLines$TurnOne", name := "look", desc := "()I" } : Jvm.MethodName)) ∈ b_Ws := bw_4 (List.mem_of_getElem? (i := 15) rfl) rfl
set_option maxRecDepth 20000 in
theorem w_4_16 : (Jvm.Cond.code ({ cls := "AssembleLines$TurnOne", name := "look", desc := "()I" } : Jvm.MethodName) prog_13_method_5_code (1 : Nat) (Option.some Jvm.ClassFile.FieldType.int)) ∈ b_Ws := bw_4 (List.mem_of_getElem? (i := 16) rfl) rfl
set_option maxRecDepth 20000 in
theorem w_4_17 : (Jvm.Cond.methodLink "AssembleLines$TurnOne" (165 : Nat) ({ cls := "AssembleLines$Statement", name := "clear", desc := "(II)V" } : Jvm.MethodName)) ∈ b_Ws := bw_4 (List.mem_of_getElem? (i := 17) rfl) rfl
set_option maxRecDepth 20000 in
theorem w_4_18 : (Jvm.Cond.instanceMethod ({ cls := "AssembleLines$Statement", name := "clear", desc := "(II)V" } : Jvm.MethodName)) ∈ b_Ws := bw_4 (List.mem_of_getElem? (i := 18) rfl) rfl
set_option maxRecDepth 20000 in
theorem w_4_19 : (Jvm.Cond.selects "AssembleLines$Statement" ({ cls := "AssembleLines$Statement", name := "clear", desc := "(II)V" } : Jvm.MethodName) ({ cls := "AssembleLines$Statement", name := "clear", desc := "(II)V" } : Jvm.MethodName)) ∈ b_Ws := bw_4 (List.mem_of_getElem? (i := 19) rfl) rfl
set_option maxRecDepth 20000 in
theorem w_4_20 : (Jvm.Cond.code ({ cls := "AssembleLines$Statement", name := "clear", desc := "(II)V" } : Jvm.MethodName) prog_12_method_2_code (3 : Nat) (Option.none : Option Jvm.ClassFile.FieldType)) ∈ b_Ws := bw_4 (List.mem_of_getElem? (i := 20) rfl) rfl
set_option maxRecDepth 20000 in
theorem w_4_21 : (Jvm.Cond.methodLink "AssembleLines$TurnOne" (170 : Nat) ({ cls := "AssembleLines$TurnOne", name := "readHead", desc := "()Z" } : Jvm.MethodName)) ∈ b_Ws := bw_4 (List.mem_of_getElem? (i := 21) rfl) rfl
set_option maxRecDepth 20000 in
theorem w_4_23 : (Jvm.Cond.instanceMethod ({ cls := "AssembleLines$TurnOne", name := "readHead", desc := "()Z" } : Jvm.MethodName)) ∈ b_Ws := bw_4 (List.mem_of_getElem? (i := 23) rfl) rfl
set_option maxRecDepth 20000 in
theorem w_4_24 : (Jvm.Cond.code ({ cls := "AssembleLines$TurnOne", name := "readHead", desc := "()Z" } : Jvm.MethodName) prog_13_method_6_code (1 : Nat) (Option.some Jvm.ClassFile.FieldType.boolean)) ∈ b_Ws := bw_4 (List.mem_of_getElem? (i := 24) rfl) rfl
set_option maxRecDepth 20000 in
theorem w_4_41 : (Jvm.Cond.methodLink "AssembleLines$TurnOne" (176 : Nat) ({ cls := "AssembleLines$TurnOne", name := "readAhead", desc := "()Z" } : Jvm.MethodName)) ∈ b_Ws := bw_4 (List.mem_of_getElem? (i := 41) rfl) rfl
set_option maxRecDepth 20000 in
theorem w_4_43 : (Jvm.Cond.instanceMethod ({ cls := "AssembleLines$TurnOne", name := "readAhead", desc := "()Z" } : Jvm.MethodName)) ∈ b_Ws := bw_4 (List.mem_of_getElem? (i := 43) rfl) rfl
set_option maxRecDepth 20000 in
theorem w_4_44 : (Jvm.Cond.code ({ cls := "AssembleLines$TurnOne", name := "readAhead", desc := "()Z" } : Jvm.MethodName) prog_13_method_7_code (1 : Nat) (Option.some Jvm.ClassFile.FieldType.boolean)) ∈ b_Ws := bw_4 (List.mem_of_getElem? (i := 44) rfl) rfl
set_option maxRecDepth 20000 in
theorem w_4_90 : (Jvm.Cond.methodLink "AssembleLines$TurnOne" (179 : Nat) ({ cls := "AssembleLines$TurnOne", name := "readValues", desc := "()Z" } : Jvm.MethodName)) ∈ b_Ws := bw_4 (List.mem_of_getElem? (i := 90) rfl) rfl
set_option maxRecDepth 20000 in
theorem w_4_92 : (Jvm.Cond.instanceMethod ({ cls := "AssembleLines$TurnOne", name := "readValues", desc := "()Z" } : Jvm.MethodName)) ∈ b_Ws := bw_4 (List.mem_of_getElem? (i := 92) rfl) rfl
set_option maxRecDepth 20000 in
theorem w_4_93 : (Jvm.Cond.code ({ cls := "AssembleLines$TurnOne", name := "readValues", desc := "()Z" } : Jvm.MethodName) prog_13_method_11_code (2 : Nat) (Option.some Jvm.ClassFile.FieldType.boolean)) ∈ b_Ws := bw_4 (List.mem_of_getElem? (i := 93) rfl) rfl
set_option maxRecDepth 20000 in
theorem w_4_152 : (Jvm.Cond.methodLink "AssembleLines$TurnOne" (185 : Nat) ({ cls := "AssembleLines$TurnOne", name := "isTwice", desc := "()Z" } : Jvm.MethodName)) ∈ b_Ws := bw_4 (List.mem_of_getElem? (i := 152) rfl) rfl
set_option maxRecDepth 20000 in
theorem w_4_154 : (Jvm.Cond.instanceMethod ({ cls := "AssembleLines$TurnOne", name := "isTwice", desc := "()Z" } : Jvm.MethodName)) ∈ b_Ws := bw_4 (List.mem_of_getElem? (i := 154) rfl) rfl
set_option maxRecDepth 20000 in
theorem w_4_155 : (Jvm.Cond.code ({ cls := "AssembleLines$TurnOne", name := "isTwice", desc := "()Z" } : Jvm.MethodName) prog_13_method_12_code (1 : Nat) (Option.some Jvm.ClassFile.FieldType.boolean)) ∈ b_Ws := bw_4 (List.mem_of_getElem? (i := 155) rfl) rfl
set_option maxRecDepth 20000 in
theorem w_4_161 : (Jvm.Cond.methodLink "AssembleLines$TurnOne" (188 : Nat) ({ cls := "AssembleLines$TurnOne", name := "wantsSetNames", desc := "()Z" } : Jvm.MethodName)) ∈ b_Ws := bw_4 (List.mem_of_getElem? (i := 161) rfl) rfl
set_option maxRecDepth 20000 in
theorem w_4_163 : (Jvm.Cond.instanceMethod ({ cls := "AssembleLines$TurnOne", name := "wantsSetNames", desc := "()Z" } : Jvm.MethodName)) ∈ b_Ws := bw_4 (List.mem_of_getElem? (i := 163) rfl) rfl
set_option maxRecDepth 20000 in
theorem w_4_164 : (Jvm.Cond.code ({ cls := "AssembleLines$TurnOne", name := "wantsSetNames", desc := "()Z" } : Jvm.MethodName) prog_13_method_13_code (1 : Nat) (Option.some Jvm.ClassFile.FieldType.boolean)) ∈ b_Ws := bw_4 (List.mem_of_getElem? (i := 164) rfl) rfl
set_option maxRecDepth 20000 in
theorem w_4_167 : (Jvm.Cond.methodLink "AssembleLines$TurnOne" (197 : Nat) ({ cls := "AssembleLines$Expressions", name := "constant", desc := "(I)I" } : Jvm.MethodName)) ∈ b_Ws := bw_4 (List.mem_of_getElem? (i := 167) rfl) rfl
set_option maxRecDepth 20000 in
theorem w_4_168 : (Jvm.Cond.instanceMethod ({ cls := "AssembleLines$Expressions", name := "constant", desc := "(I)I" } : Jvm.MethodName)) ∈ b_Ws := bw_4 (List.mem_of_getElem? (i := 168) rfl) rfl
set_option maxRecDepth 20000 in
theorem w_4_169 : (Jvm.Cond.selects "AssembleLines$Expressions" ({ cls := "AssembleLines$Expressions", name := "constant", desc := "(I)I" } : Jvm.MethodName) ({ cls := "AssembleLines$Expressions", name := "constant", desc := "(I)I" } : Jvm.MethodName)) ∈ b_Ws := bw_4 (List.mem_of_getElem? (i := 169) rfl) rfl
set_option maxRecDepth 20000 in
theorem w_4_170 : (Jvm.Cond.code ({ cls := "AssembleLines$Expressions", name := "constant", desc := "(I)I" } : Jvm.MethodName) prog_5_method_6_code (2 : Nat) (Option.some Jvm.ClassFile.FieldType.int)) ∈ b_Ws := bw_4 (List.mem_of_getElem? (i := 170) rfl) rfl
set_option maxRecDepth 20000 in
theorem w_4_171 : (Jvm.Cond.methodLink "AssembleLines$TurnOne" (201 : Nat) ({ cls := "AssembleLines$TurnOne", name := "isSpace", desc := "(I)Z" } : Jvm.MethodName)) ∈ b_Ws := bw_4 (List.mem_of_getElem? (i := 171) rfl) rfl
set_option maxRecDepth 20000 in
theorem w_4_172 : (Jvm.Cond.static ({ cls := "AssembleLines$TurnOne", name := "isSpace", desc := "(I)Z" } : Jvm.MethodName)) ∈ b_Ws := bw_4 (List.mem_of_getElem? (i := 172) rfl) rfl
set_option maxRecDepth 20000 in
theorem w_4_173 : (Jvm.Cond.code ({ cls := "AssembleLines$TurnOne", name := "isSpace", desc := "(I)Z" } : Jvm.MethodName) prog_13_method_14_code (1 : Nat) (Option.some Jvm.ClassFile.FieldType.boolean)) ∈ b_Ws := bw_4 (List.mem_of_getElem? (i := 173) rfl) rfl
set_option maxRecDepth 20000 in
theorem w_4_174 : (Jvm.Cond.methodLink "AssembleLines$TurnOne" (205 : Nat) ({ cls := "AssembleLines$TurnOne", name := "isTooMuch", desc := "()Z" } : Jvm.MethodName)) ∈ b_Ws := bw_4 (List.mem_of_getElem? (i := 174) rfl) rfl
set_option maxRecDepth 20000 in
theorem w_4_176 : (Jvm.Cond.instanceMethod ({ cls := "AssembleLines$TurnOne", name := "isTooMuch", desc := "()Z" } : Jvm.MethodName)) ∈ b_Ws := bw_4 (List.mem_of_getElem? (i := 176) rfl) rfl
set_option maxRecDepth 20000 in
theorem w_4_177 : (Jvm.Cond.code ({ cls := "AssembleLines$TurnOne", name := "isTooMuch", desc := "()Z" } : Jvm.MethodName) prog_13_method_15_code (1 : Nat) (Option.some Jvm.ClassFile.FieldType.boolean)) ∈ b_Ws := bw_4 (List.mem_of_getElem? (i := 177) rfl) rfl
set_option maxRecDepth 20000 in
theorem w_4_202 : (Jvm.Cond.methodLink "AssembleLines$TurnOne" (106 : Nat) ({ cls := "AssembleLines$TurnOne", name := "accept", desc := "()V" } : Jvm.MethodName)) ∈ b_Ws := bw_4 (List.mem_of_getElem? (i := 202) rfl) rfl
set_option maxRecDepth 20000 in
theorem w_4_204 : (Jvm.Cond.instanceMethod ({ cls := "AssembleLines$TurnOne", name := "accept", desc := "()V" } : Jvm.MethodName)) ∈ b_Ws := bw_4 (List.mem_of_getElem? (i := 204) rfl) rfl
set_option maxRecDepth 20000 in
theorem w_4_205 : (Jvm.Cond.code ({ cls := "AssembleLines$TurnOne", name := "accept", desc := "()V" } : Jvm.MethodName) prog_13_method_17_code (2 : Nat) (Option.none : Option Jvm.ClassFile.FieldType)) ∈ b_Ws := bw_4 (List.mem_of_getElem? (i := 205) rfl) rfl
set_option maxRecDepth 20000 in
theorem w_4_207 : (Jvm.Cond.methodLink "AssembleLines$TurnOne" (300 : Nat) ({ cls := "AssembleLines$Names", name := "addSet", desc := "(JI)V" } : Jvm.MethodName)) ∈ b_Ws := bw_4 (List.mem_of_getElem? (i := 207) rfl) rfl
set_option maxRecDepth 20000 in
theorem w_4_208 : (Jvm.Cond.instanceMethod ({ cls := "AssembleLines$Names", name := "addSet", desc := "(JI)V" } : Jvm.MethodName)) ∈ b_Ws := bw_4 (List.mem_of_getElem? (i := 208) rfl) rfl
set_option maxRecDepth 20000 in
theorem w_4_209 : (Jvm.Cond.selects "AssembleLines$Names" ({ cls := "AssembleLines$Names", name := "addSet", desc := "(JI)V" } : Jvm.MethodName) ({ cls := "AssembleLines$Names", name := "addSet", desc := "(JI)V" } : Jvm.MethodName)) ∈ b_Ws := bw_4 (List.mem_of_getElem? (i := 209) rfl) rfl
set_option maxRecDepth 20000 in
theorem w_4_210 : (Jvm.Cond.code ({ cls := "AssembleLines$Names", name := "addSet", desc := "(JI)V" } : Jvm.MethodName) prog_8_method_7_code (4 : Nat) (Option.none : Option Jvm.ClassFile.FieldType)) ∈ b_Ws := bw_4 (List.mem_of_getElem? (i := 210) rfl) rfl
set_option maxRecDepth 20000 in
theorem w_4_218 : (Jvm.Cond.methodLink "AssembleLines$TurnOne" (310 : Nat) ({ cls := "AssembleLines$Macros", name := "open", desc := "(JI)V" } : Jvm.MethodName)) ∈ b_Ws := bw_4 (List.mem_of_getElem? (i := 218) rfl) rfl
set_option maxRecDepth 20000 in
theorem w_4_219 : (Jvm.Cond.instanceMethod ({ cls := "AssembleLines$Macros", name := "open", desc := "(JI)V" } : Jvm.MethodName)) ∈ b_Ws := bw_4 (List.mem_of_getElem? (i := 219) rfl) rfl
set_option maxRecDepth 20000 in
theorem w_4_220 : (Jvm.Cond.selects "AssembleLines$Macros" ({ cls := "AssembleLines$Macros", name := "open", desc := "(JI)V" } : Jvm.MethodName) ({ cls := "AssembleLines$Macros", name := "open", desc := "(JI)V" } : Jvm.MethodName)) ∈ b_Ws := bw_4 (List.mem_of_getElem? (i := 220) rfl) rfl
set_option maxRecDepth 20000 in
theorem w_4_221 : (Jvm.Cond.code ({ cls := "AssembleLines$Macros", name := "open", desc := "(JI)V" } : Jvm.MethodName) prog_7_method_5_code (4 : Nat) (Option.none : Option Jvm.ClassFile.FieldType)) ∈ b_Ws := bw_4 (List.mem_of_getElem? (i := 221) rfl) rfl
set_option maxRecDepth 20000 in
theorem w_4_226 : (Jvm.Cond.methodLink "AssembleLines$TurnOne" (317 : Nat) ({ cls := "AssembleLines$Macros", name := "from", desc := "(I)I" } : Jvm.MethodName)) ∈ b_Ws := bw_4 (List.mem_of_getElem? (i := 226) rfl) rfl
set_option maxRecDepth 20000 in
theorem w_4_227 : (Jvm.Cond.instanceMethod ({ cls := "AssembleLines$Macros", name := "from", desc := "(I)I" } : Jvm.MethodName)) ∈ b_Ws := bw_4 (List.mem_of_getElem? (i := 227) rfl) rfl
set_option maxRecDepth 20000 in
theorem w_4_228 : (Jvm.Cond.selects "AssembleLines$Macros" ({ cls := "AssembleLines$Macros", name := "from", desc := "(I)I" } : Jvm.MethodName) ({ cls := "AssembleLines$Macros", name := "from", desc := "(I)I" } : Jvm.MethodName)) ∈ b_Ws := bw_4 (List.mem_of_getElem? (i := 228) rfl) rfl
set_option maxRecDepth 20000 in
theorem w_4_229 : (Jvm.Cond.code ({ cls := "AssembleLines$Macros", name := "from", desc := "(I)I" } : Jvm.MethodName) prog_7_method_7_code (2 : Nat) (Option.some Jvm.ClassFile.FieldType.int)) ∈ b_Ws := bw_4 (List.mem_of_getElem? (i := 229) rfl) rfl
set_option maxRecDepth 20000 in
theorem w_4_230 : (Jvm.Cond.methodLink "AssembleLines$TurnOne" (319 : Nat) ({ cls := "AssembleLines$Macros", name := "to", desc := "(I)I" } : Jvm.MethodName)) ∈ b_Ws := bw_4 (List.mem_of_getElem? (i := 230) rfl) rfl
set_option maxRecDepth 20000 in
theorem w_4_231 : (Jvm.Cond.instanceMethod ({ cls := "AssembleLines$Macros", name := "to", desc := "(I)I" } : Jvm.MethodName)) ∈ b_Ws := bw_4 (List.mem_of_getElem? (i := 231) rfl) rfl
set_option maxRecDepth 20000 in
theorem w_4_232 : (Jvm.Cond.selects "AssembleLines$Macros" ({ cls := "AssembleLines$Macros", name := "to", desc := "(I)I" } : Jvm.MethodName) ({ cls := "AssembleLines$Macros", name := "to", desc := "(I)I" } : Jvm.MethodName)) ∈ b_Ws := bw_4 (List.mem_of_getElem? (i := 232) rfl) rfl
set_option maxRecDepth 20000 in
theorem w_4_233 : (Jvm.Cond.code ({ cls := "AssembleLines$Macros", name := "to", desc := "(I)I" } : Jvm.MethodName) prog_7_method_8_code (2 : Nat) (Option.some Jvm.ClassFile.FieldType.int)) ∈ b_Ws := bw_4 (List.mem_of_getElem? (i := 233) rfl) rfl
set_option maxRecDepth 20000 in
theorem w_4_234 : (Jvm.Cond.methodLink "AssembleLines$TurnOne" (321 : Nat) ({ cls := "AssembleLines$Lines", name := "enter", desc := "(II)V" } : Jvm.MethodName)) ∈ b_Ws := bw_4 (List.mem_of_getElem? (i := 234) rfl) rfl
set_option maxRecDepth 20000 in
theorem w_4_235 : (Jvm.Cond.instanceMethod ({ cls := "AssembleLines$Lines", name := "enter", desc := "(II)V" } : Jvm.MethodName)) ∈ b_Ws := bw_4 (List.mem_of_getElem? (i := 235) rfl) rfl
set_option maxRecDepth 20000 in
theorem w_4_236 : (Jvm.Cond.selects "AssembleLines$Lines" ({ cls := "AssembleLines$Lines", name := "enter", desc := "(II)V" } : Jvm.MethodName) ({ cls := "AssembleLines$Lines", name := "enter", desc := "(II)V" } : Jvm.MethodName)) ∈ b_Ws := bw_4 (List.mem_of_getElem? (i := 236) rfl) rfl
set_option maxRecDepth 20000 in
theorem w_4_237 : (Jvm.Cond.code ({ cls := "AssembleLines$Lines", name := "enter", desc := "(II)V" } : Jvm.MethodName) prog_6_method_16_code (4 : Nat) (Option.none : Option Jvm.ClassFile.FieldType)) ∈ b_Ws := bw_4 (List.mem_of_getElem? (i := 237) rfl) rfl
set_option maxRecDepth 20000 in
theorem w_5_16 : (Jvm.Cond.fieldLink "AssembleLines$TurnOne" (324 : Nat) "AssembleLines$Operation" "LABEL" "LAssembleLines$Operation;") ∈ b_Ws := bw_5 (List.mem_of_getElem? (i := 16) rfl) rfl
set_option maxRecDepth 20000 in
theorem w_5_18 : (Jvm.Cond.methodLink "AssembleLines$TurnOne" (328 : Nat) ({ cls := "AssembleLines$Names", name := "addLabel", desc := "(J)I" } : Jvm.MethodName)) ∈ b_Ws := bw_5 (List.mem_of_getElem? (i := 18) rfl) rfl
set_option maxRecDepth 20000 in
theorem w_5_19 : (Jvm.Cond.instanceMethod ({ cls := "AssembleLines$Names", name := "addLabel", desc := "(J)I" } : Jvm.MethodName)) ∈ b_Ws := bw_5 (List.mem_of_getElem? (i := 19) rfl) rfl
set_option maxRecDepth 20000 in
theorem w_5_20 : (Jvm.Cond.selects "AssembleLines$Names" ({ cls := "AssembleLines$Names", name := "addLabel", desc := "(J)I" } : Jvm.MethodName) ({ cls := "AssembleLines$Names", name := "addLabel", desc := "(J)I" } : Jvm.MethodName)) ∈ b_Ws := bw_5 (List.mem_of_getElem? (i := 20) rfl) rfl
set_option maxRecDepth 20000 in
theorem w_5_21 : (Jvm.Cond.code ({ cls := "AssembleLines$Names", name := "addLabel", desc := "(J)I" } : Jvm.MethodName) prog_8_method_6_code (3 : Nat) (Option.some Jvm.ClassFile.FieldType.int)) ∈ b_Ws := bw_5 (List.mem_of_getElem? (i := 21) rfl) rfl
set_option maxRecDepth 20000 in
theorem w_5_22 : (Jvm.Cond.methodLink "AssembleLines$TurnOne" (333 : Nat) ({ cls := "AssembleLines$Program", name := "keepDraft", desc := "()V" } : Jvm.MethodName)) ∈ b_Ws := bw_5 (List.mem_of_getElem? (i := 22) rfl) rfl
set_option maxRecDepth 20000 in
theorem w_5_23 : (Jvm.Cond.instanceMethod ({ cls := "AssembleLines$Program", name := "keepDraft", desc := "()V" } : Jvm.MethodName)) ∈ b_Ws := bw_5 (List.mem_of_getElem? (i := 23) rfl) rfl
set_option maxRecDepth 20000 in
theorem w_5_24 : (Jvm.Cond.selects "AssembleLines$Program" ({ cls := "AssembleLines$Program", name := "keepDraft", desc := "()V" } : Jvm.MethodName) ({ cls := "AssembleLines$Program", name := "keepDraft", desc := "()V" } : Jvm.MethodName)) ∈ b_Ws := bw_5 (List.mem_of_getElem? (i := 24) rfl) rfl
set_option maxRecDepth 20000 in
theorem w_5_25 : (Jvm.Cond.code ({ cls := "AssembleLines$Program", name := "keepDraft", desc := "()V" } : Jvm.MethodName) prog_10_method_5_code (1 : Nat) (Option.none : Option Jvm.ClassFile.FieldType)) ∈ b_Ws := bw_5 (List.mem_of_getElem? (i := 25) rfl) rfl
set_option maxRecDepth 20000 in
theorem w_5_27 : (Jvm.Cond.methodLink "AssembleLines$TurnOne" (109 : Nat) ({ cls := "AssembleLines$TurnOne", name := "refuse", desc := "(I)V" } : Jvm.MethodName)) ∈ b_Ws := bw_5 (List.mem_of_getElem? (i := 27) rfl) rfl
set_option maxRecDepth 20000 in
theorem w_5_29 : (Jvm.Cond.instanceMethod ({ cls := "AssembleLines$TurnOne", name := "refuse", desc := "(I)V" } : Jvm.MethodName)) ∈ b_Ws := bw_5 (List.mem_of_getElem? (i := 29) rfl) rfl
set_option maxRecDepth 20000 in
theorem w_5_30 : (Jvm.Cond.code ({ cls := "AssembleLines$TurnOne", name := "refuse", desc := "(I)V" } : Jvm.MethodName) prog_13_method_18_code (2 : Nat) (Option.none : Option Jvm.ClassFile.FieldType)) ∈ b_Ws := bw_5 (List.mem_of_getElem? (i := 30) rfl) rfl
theorem dX11_look_0 : decode cX11_look 0 = .ok (.aload_n 0, 1) := by decide +kernel
theorem dX11_look_1 : decode cX11_look 1 = .ok (.getstatic 32, 3) := by decide +kernel
theorem dX11_look_4 : decode cX11_look 4 = .ok (.putfield 38, 3) := by decide +kernel
theorem dX11_look_7 : decode cX11_look 7 = .ok (.aload_n 0, 1) := by decide +kernel
theorem dX11_look_8 : decode cX11_look 8 = .ok (.lconst 0, 1) := by decide +kernel
theorem dX11_look_9 : decode cX11_look 9 = .ok (.putfield 147, 3) := by decide +kernel
theorem dX11_look_12 : decode cX11_look 12 = .ok (.aload_n 0, 1) := by decide +kernel
theorem dX11_look_13 : decode cX11_look 13 = .ok (.lconst 0, 1) := by decide +kernel
theorem dX11_look_14 : decode cX11_look 14 = .ok (.putfield 151, 3) := by decide +kernel
theorem dX11_look_17 : decode cX11_look 17 = .ok (.aload_n 0, 1) := by decide +kernel
theorem dX11_look_18 : decode cX11_look 18 = .ok (.aload_n 0, 1) := by decide +kernel
theorem dX11_look_19 : decode cX11_look 19 = .ok (.getfield 56, 3) := by decide +kernel
theorem dX11_look_22 : decode cX11_look 22 = .ok (.getfield 154, 3) := by decide +kernel
theorem dX11_look_25 : decode cX11_look 25 = .ok (.putfield 159, 3) := by decide +kernel
theorem dX11_look_28 : decode cX11_look 28 = .ok (.aload_n 0, 1) := by decide +kernel
theorem dX11_look_29 : decode cX11_look 29 = .ok (.aload_n 0, 1) := by decide +kernel
theorem dX11_look_30 : decode cX11_look 30 = .ok (.getfield 41, 3) := by decide +kernel
theorem dX11_look_33 : decode cX11_look 33 = .ok (.invokevirtual 61, 3) := by decide +kernel
theorem dX11_look_36 : decode cX11_look 36 = .ok (.putfield 65, 3) := by decide +kernel
theorem dX11_look_39 : decode cX11_look 39 = .ok (.aload_n 0, 1) := by decide +kernel
theorem dX11_look_40 : decode cX11_look 40 = .ok (.getfield 65, 3) := by decide +kernel
theorem dX11_look_43 : decode cX11_look 43 = .ok (.aload_n 0, 1) := by decide +kernel
theorem dX11_look_44 : decode cX11_look 44 = .ok (.getfield 28, 3) := by decide +kernel
theorem dX11_look_47 : decode cX11_look 47 = .ok (.getfield 162, 3) := by decide +kernel
theorem dX11_look_50 : decode cX11_look 50 = .ok (.aload_n 0, 1) := by decide +kernel
theorem dX11_look_51 : decode cX11_look 51 = .ok (.getfield 159, 3) := by decide +kernel
theorem dX11_look_54 : decode cX11_look 54 = .ok (.invokevirtual 165, 3) := by decide +kernel
theorem dX11_look_57 : decode cX11_look 57 = .ok (.aload_n 0, 1) := by decide +kernel
theorem dX11_look_58 : decode cX11_look 58 = .ok (.getfield 12, 3) := by decide +kernel
theorem dX11_look_61 : decode cX11_look 61 = .ok (.invokevirtual 125, 3) := by decide +kernel
theorem dX11_look_64 : decode cX11_look 64 = .ok (.ifCond .eq 10, 3) := by decide +kernel
theorem dX11_look_67 : decode cX11_look 67 = .ok (.aload_n 0, 1) := by decide +kernel
theorem dX11_look_68 : decode cX11_look 68 = .ok (.invokevirtual 170, 3) := by decide +kernel
theorem dX11_look_71 : decode cX11_look 71 = .ok (.ifCond .ne 5, 3) := by decide +kernel
theorem dX11_look_74 : decode cX11_look 74 = .ok (.iconst 1, 1) := by decide +kernel
theorem dX11_look_75 : decode cX11_look 75 = .ok (.ireturn, 1) := by decide +kernel
theorem dX11_look_76 : decode cX11_look 76 = .ok (.aload_n 0, 1) := by decide +kernel
theorem dX11_look_77 : decode cX11_look 77 = .ok (.getfield 38, 3) := by decide +kernel
theorem dX11_look_80 : decode cX11_look 80 = .ok (.getstatic 173, 3) := by decide +kernel
theorem dX11_look_83 : decode cX11_look 83 = .ok (.if_acmp .ne 5, 3) := by decide +kernel
theorem dX11_look_86 : decode cX11_look 86 = .ok (.iconst 2, 1) := by decide +kernel
theorem dX11_look_87 : decode cX11_look 87 = .ok (.ireturn, 1) := by decide +kernel
theorem dX11_look_88 : decode cX11_look 88 = .ok (.aload_n 0, 1) := by decide +kernel
theorem dX11_look_89 : decode cX11_look 89 = .ok (.invokevirtual 176, 3) := by decide +kernel
theorem dX11_look_92 : decode cX11_look 92 = .ok (.ifCond .eq 20, 3) := by decide +kernel
theorem dX11_look_95 : decode cX11_look 95 = .ok (.aload_n 0, 1) := by decide +kernel
theorem dX11_look_96 : decode cX11_look 96 = .ok (.invokevirtual 179, 3) := by decide +kernel
theorem dX11_look_99 : decode cX11_look 99 = .ok (.ifCond .eq 13, 3) := by decide +kernel
theorem dX11_look_102 : decode cX11_look 102 = .ok (.aload_n 0, 1) := by decide +kernel
theorem dX11_look_103 : decode cX11_look 103 = .ok (.getfield 12, 3) := by decide +kernel
theorem dX11_look_106 : decode cX11_look 106 = .ok (.invokevirtual 182, 3) := by decide +kernel
theorem dX11_look_109 : decode cX11_look 109 = .ok (.ifCond .ne 5, 3) := by decide +kernel
theorem dX11_look_112 : decode cX11_look 112 = .ok (.iconst 1, 1) := by decide +kernel
theorem dX11_look_113 : decode cX11_look 113 = .ok (.ireturn, 1) := by decide +kernel
theorem dX11_look_114 : decode cX11_look 114 = .ok (.aload_n 0, 1) := by decide +kernel
theorem dX11_look_115 : decode cX11_look 115 = .ok (.invokevirtual 185, 3) := by decide +kernel
theorem dX11_look_118 : decode cX11_look 118 = .ok (.ifCond .eq 5, 3) := by decide +kernel
theorem dX11_look_121 : decode cX11_look 121 = .ok (.iconst 3, 1) := by decide +kernel
theorem dX11_look_122 : decode cX11_look 122 = .ok (.ireturn, 1) := by decide +kernel
theorem dX11_look_123 : decode cX11_look 123 = .ok (.aload_n 0, 1) := by decide +kernel
theorem dX11_look_124 : decode cX11_look 124 = .ok (.invokevirtual 188, 3) := by decide +kernel
theorem dX11_look_127 : decode cX11_look 127 = .ok (.ifCond .eq 15, 3) := by decide +kernel
theorem dX11_look_130 : decode cX11_look 130 = .ok (.aload_n 0, 1) := by decide +kernel
theorem dX11_look_131 : decode cX11_look 131 = .ok (.getfield 56, 3) := by decide +kernel
theorem dX11_look_134 : decode cX11_look 134 = .ok (.getfield 191, 3) := by decide +kernel
theorem dX11_look_137 : decode cX11_look 137 = .ok (.ifCond .ne 5, 3) := by decide +kernel
theorem dX11_look_140 : decode cX11_look 140 = .ok (.iconst 4, 1) := by decide +kernel
theorem dX11_look_141 : decode cX11_look 141 = .ok (.ireturn, 1) := by decide +kernel
theorem dX11_look_142 : decode cX11_look 142 = .ok (.aload_n 0, 1) := by decide +kernel
theorem dX11_look_143 : decode cX11_look 143 = .ok (.getfield 38, 3) := by decide +kernel
theorem dX11_look_146 : decode cX11_look 146 = .ok (.getstatic 194, 3) := by decide +kernel
theorem dX11_look_149 : decode cX11_look 149 = .ok (.if_acmp .ne 22, 3) := by decide +kernel
theorem dX11_look_152 : decode cX11_look 152 = .ok (.aload_n 0, 1) := by decide +kernel
theorem dX11_look_153 : decode cX11_look 153 = .ok (.getfield 56, 3) := by decide +kernel
theorem dX11_look_156 : decode cX11_look 156 = .ok (.aload_n 0, 1) := by decide +kernel
theorem dX11_look_157 : decode cX11_look 157 = .ok (.getfield 159, 3) := by decide +kernel
theorem dX11_look_160 : decode cX11_look 160 = .ok (.invokevirtual 197, 3) := by decide +kernel
theorem dX11_look_163 : decode cX11_look 163 = .ok (.invokestatic 201, 3) := by decide +kernel
theorem dX11_look_166 : decode cX11_look 166 = .ok (.ifCond .ne 5, 3) := by decide +kernel
theorem dX11_look_169 : decode cX11_look 169 = .ok (.iconst 5, 1) := by decide +kernel
theorem dX11_look_170 : decode cX11_look 170 = .ok (.ireturn, 1) := by decide +kernel
theorem dX11_look_171 : decode cX11_look 171 = .ok (.aload_n 0, 1) := by decide +kernel
theorem dX11_look_172 : decode cX11_look 172 = .ok (.invokevirtual 205, 3) := by decide +kernel
theorem dX11_look_175 : decode cX11_look 175 = .ok (.ifCond .eq 8, 3) := by decide +kernel
theorem dX11_look_178 : decode cX11_look 178 = .ok (.bipush 6, 2) := by decide +kernel
theorem dX11_look_180 : decode cX11_look 180 = .ok (.goto 4, 3) := by decide +kernel
theorem dX11_look_183 : decode cX11_look 183 = .ok (.iconst 0, 1) := by decide +kernel
theorem dX11_look_184 : decode cX11_look 184 = .ok (.ireturn, 1) := by decide +kernel
theorem dX11_accept_0 : decode cX11_accept 0 = .ok (.aload_n 0, 1) := by decide +kernel
theorem dX11_accept_1 : decode cX11_accept 1 = .ok (.getfield 56, 3) := by decide +kernel
theorem dX11_accept_4 : decode cX11_accept 4 = .ok (.aload_n 0, 1) := by decide +kernel
theorem dX11_accept_5 : decode cX11_accept 5 = .ok (.getfield 159, 3) := by decide +kernel
theorem dX11_accept_8 : decode cX11_accept 8 = .ok (.invokevirtual 197, 3) := by decide +kernel
theorem dX11_accept_11 : decode cX11_accept 11 = .ok (.istore_n 1, 1) := by decide +kernel
theorem dX11_accept_12 : decode cX11_accept 12 = .ok (.aload_n 0, 1) := by decide +kernel
theorem dX11_accept_13 : decode cX11_accept 13 = .ok (.invokevirtual 188, 3) := by decide +kernel
theorem dX11_accept_16 : decode cX11_accept 16 = .ok (.ifCond .eq 22, 3) := by decide +kernel
theorem dX11_accept_19 : decode cX11_accept 19 = .ok (.aload_n 0, 1) := by decide +kernel
theorem dX11_accept_20 : decode cX11_accept 20 = .ok (.getfield 56, 3) := by decide +kernel
theorem dX11_accept_23 : decode cX11_accept 23 = .ok (.aload_n 0, 1) := by decide +kernel
theorem dX11_accept_24 : decode cX11_accept 24 = .ok (.getfield 159, 3) := by decide +kernel
theorem dX11_accept_27 : decode cX11_accept 27 = .ok (.invokevirtual 297, 3) := by decide +kernel
theorem dX11_accept_30 : decode cX11_accept 30 = .ok (.aload_n 0, 1) := by decide +kernel
theorem dX11_accept_31 : decode cX11_accept 31 = .ok (.getfield 65, 3) := by decide +kernel
theorem dX11_accept_34 : decode cX11_accept 34 = .ok (.iconst 0, 1) := by decide +kernel
theorem dX11_accept_35 : decode cX11_accept 35 = .ok (.putfield 271, 3) := by decide +kernel
theorem dX11_accept_38 : decode cX11_accept 38 = .ok (.aload_n 0, 1) := by decide +kernel
theorem dX11_accept_39 : decode cX11_accept 39 = .ok (.getfield 38, 3) := by decide +kernel
theorem dX11_accept_42 : decode cX11_accept 42 = .ok (.getstatic 277, 3) := by decide +kernel
theorem dX11_accept_45 : decode cX11_accept 45 = .ok (.if_acmp .ne 15, 3) := by decide +kernel
theorem dX11_accept_48 : decode cX11_accept 48 = .ok (.aload_n 0, 1) := by decide +kernel
theorem dX11_accept_49 : decode cX11_accept 49 = .ok (.getfield 51, 3) := by decide +kernel
theorem dX11_accept_52 : decode cX11_accept 52 = .ok (.aload_n 0, 1) := by decide +kernel
theorem dX11_accept_53 : decode cX11_accept 53 = .ok (.getfield 151, 3) := by decide +kernel
theorem dX11_accept_56 : decode cX11_accept 56 = .ok (.iload_n 1, 1) := by decide +kernel
theorem dX11_accept_57 : decode cX11_accept 57 = .ok (.invokevirtual 300, 3) := by decide +kernel
theorem dX11_accept_60 : decode cX11_accept 60 = .ok (.aload_n 0, 1) := by decide +kernel
theorem dX11_accept_61 : decode cX11_accept 61 = .ok (.getfield 38, 3) := by decide +kernel
theorem dX11_accept_64 : decode cX11_accept 64 = .ok (.getstatic 194, 3) := by decide +kernel
theorem dX11_accept_67 : decode cX11_accept 67 = .ok (.if_acmp .ne 11, 3) := by decide +kernel
theorem dX11_accept_70 : decode cX11_accept 70 = .ok (.aload_n 0, 1) := by decide +kernel
theorem dX11_accept_71 : decode cX11_accept 71 = .ok (.getfield 65, 3) := by decide +kernel
theorem dX11_accept_74 : decode cX11_accept 74 = .ok (.iload_n 1, 1) := by decide +kernel
theorem dX11_accept_75 : decode cX11_accept 75 = .ok (.putfield 304, 3) := by decide +kernel
theorem dX11_accept_78 : decode cX11_accept 78 = .ok (.aload_n 0, 1) := by decide +kernel
theorem dX11_accept_79 : decode cX11_accept 79 = .ok (.getfield 38, 3) := by decide +kernel
theorem dX11_accept_82 : decode cX11_accept 82 = .ok (.getstatic 280, 3) := by decide +kernel
theorem dX11_accept_85 : decode cX11_accept 85 = .ok (.if_acmp .ne 26, 3) := by decide +kernel
theorem dX11_accept_88 : decode cX11_accept 88 = .ok (.aload_n 0, 1) := by decide +kernel
theorem dX11_accept_89 : decode cX11_accept 89 = .ok (.getfield 21, 3) := by decide +kernel
theorem dX11_accept_92 : decode cX11_accept 92 = .ok (.aload_n 0, 1) := by decide +kernel
theorem dX11_accept_93 : decode cX11_accept 93 = .ok (.getfield 151, 3) := by decide +kernel
theorem dX11_accept_96 : decode cX11_accept 96 = .ok (.aload_n 0, 1) := by decide +kernel
theorem dX11_accept_97 : decode cX11_accept 97 = .ok (.getfield 28, 3) := by decide +kernel
theorem dX11_accept_100 : decode cX11_accept 100 = .ok (.getfield 307, 3) := by decide +kernel
theorem dX11_accept_103 : decode cX11_accept 103 = .ok (.invokevirtual 310, 3) := by decide +kernel
theorem dX11_accept_106 : decode cX11_accept 106 = .ok (.aload_n 0, 1) := by decide +kernel
theorem dX11_accept_107 : decode cX11_accept 107 = .ok (.iconst 1, 1) := by decide +kernel
theorem dX11_accept_108 : decode cX11_accept 108 = .ok (.invokevirtual 313, 3) := by decide +kernel
theorem dX11_accept_111 : decode cX11_accept 111 = .ok (.aload_n 0, 1) := by decide +kernel
theorem dX11_accept_112 : decode cX11_accept 112 = .ok (.getfield 38, 3) := by decide +kernel
theorem dX11_accept_115 : decode cX11_accept 115 = .ok (.getstatic 221, 3) := by decide +kernel
theorem dX11_accept_118 : decode cX11_accept 118 = .ok (.if_acmp .ne 32, 3) := by decide +kernel
theorem dX11_accept_121 : decode cX11_accept 121 = .ok (.aload_n 0, 1) := by decide +kernel
theorem dX11_accept_122 : decode cX11_accept 122 = .ok (.getfield 28, 3) := by decide +kernel
theorem dX11_accept_125 : decode cX11_accept 125 = .ok (.aload_n 0, 1) := by decide +kernel
theorem dX11_accept_126 : decode cX11_accept 126 = .ok (.getfield 21, 3) := by decide +kernel
theorem dX11_accept_129 : decode cX11_accept 129 = .ok (.aload_n 0, 1) := by decide +kernel
theorem dX11_accept_130 : decode cX11_accept 130 = .ok (.getfield 218, 3) := by decide +kernel
theorem dX11_accept_133 : decode cX11_accept 133 = .ok (.invokevirtual 317, 3) := by decide +kernel
theorem dX11_accept_136 : decode cX11_accept 136 = .ok (.aload_n 0, 1) := by decide +kernel
theorem dX11_accept_137 : decode cX11_accept 137 = .ok (.getfield 21, 3) := by decide +kernel
theorem dX11_accept_140 : decode cX11_accept 140 = .ok (.aload_n 0, 1) := by decide +kernel
theorem dX11_accept_141 : decode cX11_accept 141 = .ok (.getfield 218, 3) := by decide +kernel
theorem dX11_accept_144 : decode cX11_accept 144 = .ok (.invokevirtual 319, 3) := by decide +kernel
theorem dX11_accept_147 : decode cX11_accept 147 = .ok (.invokevirtual 321, 3) := by decide +kernel
theorem dX11_accept_150 : decode cX11_accept 150 = .ok (.aload_n 0, 1) := by decide +kernel
theorem dX11_accept_151 : decode cX11_accept 151 = .ok (.invokevirtual 291, 3) := by decide +kernel
theorem dX11_accept_154 : decode cX11_accept 154 = .ok (.ifCond .eq 68, 3) := by decide +kernel
theorem dX11_accept_157 : decode cX11_accept 157 = .ok (.aload_n 0, 1) := by decide +kernel
theorem dX11_accept_158 : decode cX11_accept 158 = .ok (.getfield 65, 3) := by decide +kernel
theorem dX11_accept_161 : decode cX11_accept 161 = .ok (.aload_n 0, 1) := by decide +kernel
theorem dX11_accept_162 : decode cX11_accept 162 = .ok (.getfield 38, 3) := by decide +kernel
theorem dX11_accept_165 : decode cX11_accept 165 = .ok (.getfield 295, 3) := by decide +kernel
theorem dX11_accept_168 : decode cX11_accept 168 = .ok (.ifCond .eq 10, 3) := by decide +kernel
theorem dX11_accept_171 : decode cX11_accept 171 = .ok (.aload_n 0, 1) := by decide +kernel
theorem dX11_accept_172 : decode cX11_accept 172 = .ok (.getfield 38, 3) := by decide +kernel
theorem dX11_accept_175 : decode cX11_accept 175 = .ok (.goto 6, 3) := by decide +kernel
theorem dX11_accept_178 : decode cX11_accept 178 = .ok (.getstatic 324, 3) := by decide +kernel
theorem dX11_accept_181 : decode cX11_accept 181 = .ok (.putfield 327, 3) := by decide +kernel
theorem dX11_accept_184 : decode cX11_accept 184 = .ok (.aload_n 0, 1) := by decide +kernel
theorem dX11_accept_185 : decode cX11_accept 185 = .ok (.getfield 65, 3) := by decide +kernel
theorem dX11_accept_188 : decode cX11_accept 188 = .ok (.aload_n 0, 1) := by decide +kernel
theorem dX11_accept_189 : decode cX11_accept 189 = .ok (.getfield 147, 3) := by decide +kernel
theorem dX11_accept_192 : decode cX11_accept 192 = .ok (.lconst 0, 1) := by decide +kernel
theorem dX11_accept_193 : decode cX11_accept 193 = .ok (.lcmp, 1) := by decide +kernel
theorem dX11_accept_194 : decode cX11_accept 194 = .ok (.ifCond .ne 7, 3) := by decide +kernel
theorem dX11_accept_197 : decode cX11_accept 197 = .ok (.iconst (-1), 1) := by decide +kernel
theorem dX11_accept_198 : decode cX11_accept 198 = .ok (.goto 14, 3) := by decide +kernel
theorem dX11_accept_201 : decode cX11_accept 201 = .ok (.aload_n 0, 1) := by decide +kernel
theorem dX11_accept_202 : decode cX11_accept 202 = .ok (.getfield 51, 3) := by decide +kernel
theorem dX11_accept_205 : decode cX11_accept 205 = .ok (.aload_n 0, 1) := by decide +kernel
theorem dX11_accept_206 : decode cX11_accept 206 = .ok (.getfield 147, 3) := by decide +kernel
theorem dX11_accept_209 : decode cX11_accept 209 = .ok (.invokevirtual 328, 3) := by decide +kernel
theorem dX11_accept_212 : decode cX11_accept 212 = .ok (.putfield 331, 3) := by decide +kernel
theorem dX11_accept_215 : decode cX11_accept 215 = .ok (.aload_n 0, 1) := by decide +kernel
theorem dX11_accept_216 : decode cX11_accept 216 = .ok (.getfield 41, 3) := by decide +kernel
theorem dX11_accept_219 : decode cX11_accept 219 = .ok (.invokevirtual 333, 3) := by decide +kernel
theorem dX11_accept_222 : decode cX11_accept 222 = .ok (.return_, 1) := by decide +kernel
theorem dX11_run_0 : decode cX11_run 0 = .ok (.aload_n 0, 1) := by decide +kernel
theorem dX11_run_1 : decode cX11_run 1 = .ok (.getfield 28, 3) := by decide +kernel
theorem dX11_run_4 : decode cX11_run 4 = .ok (.aload_n 1, 1) := by decide +kernel
theorem dX11_run_5 : decode cX11_run 5 = .ok (.iload_n 2, 1) := by decide +kernel
theorem dX11_run_6 : decode cX11_run 6 = .ok (.invokevirtual 72, 3) := by decide +kernel
theorem dX11_run_9 : decode cX11_run 9 = .ok (.aload_n 0, 1) := by decide +kernel
theorem dX11_run_10 : decode cX11_run 10 = .ok (.iconst 0, 1) := by decide +kernel
theorem dX11_run_11 : decode cX11_run 11 = .ok (.putfield 76, 3) := by decide +kernel
theorem dX11_run_14 : decode cX11_run 14 = .ok (.iconst 0, 1) := by decide +kernel
theorem dX11_run_15 : decode cX11_run 15 = .ok (.istore_n 3, 1) := by decide +kernel
theorem dX11_run_16 : decode cX11_run 16 = .ok (.iload_n 3, 1) := by decide +kernel
theorem dX11_run_17 : decode cX11_run 17 = .ok (.ldc 80, 2) := by decide +kernel
theorem dX11_run_19 : decode cX11_run 19 = .ok (.if_icmp .ge 85, 3) := by decide +kernel
theorem dX11_run_22 : decode cX11_run 22 = .ok (.aload_n 0, 1) := by decide +kernel
theorem dX11_run_23 : decode cX11_run 23 = .ok (.getfield 28, 3) := by decide +kernel
theorem dX11_run_26 : decode cX11_run 26 = .ok (.invokevirtual 81, 3) := by decide +kernel
theorem dX11_run_29 : decode cX11_run 29 = .ok (.ifCond .eq 75, 3) := by decide +kernel
theorem dX11_run_32 : decode cX11_run 32 = .ok (.aload_n 0, 1) := by decide +kernel
theorem dX11_run_33 : decode cX11_run 33 = .ok (.getfield 12, 3) := by decide +kernel
theorem dX11_run_36 : decode cX11_run 36 = .ok (.aload_n 0, 1) := by decide +kernel
theorem dX11_run_37 : decode cX11_run 37 = .ok (.getfield 28, 3) := by decide +kernel
theorem dX11_run_40 : decode cX11_run 40 = .ok (.getfield 85, 3) := by decide +kernel
theorem dX11_run_43 : decode cX11_run 43 = .ok (.aload_n 0, 1) := by decide +kernel
theorem dX11_run_44 : decode cX11_run 44 = .ok (.getfield 28, 3) := by decide +kernel
theorem dX11_run_47 : decode cX11_run 47 = .ok (.getfield 89, 3) := by decide +kernel
theorem dX11_run_50 : decode cX11_run 50 = .ok (.aload_n 0, 1) := by decide +kernel
theorem dX11_run_51 : decode cX11_run 51 = .ok (.getfield 28, 3) := by decide +kernel
theorem dX11_run_54 : decode cX11_run 54 = .ok (.getfield 93, 3) := by decide +kernel
theorem dX11_run_57 : decode cX11_run 57 = .ok (.invokevirtual 96, 3) := by decide +kernel
theorem dX11_run_60 : decode cX11_run 60 = .ok (.aload_n 0, 1) := by decide +kernel
theorem dX11_run_61 : decode cX11_run 61 = .ok (.getfield 76, 3) := by decide +kernel
theorem dX11_run_64 : decode cX11_run 64 = .ok (.ifCond .eq 10, 3) := by decide +kernel
theorem dX11_run_67 : decode cX11_run 67 = .ok (.aload_n 0, 1) := by decide +kernel
theorem dX11_run_68 : decode cX11_run 68 = .ok (.invokevirtual 99, 3) := by decide +kernel
theorem dX11_run_71 : decode cX11_run 71 = .ok (.goto 27, 3) := by decide +kernel
theorem dX11_run_74 : decode cX11_run 74 = .ok (.aload_n 0, 1) := by decide +kernel
theorem dX11_run_75 : decode cX11_run 75 = .ok (.invokevirtual 102, 3) := by decide +kernel
theorem dX11_run_78 : decode cX11_run 78 = .ok (.istore 4, 2) := by decide +kernel
theorem dX11_run_80 : decode cX11_run 80 = .ok (.iload 4, 2) := by decide +kernel
theorem dX11_run_82 : decode cX11_run 82 = .ok (.ifCond .ne 10, 3) := by decide +kernel
theorem dX11_run_85 : decode cX11_run 85 = .ok (.aload_n 0, 1) := by decide +kernel
theorem dX11_run_86 : decode cX11_run 86 = .ok (.invokevirtual 106, 3) := by decide +kernel
theorem dX11_run_89 : decode cX11_run 89 = .ok (.goto 9, 3) := by decide +kernel
theorem dX11_run_92 : decode cX11_run 92 = .ok (.aload_n 0, 1) := by decide +kernel
theorem dX11_run_93 : decode cX11_run 93 = .ok (.iload 4, 2) := by decide +kernel
theorem dX11_run_95 : decode cX11_run 95 = .ok (.invokevirtual 109, 3) := by decide +kernel
theorem dX11_run_98 : decode cX11_run 98 = .ok (.iinc 3 1, 3) := by decide +kernel
theorem dX11_run_101 : decode cX11_run 101 = .ok (.goto (-85), 3) := by decide +kernel
theorem dX11_run_104 : decode cX11_run 104 = .ok (.aload_n 0, 1) := by decide +kernel
theorem dX11_run_105 : decode cX11_run 105 = .ok (.getfield 76, 3) := by decide +kernel
theorem dX11_run_108 : decode cX11_run 108 = .ok (.ifCond .eq 22, 3) := by decide +kernel
theorem dX11_run_111 : decode cX11_run 111 = .ok (.aload_n 0, 1) := by decide +kernel
theorem dX11_run_112 : decode cX11_run 112 = .ok (.getfield 113, 3) := by decide +kernel
theorem dX11_run_115 : decode cX11_run 115 = .ok (.ifCond .eq 15, 3) := by decide +kernel
theorem dX11_run_118 : decode cX11_run 118 = .ok (.aload_n 0, 1) := by decide +kernel
theorem dX11_run_119 : decode cX11_run 119 = .ok (.getfield 57, 3) := by decide +kernel
theorem dX11_run_122 : decode cX11_run 122 = .ok (.iconst 1, 1) := by decide +kernel
theorem dX11_run_123 : decode cX11_run 123 = .ok (.aload_n 0, 1) := by decide +kernel
theorem dX11_run_124 : decode cX11_run 124 = .ok (.getfield 116, 3) := by decide +kernel
theorem dX11_run_127 : decode cX11_run 127 = .ok (.invokevirtual 119, 3) := by decide +kernel
theorem dX11_run_130 : decode cX11_run 130 = .ok (.return_, 1) := by decide +kernel

