set_option maxRecDepth 20000 in
theorem w_1_234 : (Jvm.Cond.fieldLink "AssembleLines$Scanner" (15 : Nat) "AssembleLines$Scanner" "at" "I") ∈ b_Ws := bw_1 (List.mem_of_getElem? (i := 234) rfl) rfl
set_option maxRecDepth 20000 in
theorem w_1_235 : (Jvm.Cond.fieldLink "AssembleLines$Scanner" (19 : Nat) "AssembleLines$Scanner" "to" "I") ∈ b_Ws := bw_1 (List.mem_of_getElem? (i := 235) rfl) rfl
set_option maxRecDepth 20000 in
theorem w_1_237 : (Jvm.Cond.fieldLink "AssembleLines$Scanner" (29 : Nat) "AssembleLines$Scanner" "wordFrom" "I") ∈ b_Ws := bw_1 (List.mem_of_getElem? (i := 237) rfl) rfl
set_option maxRecDepth 20000 in
theorem w_1_239 : (Jvm.Cond.fieldLink "AssembleLines$Scanner" (38 : Nat) "AssembleLines$Scanner" "wordTo" "I") ∈ b_Ws := bw_1 (List.mem_of_getElem? (i := 239) rfl) rfl
set_option maxRecDepth 20000 in
theorem w_2_1 : (Jvm.Cond.fieldLink "AssembleLines$Scanner" (41 : Nat) "AssembleLines$Scanner" "packedWord" "J") ∈ b_Ws := bw_2 (List.mem_of_getElem? (i := 1) rfl) rfl
set_option maxRecDepth 20000 in
theorem w_3_162 : (Jvm.Cond.methodLink "AssembleLines$Scanner" (22 : Nat) ({ cls := "AssembleLines$Scanner", name := "passBlanks", desc := "()V" } : Jvm.MethodName)) ∈ b_Ws := bw_3 (List.mem_of_getElem? (i := 162) rfl) rfl
set_option maxRecDepth 20000 in
theorem w_3_163 : (Jvm.Cond.instanceMethod ({ cls := "AssembleLines$Scanner", name := "passBlanks", desc := "()V" } : Jvm.MethodName)) ∈ b_Ws := bw_3 (List.mem_of_getElem? (i := 163) rfl) rfl
set_option maxRecDepth 20000 in
theorem w_3_164 : (Jvm.Cond.selects "AssembleLines$Scanner" ({ cls := "AssembleLines$Scanner", name := "passBlanks", desc := "()V" } : Jvm.MethodName) ({ cls := "AssembleLines$Scanner", name := "passBlanks", desc := "()V" } : Jvm.MethodName)) ∈ b_Ws := bw_3 (List.mem_of_getElem? (i := 164) rfl) rfl
set_option maxRecDepth 20000 in
theorem w_3_165 : (Jvm.Cond.code ({ cls := "AssembleLines$Scanner", name := "passBlanks", desc := "()V" } : Jvm.MethodName) prog_11_method_5_code (1 : Nat) (Option.none : Option Jvm.ClassFile.FieldType)) ∈ b_Ws := bw_3 (List.mem_of_getElem? (i := 165) rfl) rfl
set_option maxRecDepth 20000 in
theorem w_3_166 : (Jvm.Cond.methodLink "AssembleLines$Scanner" (49 : Nat) ({ cls := "AssembleLines$Scanner", name := "readName", desc := "()J" } : Jvm.MethodName)) ∈ b_Ws := bw_3 (List.mem_of_getElem? (i := 166) rfl) rfl
set_option maxRecDepth 20000 in
theorem w_3_167 : (Jvm.Cond.instanceMethod ({ cls := "AssembleLines$Scanner", name := "readName", desc := "()J" } : Jvm.MethodName)) ∈ b_Ws := bw_3 (List.mem_of_getElem? (i := 167) rfl) rfl
set_option maxRecDepth 20000 in
theorem w_3_168 : (Jvm.Cond.selects "AssembleLines$Scanner" ({ cls := "AssembleLines$Scanner", name := "readName", desc := "()J" } : Jvm.MethodName) ({ cls := "AssembleLines$Scanner", name := "readName", desc := "()J" } : Jvm.MethodName)) ∈ b_Ws := bw_3 (List.mem_of_getElem? (i := 168) rfl) rfl
set_option maxRecDepth 20000 in
theorem w_3_169 : (Jvm.Cond.code ({ cls := "AssembleLines$Scanner", name := "readName", desc := "()J" } : Jvm.MethodName) prog_11_method_9_code (4 : Nat) (Option.some Jvm.ClassFile.FieldType.long)) ∈ b_Ws := bw_3 (List.mem_of_getElem? (i := 169) rfl) rfl
set_option maxRecDepth 20000 in
theorem w_3_170 : (Jvm.Cond.methodLink "AssembleLines$Scanner" (32 : Nat) ({ cls := "AssembleLines$Scanner", name := "packedDigit", desc := "(BZ)I" } : Jvm.MethodName)) ∈ b_Ws := bw_3 (List.mem_of_getElem? (i := 170) rfl) rfl
set_option maxRecDepth 20000 in
theorem w_3_171 : (Jvm.Cond.static ({ cls := "AssembleLines$Scanner", name := "packedDigit", desc := "(BZ)I" } : Jvm.MethodName)) ∈ b_Ws := bw_3 (List.mem_of_getElem? (i := 171) rfl) rfl
set_option maxRecDepth 20000 in
theorem w_3_172 : (Jvm.Cond.code ({ cls := "AssembleLines$Scanner", name := "packedDigit", desc := "(BZ)I" } : Jvm.MethodName) prog_11_method_10_code (2 : Nat) (Option.some Jvm.ClassFile.FieldType.int)) ∈ b_Ws := bw_3 (List.mem_of_getElem? (i := 172) rfl) rfl
set_option maxRecDepth 20000 in
theorem w_3_173 : (Jvm.Cond.constantLong "AssembleLines$Scanner" (36 : Nat) (38 : Int64)) ∈ b_Ws := bw_3 (List.mem_of_getElem? (i := 173) rfl) rfl
set_option maxRecDepth 20000 in
theorem w_3_174 : (Jvm.Cond.constantLong "AssembleLines$Scanner" (53 : Nat) (-1 : Int64)) ∈ b_Ws := bw_3 (List.mem_of_getElem? (i := 174) rfl) rfl
set_option maxRecDepth 20000 in
theorem w_3_180 : (Jvm.Cond.methodLink "AssembleLines$Scanner" (55 : Nat) ({ cls := "AssembleLines$Scanner", name := "readDotted", desc := "()Z" } : Jvm.MethodName)) ∈ b_Ws := bw_3 (List.mem_of_getElem? (i := 180) rfl) rfl
set_option maxRecDepth 20000 in
theorem w_3_182 : (Jvm.Cond.instanceMethod ({ cls := "AssembleLines$Scanner", name := "readDotted", desc := "()Z" } : Jvm.MethodName)) ∈ b_Ws := bw_3 (List.mem_of_getElem? (i := 182) rfl) rfl
set_option maxRecDepth 20000 in
theorem w_3_183 : (Jvm.Cond.code ({ cls := "AssembleLines$Scanner", name := "readDotted", desc := "()Z" } : Jvm.MethodName) prog_11_method_14_code (1 : Nat) (Option.some Jvm.ClassFile.FieldType.boolean)) ∈ b_Ws := bw_3 (List.mem_of_getElem? (i := 183) rfl) rfl
set_option maxRecDepth 20000 in
theorem w_4_28 : (Jvm.Cond.constantLong "AssembleLines$Scanner" (45 : Nat) (711 : Int64)) ∈ b_Ws := bw_4 (List.mem_of_getElem? (i := 28) rfl) rfl
set_option maxRecDepth 20000 in
theorem w_4_29 : (Jvm.Cond.constantLong "AssembleLines$Scanner" (47 : Nat) (719 : Int64)) ∈ b_Ws := bw_4 (List.mem_of_getElem? (i := 29) rfl) rfl
set_option maxRecDepth 20000 in
theorem w_4_60 : (Jvm.Cond.instanceMethod ({ cls := "AssembleLines$Scanner", name := "takes", desc := "(C)Z" } : Jvm.MethodName)) ∈ b_Ws := bw_4 (List.mem_of_getElem? (i := 60) rfl) rfl
set_option maxRecDepth 20000 in
theorem w_4_61 : (Jvm.Cond.selects "AssembleLines$Scanner" ({ cls := "AssembleLines$Scanner", name := "takes", desc := "(C)Z" } : Jvm.MethodName) ({ cls := "AssembleLines$Scanner", name := "takes", desc := "(C)Z" } : Jvm.MethodName)) ∈ b_Ws := bw_4 (List.mem_of_getElem? (i := 61) rfl) rfl
set_option maxRecDepth 20000 in
theorem w_4_62 : (Jvm.Cond.code ({ cls := "AssembleLines$Scanner", name := "takes", desc := "(C)Z" } : Jvm.MethodName) prog_11_method_7_code (2 : Nat) (Option.some Jvm.ClassFile.FieldType.boolean)) ∈ b_Ws := bw_4 (List.mem_of_getElem? (i := 62) rfl) rfl
set_option maxRecDepth 20000 in
theorem w_4_102 : (Jvm.Cond.methodLink "AssembleLines$Scanner" (25 : Nat) ({ cls := "AssembleLines$Scanner", name := "takes", desc := "(C)Z" } : Jvm.MethodName)) ∈ b_Ws := bw_4 (List.mem_of_getElem? (i := 102) rfl) rfl
set_option maxRecDepth 20000 in
theorem w_4_145 : (Jvm.Cond.methodLink "AssembleLines$Scanner" (59 : Nat) ({ cls := "AssembleLines$Scanner", name := "digitOf", desc := "(B)I" } : Jvm.MethodName)) ∈ b_Ws := bw_4 (List.mem_of_getElem? (i := 145) rfl) rfl
set_option maxRecDepth 20000 in
theorem w_4_146 : (Jvm.Cond.static ({ cls := "AssembleLines$Scanner", name := "digitOf", desc := "(B)I" } : Jvm.MethodName)) ∈ b_Ws := bw_4 (List.mem_of_getElem? (i := 146) rfl) rfl
set_option maxRecDepth 20000 in
theorem w_4_147 : (Jvm.Cond.code ({ cls := "AssembleLines$Scanner", name := "digitOf", desc := "(B)I" } : Jvm.MethodName) prog_11_method_17_code (1 : Nat) (Option.some Jvm.ClassFile.FieldType.int)) ∈ b_Ws := bw_4 (List.mem_of_getElem? (i := 147) rfl) rfl
theorem dX9_packedDigit_0 : decode cX9_packedDigit 0 = .ok (.iload_n 0, 1) := by decide +kernel
theorem dX9_packedDigit_1 : decode cX9_packedDigit 1 = .ok (.bipush 97, 2) := by decide +kernel
theorem dX9_packedDigit_3 : decode cX9_packedDigit 3 = .ok (.if_icmp .lt 16, 3) := by decide +kernel
theorem dX9_packedDigit_6 : decode cX9_packedDigit 6 = .ok (.iload_n 0, 1) := by decide +kernel
theorem dX9_packedDigit_7 : decode cX9_packedDigit 7 = .ok (.bipush 122, 2) := by decide +kernel
theorem dX9_packedDigit_9 : decode cX9_packedDigit 9 = .ok (.if_icmp .gt 10, 3) := by decide +kernel
theorem dX9_packedDigit_12 : decode cX9_packedDigit 12 = .ok (.iload_n 0, 1) := by decide +kernel
theorem dX9_packedDigit_13 : decode cX9_packedDigit 13 = .ok (.bipush 97, 2) := by decide +kernel
theorem dX9_packedDigit_15 : decode cX9_packedDigit 15 = .ok (.isub, 1) := by decide +kernel
theorem dX9_packedDigit_16 : decode cX9_packedDigit 16 = .ok (.iconst 1, 1) := by decide +kernel
theorem dX9_packedDigit_17 : decode cX9_packedDigit 17 = .ok (.iadd, 1) := by decide +kernel
theorem dX9_packedDigit_18 : decode cX9_packedDigit 18 = .ok (.ireturn, 1) := by decide +kernel
theorem dX9_packedDigit_19 : decode cX9_packedDigit 19 = .ok (.iload_n 0, 1) := by decide +kernel
theorem dX9_packedDigit_20 : decode cX9_packedDigit 20 = .ok (.bipush 95, 2) := by decide +kernel
theorem dX9_packedDigit_22 : decode cX9_packedDigit 22 = .ok (.if_icmp .ne 6, 3) := by decide +kernel
theorem dX9_packedDigit_25 : decode cX9_packedDigit 25 = .ok (.bipush 37, 2) := by decide +kernel
theorem dX9_packedDigit_27 : decode cX9_packedDigit 27 = .ok (.ireturn, 1) := by decide +kernel
theorem dX9_packedDigit_28 : decode cX9_packedDigit 28 = .ok (.iload_n 1, 1) := by decide +kernel
theorem dX9_packedDigit_29 : decode cX9_packedDigit 29 = .ok (.ifCond .eq 25, 3) := by decide +kernel
theorem dX9_packedDigit_32 : decode cX9_packedDigit 32 = .ok (.iload_n 0, 1) := by decide +kernel
theorem dX9_packedDigit_33 : decode cX9_packedDigit 33 = .ok (.bipush 48, 2) := by decide +kernel
theorem dX9_packedDigit_35 : decode cX9_packedDigit 35 = .ok (.if_icmp .lt 19, 3) := by decide +kernel
theorem dX9_packedDigit_38 : decode cX9_packedDigit 38 = .ok (.iload_n 0, 1) := by decide +kernel
theorem dX9_packedDigit_39 : decode cX9_packedDigit 39 = .ok (.bipush 57, 2) := by decide +kernel
theorem dX9_packedDigit_41 : decode cX9_packedDigit 41 = .ok (.if_icmp .gt 13, 3) := by decide +kernel
theorem dX9_packedDigit_44 : decode cX9_packedDigit 44 = .ok (.iload_n 0, 1) := by decide +kernel
theorem dX9_packedDigit_45 : decode cX9_packedDigit 45 = .ok (.bipush 48, 2) := by decide +kernel
theorem dX9_packedDigit_47 : decode cX9_packedDigit 47 = .ok (.isub, 1) := by decide +kernel
theorem dX9_packedDigit_48 : decode cX9_packedDigit 48 = .ok (.bipush 27, 2) := by decide +kernel
theorem dX9_packedDigit_50 : decode cX9_packedDigit 50 = .ok (.iadd, 1) := by decide +kernel
theorem dX9_packedDigit_51 : decode cX9_packedDigit 51 = .ok (.goto 4, 3) := by decide +kernel
theorem dX9_packedDigit_54 : decode cX9_packedDigit 54 = .ok (.iconst 0, 1) := by decide +kernel
theorem dX9_packedDigit_55 : decode cX9_packedDigit 55 = .ok (.ireturn, 1) := by decide +kernel
theorem dX9_registerOf_0 : decode cX9_registerOf 0 = .ok (.lload_n 0, 1) := by decide +kernel
theorem dX9_registerOf_1 : decode cX9_registerOf 1 = .ok (.ldc2_w 45, 3) := by decide +kernel
theorem dX9_registerOf_4 : decode cX9_registerOf 4 = .ok (.lcmp, 1) := by decide +kernel
theorem dX9_registerOf_5 : decode cX9_registerOf 5 = .ok (.ifCond .lt 20, 3) := by decide +kernel
theorem dX9_registerOf_8 : decode cX9_registerOf 8 = .ok (.lload_n 0, 1) := by decide +kernel
theorem dX9_registerOf_9 : decode cX9_registerOf 9 = .ok (.ldc2_w 47, 3) := by decide +kernel
theorem dX9_registerOf_12 : decode cX9_registerOf 12 = .ok (.lcmp, 1) := by decide +kernel
theorem dX9_registerOf_13 : decode cX9_registerOf 13 = .ok (.ifCond .ge 12, 3) := by decide +kernel
theorem dX9_registerOf_16 : decode cX9_registerOf 16 = .ok (.lload_n 0, 1) := by decide +kernel
theorem dX9_registerOf_17 : decode cX9_registerOf 17 = .ok (.ldc2_w 45, 3) := by decide +kernel
theorem dX9_registerOf_20 : decode cX9_registerOf 20 = .ok (.lsub, 1) := by decide +kernel
theorem dX9_registerOf_21 : decode cX9_registerOf 21 = .ok (.l2i, 1) := by decide +kernel
theorem dX9_registerOf_22 : decode cX9_registerOf 22 = .ok (.goto 4, 3) := by decide +kernel
theorem dX9_registerOf_25 : decode cX9_registerOf 25 = .ok (.iconst (-1), 1) := by decide +kernel
theorem dX9_registerOf_26 : decode cX9_registerOf 26 = .ok (.ireturn, 1) := by decide +kernel
theorem dX9_digitOf_0 : decode cX9_digitOf 0 = .ok (.iload_n 0, 1) := by decide +kernel
theorem dX9_digitOf_1 : decode cX9_digitOf 1 = .ok (.bipush 48, 2) := by decide +kernel
theorem dX9_digitOf_3 : decode cX9_digitOf 3 = .ok (.if_icmp .lt 14, 3) := by decide +kernel
theorem dX9_digitOf_6 : decode cX9_digitOf 6 = .ok (.iload_n 0, 1) := by decide +kernel
theorem dX9_digitOf_7 : decode cX9_digitOf 7 = .ok (.bipush 57, 2) := by decide +kernel
theorem dX9_digitOf_9 : decode cX9_digitOf 9 = .ok (.if_icmp .gt 8, 3) := by decide +kernel
theorem dX9_digitOf_12 : decode cX9_digitOf 12 = .ok (.iload_n 0, 1) := by decide +kernel
theorem dX9_digitOf_13 : decode cX9_digitOf 13 = .ok (.bipush 48, 2) := by decide +kernel
theorem dX9_digitOf_15 : decode cX9_digitOf 15 = .ok (.isub, 1) := by decide +kernel
theorem dX9_digitOf_16 : decode cX9_digitOf 16 = .ok (.ireturn, 1) := by decide +kernel
theorem dX9_digitOf_17 : decode cX9_digitOf 17 = .ok (.iload_n 0, 1) := by decide +kernel
theorem dX9_digitOf_18 : decode cX9_digitOf 18 = .ok (.bipush 97, 2) := by decide +kernel
theorem dX9_digitOf_20 : decode cX9_digitOf 20 = .ok (.if_icmp .lt 19, 3) := by decide +kernel
theorem dX9_digitOf_23 : decode cX9_digitOf 23 = .ok (.iload_n 0, 1) := by decide +kernel
theorem dX9_digitOf_24 : decode cX9_digitOf 24 = .ok (.bipush 102, 2) := by decide +kernel
theorem dX9_digitOf_26 : decode cX9_digitOf 26 = .ok (.if_icmp .gt 13, 3) := by decide +kernel
theorem dX9_digitOf_29 : decode cX9_digitOf 29 = .ok (.iload_n 0, 1) := by decide +kernel
theorem dX9_digitOf_30 : decode cX9_digitOf 30 = .ok (.bipush 97, 2) := by decide +kernel
theorem dX9_digitOf_32 : decode cX9_digitOf 32 = .ok (.isub, 1) := by decide +kernel
theorem dX9_digitOf_33 : decode cX9_digitOf 33 = .ok (.bipush 10, 2) := by decide +kernel
theorem dX9_digitOf_35 : decode cX9_digitOf 35 = .ok (.iadd, 1) := by decide +kernel
theorem dX9_digitOf_36 : decode cX9_digitOf 36 = .ok (.goto 4, 3) := by decide +kernel
theorem dX9_digitOf_39 : decode cX9_digitOf 39 = .ok (.iconst (-1), 1) := by decide +kernel
theorem dX9_digitOf_40 : decode cX9_digitOf 40 = .ok (.ireturn, 1) := by decide +kernel
theorem dX9_isPlain_0 : decode cX9_isPlain 0 = .ok (.aload_n 0, 1) := by decide +kernel
theorem dX9_isPlain_1 : decode cX9_isPlain 1 = .ok (.getfield 15, 3) := by decide +kernel
theorem dX9_isPlain_4 : decode cX9_isPlain 4 = .ok (.istore_n 1, 1) := by decide +kernel
theorem dX9_isPlain_5 : decode cX9_isPlain 5 = .ok (.iload_n 1, 1) := by decide +kernel
theorem dX9_isPlain_6 : decode cX9_isPlain 6 = .ok (.aload_n 0, 1) := by decide +kernel
theorem dX9_isPlain_7 : decode cX9_isPlain 7 = .ok (.getfield 19, 3) := by decide +kernel
theorem dX9_isPlain_10 : decode cX9_isPlain 10 = .ok (.if_icmp .ge 33, 3) := by decide +kernel
theorem dX9_isPlain_13 : decode cX9_isPlain 13 = .ok (.aload_n 0, 1) := by decide +kernel
theorem dX9_isPlain_14 : decode cX9_isPlain 14 = .ok (.getfield 11, 3) := by decide +kernel
theorem dX9_isPlain_17 : decode cX9_isPlain 17 = .ok (.iload_n 1, 1) := by decide +kernel
theorem dX9_isPlain_18 : decode cX9_isPlain 18 = .ok (.baload, 1) := by decide +kernel
theorem dX9_isPlain_19 : decode cX9_isPlain 19 = .ok (.bipush 32, 2) := by decide +kernel
theorem dX9_isPlain_21 : decode cX9_isPlain 21 = .ok (.if_icmp .lt 14, 3) := by decide +kernel
theorem dX9_isPlain_24 : decode cX9_isPlain 24 = .ok (.aload_n 0, 1) := by decide +kernel
theorem dX9_isPlain_25 : decode cX9_isPlain 25 = .ok (.getfield 11, 3) := by decide +kernel
theorem dX9_isPlain_28 : decode cX9_isPlain 28 = .ok (.iload_n 1, 1) := by decide +kernel
theorem dX9_isPlain_29 : decode cX9_isPlain 29 = .ok (.baload, 1) := by decide +kernel
theorem dX9_isPlain_30 : decode cX9_isPlain 30 = .ok (.bipush 126, 2) := by decide +kernel
theorem dX9_isPlain_32 : decode cX9_isPlain 32 = .ok (.if_icmp .le 5, 3) := by decide +kernel
theorem dX9_isPlain_35 : decode cX9_isPlain 35 = .ok (.iconst 0, 1) := by decide +kernel
theorem dX9_isPlain_36 : decode cX9_isPlain 36 = .ok (.ireturn, 1) := by decide +kernel
theorem dX9_isPlain_37 : decode cX9_isPlain 37 = .ok (.iinc 1 1, 3) := by decide +kernel
theorem dX9_isPlain_40 : decode cX9_isPlain 40 = .ok (.goto (-35), 3) := by decide +kernel
theorem dX9_isPlain_43 : decode cX9_isPlain 43 = .ok (.iconst 1, 1) := by decide +kernel
theorem dX9_isPlain_44 : decode cX9_isPlain 44 = .ok (.ireturn, 1) := by decide +kernel
theorem dX9_left_0 : decode cX9_left 0 = .ok (.aload_n 0, 1) := by decide +kernel
theorem dX9_left_1 : decode cX9_left 1 = .ok (.getfield 19, 3) := by decide +kernel
theorem dX9_left_4 : decode cX9_left 4 = .ok (.aload_n 0, 1) := by decide +kernel
theorem dX9_left_5 : decode cX9_left 5 = .ok (.getfield 15, 3) := by decide +kernel
theorem dX9_left_8 : decode cX9_left 8 = .ok (.isub, 1) := by decide +kernel
theorem dX9_left_9 : decode cX9_left 9 = .ok (.ireturn, 1) := by decide +kernel
theorem dX9_passBlanks_0 : decode cX9_passBlanks 0 = .ok (.aload_n 0, 1) := by decide +kernel
theorem dX9_passBlanks_1 : decode cX9_passBlanks 1 = .ok (.getfield 15, 3) := by decide +kernel
theorem dX9_passBlanks_4 : decode cX9_passBlanks 4 = .ok (.aload_n 0, 1) := by decide +kernel
theorem dX9_passBlanks_5 : decode cX9_passBlanks 5 = .ok (.getfield 19, 3) := by decide +kernel
theorem dX9_passBlanks_8 : decode cX9_passBlanks 8 = .ok (.if_icmp .ge 30, 3) := by decide +kernel
theorem dX9_passBlanks_11 : decode cX9_passBlanks 11 = .ok (.aload_n 0, 1) := by decide +kernel
theorem dX9_passBlanks_12 : decode cX9_passBlanks 12 = .ok (.getfield 11, 3) := by decide +kernel
theorem dX9_passBlanks_15 : decode cX9_passBlanks 15 = .ok (.aload_n 0, 1) := by decide +kernel
theorem dX9_passBlanks_16 : decode cX9_passBlanks 16 = .ok (.getfield 15, 3) := by decide +kernel
theorem dX9_passBlanks_19 : decode cX9_passBlanks 19 = .ok (.baload, 1) := by decide +kernel
theorem dX9_passBlanks_20 : decode cX9_passBlanks 20 = .ok (.bipush 32, 2) := by decide +kernel
theorem dX9_passBlanks_22 : decode cX9_passBlanks 22 = .ok (.if_icmp .ne 16, 3) := by decide +kernel
theorem dX9_passBlanks_25 : decode cX9_passBlanks 25 = .ok (.aload_n 0, 1) := by decide +kernel
theorem dX9_passBlanks_26 : decode cX9_passBlanks 26 = .ok (.dup, 1) := by decide +kernel
theorem dX9_passBlanks_27 : decode cX9_passBlanks 27 = .ok (.getfield 15, 3) := by decide +kernel
theorem dX9_passBlanks_30 : decode cX9_passBlanks 30 = .ok (.iconst 1, 1) := by decide +kernel
theorem dX9_passBlanks_31 : decode cX9_passBlanks 31 = .ok (.iadd, 1) := by decide +kernel
theorem dX9_passBlanks_32 : decode cX9_passBlanks 32 = .ok (.putfield 15, 3) := by decide +kernel
theorem dX9_passBlanks_35 : decode cX9_passBlanks 35 = .ok (.goto (-35), 3) := by decide +kernel
theorem dX9_passBlanks_38 : decode cX9_passBlanks 38 = .ok (.return_, 1) := by decide +kernel
theorem dX9_isAtEnd_0 : decode cX9_isAtEnd 0 = .ok (.aload_n 0, 1) := by decide +kernel
theorem dX9_isAtEnd_1 : decode cX9_isAtEnd 1 = .ok (.invokevirtual 22, 3) := by decide +kernel
theorem dX9_isAtEnd_4 : decode cX9_isAtEnd 4 = .ok (.aload_n 0, 1) := by decide +kernel
theorem dX9_isAtEnd_5 : decode cX9_isAtEnd 5 = .ok (.getfield 15, 3) := by decide +kernel
theorem dX9_isAtEnd_8 : decode cX9_isAtEnd 8 = .ok (.aload_n 0, 1) := by decide +kernel
theorem dX9_isAtEnd_9 : decode cX9_isAtEnd 9 = .ok (.getfield 19, 3) := by decide +kernel
theorem dX9_isAtEnd_12 : decode cX9_isAtEnd 12 = .ok (.if_icmp .lt 7, 3) := by decide +kernel
theorem dX9_isAtEnd_15 : decode cX9_isAtEnd 15 = .ok (.iconst 1, 1) := by decide +kernel
theorem dX9_isAtEnd_16 : decode cX9_isAtEnd 16 = .ok (.goto 4, 3) := by decide +kernel
theorem dX9_isAtEnd_19 : decode cX9_isAtEnd 19 = .ok (.iconst 0, 1) := by decide +kernel
theorem dX9_isAtEnd_20 : decode cX9_isAtEnd 20 = .ok (.ireturn, 1) := by decide +kernel
theorem dX9_takes_0 : decode cX9_takes 0 = .ok (.aload_n 0, 1) := by decide +kernel
theorem dX9_takes_1 : decode cX9_takes 1 = .ok (.invokevirtual 22, 3) := by decide +kernel
theorem dX9_takes_4 : decode cX9_takes 4 = .ok (.aload_n 0, 1) := by decide +kernel
theorem dX9_takes_5 : decode cX9_takes 5 = .ok (.getfield 15, 3) := by decide +kernel
theorem dX9_takes_8 : decode cX9_takes 8 = .ok (.aload_n 0, 1) := by decide +kernel
theorem dX9_takes_9 : decode cX9_takes 9 = .ok (.getfield 19, 3) := by decide +kernel
theorem dX9_takes_12 : decode cX9_takes 12 = .ok (.if_icmp .ge 16, 3) := by decide +kernel
theorem dX9_takes_15 : decode cX9_takes 15 = .ok (.aload_n 0, 1) := by decide +kernel
theorem dX9_takes_16 : decode cX9_takes 16 = .ok (.getfield 11, 3) := by decide +kernel
theorem dX9_takes_19 : decode cX9_takes 19 = .ok (.aload_n 0, 1) := by decide +kernel
theorem dX9_takes_20 : decode cX9_takes 20 = .ok (.getfield 15, 3) := by decide +kernel
theorem dX9_takes_23 : decode cX9_takes 23 = .ok (.baload, 1) := by decide +kernel
theorem dX9_takes_24 : decode cX9_takes 24 = .ok (.iload_n 1, 1) := by decide +kernel
theorem dX9_takes_25 : decode cX9_takes 25 = .ok (.if_icmp .eq 5, 3) := by decide +kernel
theorem dX9_takes_28 : decode cX9_takes 28 = .ok (.iconst 0, 1) := by decide +kernel
theorem dX9_takes_29 : decode cX9_takes 29 = .ok (.ireturn, 1) := by decide +kernel
theorem dX9_takes_30 : decode cX9_takes 30 = .ok (.aload_n 0, 1) := by decide +kernel
theorem dX9_takes_31 : decode cX9_takes 31 = .ok (.dup, 1) := by decide +kernel
theorem dX9_takes_32 : decode cX9_takes 32 = .ok (.getfield 15, 3) := by decide +kernel
theorem dX9_takes_35 : decode cX9_takes 35 = .ok (.iconst 1, 1) := by decide +kernel
theorem dX9_takes_36 : decode cX9_takes 36 = .ok (.iadd, 1) := by decide +kernel
theorem dX9_takes_37 : decode cX9_takes 37 = .ok (.putfield 15, 3) := by decide +kernel
theorem dX9_takes_40 : decode cX9_takes 40 = .ok (.iconst 1, 1) := by decide +kernel
theorem dX9_takes_41 : decode cX9_takes 41 = .ok (.ireturn, 1) := by decide +kernel
theorem dX9_readSign_0 : decode cX9_readSign 0 = .ok (.aload_n 0, 1) := by decide +kernel
theorem dX9_readSign_1 : decode cX9_readSign 1 = .ok (.bipush 43, 2) := by decide +kernel
theorem dX9_readSign_3 : decode cX9_readSign 3 = .ok (.invokevirtual 25, 3) := by decide +kernel
theorem dX9_readSign_6 : decode cX9_readSign 6 = .ok (.ifCond .eq 5, 3) := by decide +kernel
theorem dX9_readSign_9 : decode cX9_readSign 9 = .ok (.iconst 1, 1) := by decide +kernel
theorem dX9_readSign_10 : decode cX9_readSign 10 = .ok (.ireturn, 1) := by decide +kernel
theorem dX9_readSign_11 : decode cX9_readSign 11 = .ok (.aload_n 0, 1) := by decide +kernel
theorem dX9_readSign_12 : decode cX9_readSign 12 = .ok (.bipush 45, 2) := by decide +kernel
theorem dX9_readSign_14 : decode cX9_readSign 14 = .ok (.invokevirtual 25, 3) := by decide +kernel
theorem dX9_readSign_17 : decode cX9_readSign 17 = .ok (.ifCond .eq 7, 3) := by decide +kernel
theorem dX9_readSign_20 : decode cX9_readSign 20 = .ok (.iconst (-1), 1) := by decide +kernel
theorem dX9_readSign_21 : decode cX9_readSign 21 = .ok (.goto 4, 3) := by decide +kernel
theorem dX9_readSign_24 : decode cX9_readSign 24 = .ok (.iconst 0, 1) := by decide +kernel
theorem dX9_readSign_25 : decode cX9_readSign 25 = .ok (.ireturn, 1) := by decide +kernel
theorem dX9_readName_0 : decode cX9_readName 0 = .ok (.aload_n 0, 1) := by decide +kernel
theorem dX9_readName_1 : decode cX9_readName 1 = .ok (.aload_n 0, 1) := by decide +kernel
theorem dX9_readName_2 : decode cX9_readName 2 = .ok (.getfield 15, 3) := by decide +kernel
theorem dX9_readName_5 : decode cX9_readName 5 = .ok (.putfield 29, 3) := by decide +kernel
theorem dX9_readName_8 : decode cX9_readName 8 = .ok (.lconst 0, 1) := by decide +kernel
theorem dX9_readName_9 : decode cX9_readName 9 = .ok (.lstore_n 1, 1) := by decide +kernel
theorem dX9_readName_10 : decode cX9_readName 10 = .ok (.aload_n 0, 1) := by decide +kernel
theorem dX9_readName_11 : decode cX9_readName 11 = .ok (.getfield 15, 3) := by decide +kernel
theorem dX9_readName_14 : decode cX9_readName 14 = .ok (.aload_n 0, 1) := by decide +kernel
theorem dX9_readName_15 : decode cX9_readName 15 = .ok (.getfield 19, 3) := by decide +kernel
theorem dX9_readName_18 : decode cX9_readName 18 = .ok (.if_icmp .ge 61, 3) := by decide +kernel
theorem dX9_readName_21 : decode cX9_readName 21 = .ok (.aload_n 0, 1) := by decide +kernel
theorem dX9_readName_22 : decode cX9_readName 22 = .ok (.getfield 11, 3) := by decide +kernel
theorem dX9_readName_25 : decode cX9_readName 25 = .ok (.aload_n 0, 1) := by decide +kernel
theorem dX9_readName_26 : decode cX9_readName 26 = .ok (.getfield 15, 3) := by decide +kernel
theorem dX9_readName_29 : decode cX9_readName 29 = .ok (.baload, 1) := by decide +kernel
theorem dX9_readName_30 : decode cX9_readName 30 = .ok (.aload_n 0, 1) := by decide +kernel
theorem dX9_readName_31 : decode cX9_readName 31 = .ok (.getfield 15, 3) := by decide +kernel
theorem dX9_readName_34 : decode cX9_readName 34 = .ok (.aload_n 0, 1) := by decide +kernel
theorem dX9_readName_35 : decode cX9_readName 35 = .ok (.getfield 29, 3) := by decide +kernel
theorem dX9_readName_38 : decode cX9_readName 38 = .ok (.if_icmp .le 7, 3) := by decide +kernel
theorem dX9_readName_41 : decode cX9_readName 41 = .ok (.iconst 1, 1) := by decide +kernel
theorem dX9_readName_42 : decode cX9_readName 42 = .ok (.goto 4, 3) := by decide +kernel
theorem dX9_readName_45 : decode cX9_readName 45 = .ok (.iconst 0, 1) := by decide +kernel
theorem dX9_readName_46 : decode cX9_readName 46 = .ok (.invokestatic 32, 3) := by decide +kernel
theorem dX9_readName_49 : decode cX9_readName 49 = .ok (.istore_n 3, 1) := by decide +kernel
theorem dX9_readName_50 : decode cX9_readName 50 = .ok (.iload_n 3, 1) := by decide +kernel
theorem dX9_readName_51 : decode cX9_readName 51 = .ok (.ifCond .ne 6, 3) := by decide +kernel
theorem dX9_readName_54 : decode cX9_readName 54 = .ok (.goto 25, 3) := by decide +kernel
theorem dX9_readName_57 : decode cX9_readName 57 = .ok (.lload_n 1, 1) := by decide +kernel
theorem dX9_readName_58 : decode cX9_readName 58 = .ok (.ldc2_w 36, 3) := by decide +kernel
theorem dX9_readName_61 : decode cX9_readName 61 = .ok (.lmul, 1) := by decide +kernel
theorem dX9_readName_62 : decode cX9_readName 62 = .ok (.iload_n 3, 1) := by decide +kernel
theorem dX9_readName_63 : decode cX9_readName 63 = .ok (.i2l, 1) := by decide +kernel
theorem dX9_readName_64 : decode cX9_readName 64 = .ok (.ladd, 1) := by decide +kernel
theorem dX9_readName_65 : decode cX9_readName 65 = .ok (.lstore_n 1, 1) := by decide +kernel
theorem dX9_readName_66 : decode cX9_readName 66 = .ok (.aload_n 0, 1) := by decide +kernel
theorem dX9_readName_67 : decode cX9_readName 67 = .ok (.dup, 1) := by decide +kernel
theorem dX9_readName_68 : decode cX9_readName 68 = .ok (.getfield 15, 3) := by decide +kernel
theorem dX9_readName_71 : decode cX9_readName 71 = .ok (.iconst 1, 1) := by decide +kernel
theorem dX9_readName_72 : decode cX9_readName 72 = .ok (.iadd, 1) := by decide +kernel
theorem dX9_readName_73 : decode cX9_readName 73 = .ok (.putfield 15, 3) := by decide +kernel
theorem dX9_readName_76 : decode cX9_readName 76 = .ok (.goto (-66), 3) := by decide +kernel
theorem dX9_readName_79 : decode cX9_readName 79 = .ok (.aload_n 0, 1) := by decide +kernel
theorem dX9_readName_80 : decode cX9_readName 80 = .ok (.aload_n 0, 1) := by decide +kernel
theorem dX9_readName_81 : decode cX9_readName 81 = .ok (.getfield 15, 3) := by decide +kernel
theorem dX9_readName_84 : decode cX9_readName 84 = .ok (.putfield 38, 3) := by decide +kernel
theorem dX9_readName_87 : decode cX9_readName 87 = .ok (.aload_n 0, 1) := by decide +kernel
theorem dX9_readName_88 : decode cX9_readName 88 = .ok (.aload_n 0, 1) := by decide +kernel
theorem dX9_readName_89 : decode cX9_readName 89 = .ok (.getfield 38, 3) := by decide +kernel
theorem dX9_readName_92 : decode cX9_readName 92 = .ok (.aload_n 0, 1) := by decide +kernel
theorem dX9_readName_93 : decode cX9_readName 93 = .ok (.getfield 29, 3) := by decide +kernel
theorem dX9_readName_96 : decode cX9_readName 96 = .ok (.isub, 1) := by decide +kernel
theorem dX9_readName_97 : decode cX9_readName 97 = .ok (.bipush 10, 2) := by decide +kernel
theorem dX9_readName_99 : decode cX9_readName 99 = .ok (.if_icmp .gt 7, 3) := by decide +kernel
theorem dX9_readName_102 : decode cX9_readName 102 = .ok (.lload_n 1, 1) := by decide +kernel
theorem dX9_readName_103 : decode cX9_readName 103 = .ok (.goto 4, 3) := by decide +kernel
theorem dX9_readName_106 : decode cX9_readName 106 = .ok (.lconst 0, 1) := by decide +kernel
theorem dX9_readName_107 : decode cX9_readName 107 = .ok (.putfield 41, 3) := by decide +kernel
theorem dX9_readName_110 : decode cX9_readName 110 = .ok (.aload_n 0, 1) := by decide +kernel
theorem dX9_readName_111 : decode cX9_readName 111 = .ok (.getfield 41, 3) := by decide +kernel
theorem dX9_readName_114 : decode cX9_readName 114 = .ok (.lreturn, 1) := by decide +kernel
theorem dX9_readLabel_0 : decode cX9_readLabel 0 = .ok (.aload_n 0, 1) := by decide +kernel
theorem dX9_readLabel_1 : decode cX9_readLabel 1 = .ok (.invokevirtual 22, 3) := by decide +kernel
theorem dX9_readLabel_4 : decode cX9_readLabel 4 = .ok (.aload_n 0, 1) := by decide +kernel
theorem dX9_readLabel_5 : decode cX9_readLabel 5 = .ok (.getfield 15, 3) := by decide +kernel
theorem dX9_readLabel_8 : decode cX9_readLabel 8 = .ok (.istore_n 1, 1) := by decide +kernel
theorem dX9_readLabel_9 : decode cX9_readLabel 9 = .ok (.aload_n 0, 1) := by decide +kernel
theorem dX9_readLabel_10 : decode cX9_readLabel 10 = .ok (.invokevirtual 49, 3) := by decide +kernel
theorem dX9_readLabel_13 : decode cX9_readLabel 13 = .ok (.lstore_n 2, 1) := by decide +kernel
theorem dX9_readLabel_14 : decode cX9_readLabel 14 = .ok (.aload_n 0, 1) := by decide +kernel
theorem dX9_readLabel_15 : decode cX9_readLabel 15 = .ok (.getfield 15, 3) := by decide +kernel
theorem dX9_readLabel_18 : decode cX9_readLabel 18 = .ok (.aload_n 0, 1) := by decide +kernel
theorem dX9_readLabel_19 : decode cX9_readLabel 19 = .ok (.getfield 19, 3) := by decide +kernel
theorem dX9_readLabel_22 : decode cX9_readLabel 22 = .ok (.if_icmp .ge 17, 3) := by decide +kernel
theorem dX9_readLabel_25 : decode cX9_readLabel 25 = .ok (.aload_n 0, 1) := by decide +kernel
theorem dX9_readLabel_26 : decode cX9_readLabel 26 = .ok (.getfield 11, 3) := by decide +kernel
theorem dX9_readLabel_29 : decode cX9_readLabel 29 = .ok (.aload_n 0, 1) := by decide +kernel
theorem dX9_readLabel_30 : decode cX9_readLabel 30 = .ok (.getfield 15, 3) := by decide +kernel
theorem dX9_readLabel_33 : decode cX9_readLabel 33 = .ok (.baload, 1) := by decide +kernel
theorem dX9_readLabel_34 : decode cX9_readLabel 34 = .ok (.bipush 58, 2) := by decide +kernel
theorem dX9_readLabel_36 : decode cX9_readLabel 36 = .ok (.if_icmp .eq 10, 3) := by decide +kernel
theorem dX9_readLabel_39 : decode cX9_readLabel 39 = .ok (.aload_n 0, 1) := by decide +kernel
theorem dX9_readLabel_40 : decode cX9_readLabel 40 = .ok (.iload_n 1, 1) := by decide +kernel
theorem dX9_readLabel_41 : decode cX9_readLabel 41 = .ok (.putfield 15, 3) := by decide +kernel
theorem dX9_readLabel_44 : decode cX9_readLabel 44 = .ok (.lconst 0, 1) := by decide +kernel
theorem dX9_readLabel_45 : decode cX9_readLabel 45 = .ok (.lreturn, 1) := by decide +kernel
theorem dX9_readLabel_46 : decode cX9_readLabel 46 = .ok (.aload_n 0, 1) := by decide +kernel
theorem dX9_readLabel_47 : decode cX9_readLabel 47 = .ok (.dup, 1) := by decide +kernel
theorem dX9_readLabel_48 : decode cX9_readLabel 48 = .ok (.getfield 15, 3) := by decide +kernel
theorem dX9_readLabel_51 : decode cX9_readLabel 51 = .ok (.iconst 1, 1) := by decide +kernel
theorem dX9_readLabel_52 : decode cX9_readLabel 52 = .ok (.iadd, 1) := by decide +kernel
theorem dX9_readLabel_53 : decode cX9_readLabel 53 = .ok (.putfield 15, 3) := by decide +kernel
theorem dX9_readLabel_56 : decode cX9_readLabel 56 = .ok (.lload_n 2, 1) := by decide +kernel
theorem dX9_readLabel_57 : decode cX9_readLabel 57 = .ok (.lconst 0, 1) := by decide +kernel
theorem dX9_readLabel_58 : decode cX9_readLabel 58 = .ok (.lcmp, 1) := by decide +kernel
theorem dX9_readLabel_59 : decode cX9_readLabel 59 = .ok (.ifCond .ne 9, 3) := by decide +kernel
theorem dX9_readLabel_62 : decode cX9_readLabel 62 = .ok (.ldc2_w 53, 3) := by decide +kernel
theorem dX9_readLabel_65 : decode cX9_readLabel 65 = .ok (.goto 4, 3) := by decide +kernel
theorem dX9_readLabel_68 : decode cX9_readLabel 68 = .ok (.lload_n 2, 1) := by decide +kernel
theorem dX9_readLabel_69 : decode cX9_readLabel 69 = .ok (.lreturn, 1) := by decide +kernel
theorem dX9_readDotted_0 : decode cX9_readDotted 0 = .ok (.aload_n 0, 1) := by decide +kernel
theorem dX9_readDotted_1 : decode cX9_readDotted 1 = .ok (.aload_n 0, 1) := by decide +kernel
theorem dX9_readDotted_2 : decode cX9_readDotted 2 = .ok (.getfield 15, 3) := by decide +kernel
theorem dX9_readDotted_5 : decode cX9_readDotted 5 = .ok (.putfield 29, 3) := by decide +kernel
theorem dX9_readDotted_8 : decode cX9_readDotted 8 = .ok (.aload_n 0, 1) := by decide +kernel
theorem dX9_readDotted_9 : decode cX9_readDotted 9 = .ok (.dup, 1) := by decide +kernel
theorem dX9_readDotted_10 : decode cX9_readDotted 10 = .ok (.getfield 15, 3) := by decide +kernel
theorem dX9_readDotted_13 : decode cX9_readDotted 13 = .ok (.iconst 1, 1) := by decide +kernel
theorem dX9_readDotted_14 : decode cX9_readDotted 14 = .ok (.iadd, 1) := by decide +kernel
theorem dX9_readDotted_15 : decode cX9_readDotted 15 = .ok (.putfield 15, 3) := by decide +kernel
theorem dX9_readDotted_18 : decode cX9_readDotted 18 = .ok (.aload_n 0, 1) := by decide +kernel
theorem dX9_readDotted_19 : decode cX9_readDotted 19 = .ok (.getfield 15, 3) := by decide +kernel
theorem dX9_readDotted_22 : decode cX9_readDotted 22 = .ok (.aload_n 0, 1) := by decide +kernel
theorem dX9_readDotted_23 : decode cX9_readDotted 23 = .ok (.getfield 19, 3) := by decide +kernel
theorem dX9_readDotted_26 : decode cX9_readDotted 26 = .ok (.if_icmp .ge 44, 3) := by decide +kernel
theorem dX9_readDotted_29 : decode cX9_readDotted 29 = .ok (.aload_n 0, 1) := by decide +kernel
theorem dX9_readDotted_30 : decode cX9_readDotted 30 = .ok (.getfield 11, 3) := by decide +kernel
theorem dX9_readDotted_33 : decode cX9_readDotted 33 = .ok (.aload_n 0, 1) := by decide +kernel
theorem dX9_readDotted_34 : decode cX9_readDotted 34 = .ok (.getfield 15, 3) := by decide +kernel
theorem dX9_readDotted_37 : decode cX9_readDotted 37 = .ok (.baload, 1) := by decide +kernel
theorem dX9_readDotted_38 : decode cX9_readDotted 38 = .ok (.bipush 97, 2) := by decide +kernel
theorem dX9_readDotted_40 : decode cX9_readDotted 40 = .ok (.if_icmp .lt 30, 3) := by decide +kernel
theorem dX9_readDotted_43 : decode cX9_readDotted 43 = .ok (.aload_n 0, 1) := by decide +kernel
theorem dX9_readDotted_44 : decode cX9_readDotted 44 = .ok (.getfield 11, 3) := by decide +kernel
theorem dX9_readDotted_47 : decode cX9_readDotted 47 = .ok (.aload_n 0, 1) := by decide +kernel
theorem dX9_readDotted_48 : decode cX9_readDotted 48 = .ok (.getfield 15, 3) := by decide +kernel
theorem dX9_readDotted_51 : decode cX9_readDotted 51 = .ok (.baload, 1) := by decide +kernel
theorem dX9_readDotted_52 : decode cX9_readDotted 52 = .ok (.bipush 122, 2) := by decide +kernel
theorem dX9_readDotted_54 : decode cX9_readDotted 54 = .ok (.if_icmp .gt 16, 3) := by decide +kernel
theorem dX9_readDotted_57 : decode cX9_readDotted 57 = .ok (.aload_n 0, 1) := by decide +kernel
theorem dX9_readDotted_58 : decode cX9_readDotted 58 = .ok (.dup, 1) := by decide +kernel
theorem dX9_readDotted_59 : decode cX9_readDotted 59 = .ok (.getfield 15, 3) := by decide +kernel
theorem dX9_readDotted_62 : decode cX9_readDotted 62 = .ok (.iconst 1, 1) := by decide +kernel
theorem dX9_readDotted_63 : decode cX9_readDotted 63 = .ok (.iadd, 1) := by decide +kernel
theorem dX9_readDotted_64 : decode cX9_readDotted 64 = .ok (.putfield 15, 3) := by decide +kernel
theorem dX9_readDotted_67 : decode cX9_readDotted 67 = .ok (.goto (-49), 3) := by decide +kernel
theorem dX9_readDotted_70 : decode cX9_readDotted 70 = .ok (.aload_n 0, 1) := by decide +kernel
theorem dX9_readDotted_71 : decode cX9_readDotted 71 = .ok (.aload_n 0, 1) := by decide +kernel
theorem dX9_readDotted_72 : decode cX9_readDotted 72 = .ok (.getfield 15, 3) := by decide +kernel
theorem dX9_readDotted_75 : decode cX9_readDotted 75 = .ok (.putfield 38, 3) := by decide +kernel
theorem dX9_readDotted_78 : decode cX9_readDotted 78 = .ok (.aload_n 0, 1) := by decide +kernel
theorem dX9_readDotted_79 : decode cX9_readDotted 79 = .ok (.lconst 0, 1) := by decide +kernel
theorem dX9_readDotted_80 : decode cX9_readDotted 80 = .ok (.putfield 41, 3) := by decide +kernel
theorem dX9_readDotted_83 : decode cX9_readDotted 83 = .ok (.aload_n 0, 1) := by decide +kernel
theorem dX9_readDotted_84 : decode cX9_readDotted 84 = .ok (.getfield 38, 3) := by decide +kernel
theorem dX9_readDotted_87 : decode cX9_readDotted 87 = .ok (.aload_n 0, 1) := by decide +kernel
theorem dX9_readDotted_88 : decode cX9_readDotted 88 = .ok (.getfield 29, 3) := by decide +kernel
theorem dX9_readDotted_91 : decode cX9_readDotted 91 = .ok (.isub, 1) := by decide +kernel
theorem dX9_readDotted_92 : decode cX9_readDotted 92 = .ok (.iconst 1, 1) := by decide +kernel
theorem dX9_readDotted_93 : decode cX9_readDotted 93 = .ok (.if_icmp .le 7, 3) := by decide +kernel
theorem dX9_readDotted_96 : decode cX9_readDotted 96 = .ok (.iconst 1, 1) := by decide +kernel
theorem dX9_readDotted_97 : decode cX9_readDotted 97 = .ok (.goto 4, 3) := by decide +kernel
theorem dX9_readDotted_100 : decode cX9_readDotted 100 = .ok (.iconst 0, 1) := by decide +kernel
theorem dX9_readDotted_101 : decode cX9_readDotted 101 = .ok (.ireturn, 1) := by decide +kernel
theorem dX9_readOperation_0 : decode cX9_readOperation 0 = .ok (.aload_n 0, 1) := by decide +kernel
theorem dX9_readOperation_1 : decode cX9_readOperation 1 = .ok (.invokevirtual 22, 3) := by decide +kernel
theorem dX9_readOperation_4 : decode cX9_readOperation 4 = .ok (.aload_n 0, 1) := by decide +kernel
theorem dX9_readOperation_5 : decode cX9_readOperation 5 = .ok (.getfield 15, 3) := by decide +kernel
theorem dX9_readOperation_8 : decode cX9_readOperation 8 = .ok (.aload_n 0, 1) := by decide +kernel
theorem dX9_readOperation_9 : decode cX9_readOperation 9 = .ok (.getfield 19, 3) := by decide +kernel
theorem dX9_readOperation_12 : decode cX9_readOperation 12 = .ok (.if_icmp .ge 24, 3) := by decide +kernel
theorem dX9_readOperation_15 : decode cX9_readOperation 15 = .ok (.aload_n 0, 1) := by decide +kernel
theorem dX9_readOperation_16 : decode cX9_readOperation 16 = .ok (.getfield 11, 3) := by decide +kernel
theorem dX9_readOperation_19 : decode cX9_readOperation 19 = .ok (.aload_n 0, 1) := by decide +kernel
theorem dX9_readOperation_20 : decode cX9_readOperation 20 = .ok (.getfield 15, 3) := by decide +kernel
theorem dX9_readOperation_23 : decode cX9_readOperation 23 = .ok (.baload, 1) := by decide +kernel
theorem dX9_readOperation_24 : decode cX9_readOperation 24 = .ok (.bipush 46, 2) := by decide +kernel
theorem dX9_readOperation_26 : decode cX9_readOperation 26 = .ok (.if_icmp .ne 10, 3) := by decide +kernel
theorem dX9_readOperation_29 : decode cX9_readOperation 29 = .ok (.aload_n 0, 1) := by decide +kernel
theorem dX9_readOperation_30 : decode cX9_readOperation 30 = .ok (.invokevirtual 55, 3) := by decide +kernel
theorem dX9_readOperation_33 : decode cX9_readOperation 33 = .ok (.goto 17, 3) := by decide +kernel
theorem dX9_readOperation_36 : decode cX9_readOperation 36 = .ok (.aload_n 0, 1) := by decide +kernel
theorem dX9_readOperation_37 : decode cX9_readOperation 37 = .ok (.invokevirtual 49, 3) := by decide +kernel
theorem dX9_readOperation_40 : decode cX9_readOperation 40 = .ok (.lconst 0, 1) := by decide +kernel
theorem dX9_readOperation_41 : decode cX9_readOperation 41 = .ok (.lcmp, 1) := by decide +kernel
theorem dX9_readOperation_42 : decode cX9_readOperation 42 = .ok (.ifCond .eq 7, 3) := by decide +kernel
theorem dX9_readOperation_45 : decode cX9_readOperation 45 = .ok (.iconst 1, 1) := by decide +kernel
theorem dX9_readOperation_46 : decode cX9_readOperation 46 = .ok (.goto 4, 3) := by decide +kernel
theorem dX9_readOperation_49 : decode cX9_readOperation 49 = .ok (.iconst 0, 1) := by decide +kernel
theorem dX9_readOperation_50 : decode cX9_readOperation 50 = .ok (.istore_n 1, 1) := by decide +kernel
theorem dX9_readOperation_51 : decode cX9_readOperation 51 = .ok (.iload_n 1, 1) := by decide +kernel
theorem dX9_readOperation_52 : decode cX9_readOperation 52 = .ok (.ifCond .eq 32, 3) := by decide +kernel
theorem dX9_readOperation_55 : decode cX9_readOperation 55 = .ok (.aload_n 0, 1) := by decide +kernel
theorem dX9_readOperation_56 : decode cX9_readOperation 56 = .ok (.getfield 15, 3) := by decide +kernel
theorem dX9_readOperation_59 : decode cX9_readOperation 59 = .ok (.aload_n 0, 1) := by decide +kernel
theorem dX9_readOperation_60 : decode cX9_readOperation 60 = .ok (.getfield 19, 3) := by decide +kernel
theorem dX9_readOperation_63 : decode cX9_readOperation 63 = .ok (.if_icmp .ge 17, 3) := by decide +kernel
theorem dX9_readOperation_66 : decode cX9_readOperation 66 = .ok (.aload_n 0, 1) := by decide +kernel
theorem dX9_readOperation_67 : decode cX9_readOperation 67 = .ok (.getfield 11, 3) := by decide +kernel
theorem dX9_readOperation_70 : decode cX9_readOperation 70 = .ok (.aload_n 0, 1) := by decide +kernel
theorem dX9_readOperation_71 : decode cX9_readOperation 71 = .ok (.getfield 15, 3) := by decide +kernel
theorem dX9_readOperation_74 : decode cX9_readOperation 74 = .ok (.baload, 1) := by decide +kernel
theorem dX9_readOperation_75 : decode cX9_readOperation 75 = .ok (.bipush 32, 2) := by decide +kernel
theorem dX9_readOperation_77 : decode cX9_readOperation 77 = .ok (.if_icmp .ne 7, 3) := by decide +kernel
theorem dX9_readOperation_80 : decode cX9_readOperation 80 = .ok (.iconst 1, 1) := by decide +kernel
theorem dX9_readOperation_81 : decode cX9_readOperation 81 = .ok (.goto 4, 3) := by decide +kernel
theorem dX9_readOperation_84 : decode cX9_readOperation 84 = .ok (.iconst 0, 1) := by decide +kernel
theorem dX9_readOperation_85 : decode cX9_readOperation 85 = .ok (.ireturn, 1) := by decide +kernel
theorem dX9_readOperand_0 : decode cX9_readOperand 0 = .ok (.aload_n 0, 1) := by decide +kernel
theorem dX9_readOperand_1 : decode cX9_readOperand 1 = .ok (.invokevirtual 22, 3) := by decide +kernel
theorem dX9_readOperand_4 : decode cX9_readOperand 4 = .ok (.aload_n 0, 1) := by decide +kernel
theorem dX9_readOperand_5 : decode cX9_readOperand 5 = .ok (.aload_n 0, 1) := by decide +kernel
theorem dX9_readOperand_6 : decode cX9_readOperand 6 = .ok (.getfield 15, 3) := by decide +kernel
theorem dX9_readOperand_9 : decode cX9_readOperand 9 = .ok (.putfield 29, 3) := by decide +kernel
theorem dX9_readOperand_12 : decode cX9_readOperand 12 = .ok (.aload_n 0, 1) := by decide +kernel
theorem dX9_readOperand_13 : decode cX9_readOperand 13 = .ok (.aload_n 0, 1) := by decide +kernel
theorem dX9_readOperand_14 : decode cX9_readOperand 14 = .ok (.getfield 15, 3) := by decide +kernel
theorem dX9_readOperand_17 : decode cX9_readOperand 17 = .ok (.putfield 38, 3) := by decide +kernel
theorem dX9_readOperand_20 : decode cX9_readOperand 20 = .ok (.aload_n 0, 1) := by decide +kernel
theorem dX9_readOperand_21 : decode cX9_readOperand 21 = .ok (.getfield 15, 3) := by decide +kernel
theorem dX9_readOperand_24 : decode cX9_readOperand 24 = .ok (.aload_n 0, 1) := by decide +kernel
theorem dX9_readOperand_25 : decode cX9_readOperand 25 = .ok (.getfield 19, 3) := by decide +kernel
theorem dX9_readOperand_28 : decode cX9_readOperand 28 = .ok (.if_icmp .ge 54, 3) := by decide +kernel
theorem dX9_readOperand_31 : decode cX9_readOperand 31 = .ok (.aload_n 0, 1) := by decide +kernel
theorem dX9_readOperand_32 : decode cX9_readOperand 32 = .ok (.getfield 11, 3) := by decide +kernel
theorem dX9_readOperand_35 : decode cX9_readOperand 35 = .ok (.aload_n 0, 1) := by decide +kernel
theorem dX9_readOperand_36 : decode cX9_readOperand 36 = .ok (.getfield 15, 3) := by decide +kernel
theorem dX9_readOperand_39 : decode cX9_readOperand 39 = .ok (.baload, 1) := by decide +kernel
theorem dX9_readOperand_40 : decode cX9_readOperand 40 = .ok (.bipush 44, 2) := by decide +kernel
theorem dX9_readOperand_42 : decode cX9_readOperand 42 = .ok (.if_icmp .eq 40, 3) := by decide +kernel
theorem dX9_readOperand_45 : decode cX9_readOperand 45 = .ok (.aload_n 0, 1) := by decide +kernel
theorem dX9_readOperand_46 : decode cX9_readOperand 46 = .ok (.dup, 1) := by decide +kernel
theorem dX9_readOperand_47 : decode cX9_readOperand 47 = .ok (.getfield 15, 3) := by decide +kernel
theorem dX9_readOperand_50 : decode cX9_readOperand 50 = .ok (.iconst 1, 1) := by decide +kernel
theorem dX9_readOperand_51 : decode cX9_readOperand 51 = .ok (.iadd, 1) := by decide +kernel
theorem dX9_readOperand_52 : decode cX9_readOperand 52 = .ok (.putfield 15, 3) := by decide +kernel
theorem dX9_readOperand_55 : decode cX9_readOperand 55 = .ok (.aload_n 0, 1) := by decide +kernel
theorem dX9_readOperand_56 : decode cX9_readOperand 56 = .ok (.getfield 11, 3) := by decide +kernel
theorem dX9_readOperand_59 : decode cX9_readOperand 59 = .ok (.aload_n 0, 1) := by decide +kernel
theorem dX9_readOperand_60 : decode cX9_readOperand 60 = .ok (.getfield 15, 3) := by decide +kernel
theorem dX9_readOperand_63 : decode cX9_readOperand 63 = .ok (.iconst 1, 1) := by decide +kernel
theorem dX9_readOperand_64 : decode cX9_readOperand 64 = .ok (.isub, 1) := by decide +kernel
theorem dX9_readOperand_65 : decode cX9_readOperand 65 = .ok (.baload, 1) := by decide +kernel
theorem dX9_readOperand_66 : decode cX9_readOperand 66 = .ok (.bipush 32, 2) := by decide +kernel
theorem dX9_readOperand_68 : decode cX9_readOperand 68 = .ok (.if_icmp .eq (-48), 3) := by decide +kernel
theorem dX9_readOperand_71 : decode cX9_readOperand 71 = .ok (.aload_n 0, 1) := by decide +kernel
theorem dX9_readOperand_72 : decode cX9_readOperand 72 = .ok (.aload_n 0, 1) := by decide +kernel
theorem dX9_readOperand_73 : decode cX9_readOperand 73 = .ok (.getfield 15, 3) := by decide +kernel
theorem dX9_readOperand_76 : decode cX9_readOperand 76 = .ok (.putfield 38, 3) := by decide +kernel
theorem dX9_readOperand_79 : decode cX9_readOperand 79 = .ok (.goto (-59), 3) := by decide +kernel
theorem dX9_readOperand_82 : decode cX9_readOperand 82 = .ok (.return_, 1) := by decide +kernel
theorem dX9_readNumber_0 : decode cX9_readNumber 0 = .ok (.aload_n 0, 1) := by decide +kernel
theorem dX9_readNumber_1 : decode cX9_readNumber 1 = .ok (.getfield 15, 3) := by decide +kernel
theorem dX9_readNumber_4 : decode cX9_readNumber 4 = .ok (.iconst 1, 1) := by decide +kernel
theorem dX9_readNumber_5 : decode cX9_readNumber 5 = .ok (.iadd, 1) := by decide +kernel
theorem dX9_readNumber_6 : decode cX9_readNumber 6 = .ok (.aload_n 0, 1) := by decide +kernel
theorem dX9_readNumber_7 : decode cX9_readNumber 7 = .ok (.getfield 19, 3) := by decide +kernel
theorem dX9_readNumber_10 : decode cX9_readNumber 10 = .ok (.if_icmp .ge 37, 3) := by decide +kernel
theorem dX9_readNumber_13 : decode cX9_readNumber 13 = .ok (.aload_n 0, 1) := by decide +kernel
theorem dX9_readNumber_14 : decode cX9_readNumber 14 = .ok (.getfield 11, 3) := by decide +kernel
theorem dX9_readNumber_17 : decode cX9_readNumber 17 = .ok (.aload_n 0, 1) := by decide +kernel
theorem dX9_readNumber_18 : decode cX9_readNumber 18 = .ok (.getfield 15, 3) := by decide +kernel
theorem dX9_readNumber_21 : decode cX9_readNumber 21 = .ok (.baload, 1) := by decide +kernel
theorem dX9_readNumber_22 : decode cX9_readNumber 22 = .ok (.bipush 48, 2) := by decide +kernel
theorem dX9_readNumber_24 : decode cX9_readNumber 24 = .ok (.if_icmp .ne 23, 3) := by decide +kernel
theorem dX9_readNumber_27 : decode cX9_readNumber 27 = .ok (.aload_n 0, 1) := by decide +kernel
theorem dX9_readNumber_28 : decode cX9_readNumber 28 = .ok (.getfield 11, 3) := by decide +kernel
theorem dX9_readNumber_31 : decode cX9_readNumber 31 = .ok (.aload_n 0, 1) := by decide +kernel
theorem dX9_readNumber_32 : decode cX9_readNumber 32 = .ok (.getfield 15, 3) := by decide +kernel
theorem dX9_readNumber_35 : decode cX9_readNumber 35 = .ok (.iconst 1, 1) := by decide +kernel
theorem dX9_readNumber_36 : decode cX9_readNumber 36 = .ok (.iadd, 1) := by decide +kernel
theorem dX9_readNumber_37 : decode cX9_readNumber 37 = .ok (.baload, 1) := by decide +kernel
theorem dX9_readNumber_38 : decode cX9_readNumber 38 = .ok (.bipush 120, 2) := by decide +kernel
theorem dX9_readNumber_40 : decode cX9_readNumber 40 = .ok (.if_icmp .ne 7, 3) := by decide +kernel
theorem dX9_readNumber_43 : decode cX9_readNumber 43 = .ok (.iconst 1, 1) := by decide +kernel
theorem dX9_readNumber_44 : decode cX9_readNumber 44 = .ok (.goto 4, 3) := by decide +kernel
theorem dX9_readNumber_47 : decode cX9_readNumber 47 = .ok (.iconst 0, 1) := by decide +kernel
theorem dX9_readNumber_48 : decode cX9_readNumber 48 = .ok (.istore_n 1, 1) := by decide +kernel
theorem dX9_readNumber_49 : decode cX9_readNumber 49 = .ok (.iload_n 1, 1) := by decide +kernel
theorem dX9_readNumber_50 : decode cX9_readNumber 50 = .ok (.ifCond .eq 8, 3) := by decide +kernel
theorem dX9_readNumber_53 : decode cX9_readNumber 53 = .ok (.bipush 16, 2) := by decide +kernel
theorem dX9_readNumber_55 : decode cX9_readNumber 55 = .ok (.goto 5, 3) := by decide +kernel
theorem dX9_readNumber_58 : decode cX9_readNumber 58 = .ok (.bipush 10, 2) := by decide +kernel
theorem dX9_readNumber_60 : decode cX9_readNumber 60 = .ok (.istore_n 2, 1) := by decide +kernel
theorem dX9_readNumber_61 : decode cX9_readNumber 61 = .ok (.iload_n 1, 1) := by decide +kernel
theorem dX9_readNumber_62 : decode cX9_readNumber 62 = .ok (.ifCond .eq 13, 3) := by decide +kernel
theorem dX9_readNumber_65 : decode cX9_readNumber 65 = .ok (.aload_n 0, 1) := by decide +kernel
theorem dX9_readNumber_66 : decode cX9_readNumber 66 = .ok (.dup, 1) := by decide +kernel
theorem dX9_readNumber_67 : decode cX9_readNumber 67 = .ok (.getfield 15, 3) := by decide +kernel
theorem dX9_readNumber_70 : decode cX9_readNumber 70 = .ok (.iconst 2, 1) := by decide +kernel
theorem dX9_readNumber_71 : decode cX9_readNumber 71 = .ok (.iadd, 1) := by decide +kernel
theorem dX9_readNumber_72 : decode cX9_readNumber 72 = .ok (.putfield 15, 3) := by decide +kernel
theorem dX9_readNumber_75 : decode cX9_readNumber 75 = .ok (.aload_n 0, 1) := by decide +kernel
theorem dX9_readNumber_76 : decode cX9_readNumber 76 = .ok (.getfield 15, 3) := by decide +kernel
theorem dX9_readNumber_79 : decode cX9_readNumber 79 = .ok (.istore_n 3, 1) := by decide +kernel
theorem dX9_readNumber_80 : decode cX9_readNumber 80 = .ok (.lconst 0, 1) := by decide +kernel
theorem dX9_readNumber_81 : decode cX9_readNumber 81 = .ok (.lstore 4, 2) := by decide +kernel
theorem dX9_readNumber_83 : decode cX9_readNumber 83 = .ok (.aload_n 0, 1) := by decide +kernel
theorem dX9_readNumber_84 : decode cX9_readNumber 84 = .ok (.getfield 15, 3) := by decide +kernel
theorem dX9_readNumber_87 : decode cX9_readNumber 87 = .ok (.aload_n 0, 1) := by decide +kernel
theorem dX9_readNumber_88 : decode cX9_readNumber 88 = .ok (.getfield 19, 3) := by decide +kernel
theorem dX9_readNumber_91 : decode cX9_readNumber 91 = .ok (.if_icmp .ge 55, 3) := by decide +kernel
theorem dX9_readNumber_94 : decode cX9_readNumber 94 = .ok (.aload_n 0, 1) := by decide +kernel
theorem dX9_readNumber_95 : decode cX9_readNumber 95 = .ok (.getfield 11, 3) := by decide +kernel
theorem dX9_readNumber_98 : decode cX9_readNumber 98 = .ok (.aload_n 0, 1) := by decide +kernel
theorem dX9_readNumber_99 : decode cX9_readNumber 99 = .ok (.getfield 15, 3) := by decide +kernel
theorem dX9_readNumber_102 : decode cX9_readNumber 102 = .ok (.baload, 1) := by decide +kernel
theorem dX9_readNumber_103 : decode cX9_readNumber 103 = .ok (.invokestatic 59, 3) := by decide +kernel
theorem dX9_readNumber_106 : decode cX9_readNumber 106 = .ok (.istore 6, 2) := by decide +kernel
theorem dX9_readNumber_108 : decode cX9_readNumber 108 = .ok (.iload 6, 2) := by decide +kernel
theorem dX9_readNumber_110 : decode cX9_readNumber 110 = .ok (.ifCond .lt 36, 3) := by decide +kernel
theorem dX9_readNumber_113 : decode cX9_readNumber 113 = .ok (.iload 6, 2) := by decide +kernel
theorem dX9_readNumber_115 : decode cX9_readNumber 115 = .ok (.iload_n 2, 1) := by decide +kernel
theorem dX9_readNumber_116 : decode cX9_readNumber 116 = .ok (.if_icmp .lt 6, 3) := by decide +kernel
theorem dX9_readNumber_119 : decode cX9_readNumber 119 = .ok (.goto 27, 3) := by decide +kernel
theorem dX9_readNumber_122 : decode cX9_readNumber 122 = .ok (.lload 4, 2) := by decide +kernel
theorem dX9_readNumber_124 : decode cX9_readNumber 124 = .ok (.iload_n 2, 1) := by decide +kernel
theorem dX9_readNumber_125 : decode cX9_readNumber 125 = .ok (.i2l, 1) := by decide +kernel
theorem dX9_readNumber_126 : decode cX9_readNumber 126 = .ok (.lmul, 1) := by decide +kernel
theorem dX9_readNumber_127 : decode cX9_readNumber 127 = .ok (.iload 6, 2) := by decide +kernel
theorem dX9_readNumber_129 : decode cX9_readNumber 129 = .ok (.i2l, 1) := by decide +kernel
theorem dX9_readNumber_130 : decode cX9_readNumber 130 = .ok (.ladd, 1) := by decide +kernel
theorem dX9_readNumber_131 : decode cX9_readNumber 131 = .ok (.lstore 4, 2) := by decide +kernel
theorem dX9_readNumber_133 : decode cX9_readNumber 133 = .ok (.aload_n 0, 1) := by decide +kernel
theorem dX9_readNumber_134 : decode cX9_readNumber 134 = .ok (.dup, 1) := by decide +kernel
theorem dX9_readNumber_135 : decode cX9_readNumber 135 = .ok (.getfield 15, 3) := by decide +kernel
theorem dX9_readNumber_138 : decode cX9_readNumber 138 = .ok (.iconst 1, 1) := by decide +kernel
theorem dX9_readNumber_139 : decode cX9_readNumber 139 = .ok (.iadd, 1) := by decide +kernel
theorem dX9_readNumber_140 : decode cX9_readNumber 140 = .ok (.putfield 15, 3) := by decide +kernel
theorem dX9_readNumber_143 : decode cX9_readNumber 143 = .ok (.goto (-60), 3) := by decide +kernel
theorem dX9_readNumber_146 : decode cX9_readNumber 146 = .ok (.aload_n 0, 1) := by decide +kernel
theorem dX9_readNumber_147 : decode cX9_readNumber 147 = .ok (.getfield 15, 3) := by decide +kernel
theorem dX9_readNumber_150 : decode cX9_readNumber 150 = .ok (.iload_n 3, 1) := by decide +kernel
theorem dX9_readNumber_151 : decode cX9_readNumber 151 = .ok (.isub, 1) := by decide +kernel
theorem dX9_readNumber_152 : decode cX9_readNumber 152 = .ok (.istore 6, 2) := by decide +kernel
theorem dX9_readNumber_154 : decode cX9_readNumber 154 = .ok (.iload 6, 2) := by decide +kernel
theorem dX9_readNumber_156 : decode cX9_readNumber 156 = .ok (.ifCond .eq 19, 3) := by decide +kernel
theorem dX9_readNumber_159 : decode cX9_readNumber 159 = .ok (.iload 6, 2) := by decide +kernel
theorem dX9_readNumber_161 : decode cX9_readNumber 161 = .ok (.iload_n 1, 1) := by decide +kernel
theorem dX9_readNumber_162 : decode cX9_readNumber 162 = .ok (.ifCond .eq 8, 3) := by decide +kernel
theorem dX9_readNumber_165 : decode cX9_readNumber 165 = .ok (.bipush 8, 2) := by decide +kernel
theorem dX9_readNumber_167 : decode cX9_readNumber 167 = .ok (.goto 5, 3) := by decide +kernel
theorem dX9_readNumber_170 : decode cX9_readNumber 170 = .ok (.bipush 9, 2) := by decide +kernel
theorem dX9_readNumber_172 : decode cX9_readNumber 172 = .ok (.if_icmp .le 9, 3) := by decide +kernel
theorem dX9_readNumber_175 : decode cX9_readNumber 175 = .ok (.ldc2_w 53, 3) := by decide +kernel
theorem dX9_readNumber_178 : decode cX9_readNumber 178 = .ok (.goto 5, 3) := by decide +kernel
theorem dX9_readNumber_181 : decode cX9_readNumber 181 = .ok (.lload 4, 2) := by decide +kernel
theorem dX9_readNumber_183 : decode cX9_readNumber 183 = .ok (.lreturn, 1) := by decide +kernel
theorem dX9_start_0 : decode cX9_start 0 = .ok (.aload_n 0, 1) := by decide +kernel
theorem dX9_start_1 : decode cX9_start 1 = .ok (.aload_n 1, 1) := by decide +kernel
theorem dX9_start_2 : decode cX9_start 2 = .ok (.putfield 11, 3) := by decide +kernel
theorem dX9_start_5 : decode cX9_start 5 = .ok (.aload_n 0, 1) := by decide +kernel
theorem dX9_start_6 : decode cX9_start 6 = .ok (.iload_n 2, 1) := by decide +kernel
theorem dX9_start_7 : decode cX9_start 7 = .ok (.putfield 15, 3) := by decide +kernel
theorem dX9_start_10 : decode cX9_start 10 = .ok (.aload_n 0, 1) := by decide +kernel
theorem dX9_start_11 : decode cX9_start 11 = .ok (.iload_n 2, 1) := by decide +kernel
theorem dX9_start_12 : decode cX9_start 12 = .ok (.putfield 19, 3) := by decide +kernel
theorem dX9_start_15 : decode cX9_start 15 = .ok (.aload_n 0, 1) := by decide +kernel
theorem dX9_start_16 : decode cX9_start 16 = .ok (.getfield 19, 3) := by decide +kernel
theorem dX9_start_19 : decode cX9_start 19 = .ok (.iload_n 3, 1) := by decide +kernel
theorem dX9_start_20 : decode cX9_start 20 = .ok (.if_icmp .ge 36, 3) := by decide +kernel
theorem dX9_start_23 : decode cX9_start 23 = .ok (.aload_n 0, 1) := by decide +kernel
theorem dX9_start_24 : decode cX9_start 24 = .ok (.getfield 19, 3) := by decide +kernel
theorem dX9_start_27 : decode cX9_start 27 = .ok (.aload_n 1, 1) := by decide +kernel
theorem dX9_start_28 : decode cX9_start 28 = .ok (.arraylength, 1) := by decide +kernel
theorem dX9_start_29 : decode cX9_start 29 = .ok (.if_icmp .ge 27, 3) := by decide +kernel
theorem dX9_start_32 : decode cX9_start 32 = .ok (.aload_n 1, 1) := by decide +kernel
theorem dX9_start_33 : decode cX9_start 33 = .ok (.aload_n 0, 1) := by decide +kernel
theorem dX9_start_34 : decode cX9_start 34 = .ok (.getfield 19, 3) := by decide +kernel
theorem dX9_start_37 : decode cX9_start 37 = .ok (.baload, 1) := by decide +kernel
theorem dX9_start_38 : decode cX9_start 38 = .ok (.bipush 59, 2) := by decide +kernel
theorem dX9_start_40 : decode cX9_start 40 = .ok (.if_icmp .eq 16, 3) := by decide +kernel
theorem dX9_start_43 : decode cX9_start 43 = .ok (.aload_n 0, 1) := by decide +kernel
theorem dX9_start_44 : decode cX9_start 44 = .ok (.dup, 1) := by decide +kernel
theorem dX9_start_45 : decode cX9_start 45 = .ok (.getfield 19, 3) := by decide +kernel
theorem dX9_start_48 : decode cX9_start 48 = .ok (.iconst 1, 1) := by decide +kernel
theorem dX9_start_49 : decode cX9_start 49 = .ok (.iadd, 1) := by decide +kernel
theorem dX9_start_50 : decode cX9_start 50 = .ok (.putfield 19, 3) := by decide +kernel
theorem dX9_start_53 : decode cX9_start 53 = .ok (.goto (-38), 3) := by decide +kernel
theorem dX9_start_56 : decode cX9_start 56 = .ok (.return_, 1) := by decide +kernel

