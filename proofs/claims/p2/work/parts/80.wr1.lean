set_option maxRecDepth 20000 in
theorem w_5_223 : (Jvm.Cond.fieldLink "AssembleLinesModel" (192 : Nat) "AssembleLinesModel" "lineSize" "I") ∈ b_Ws := bw_5 (List.mem_of_getElem? (i := 223) rfl) rfl
set_option maxRecDepth 20000 in
theorem w_5_224 : (Jvm.Cond.fieldLink "AssembleLinesModel" (189 : Nat) "AssembleLinesModel" "at" "I") ∈ b_Ws := bw_5 (List.mem_of_getElem? (i := 224) rfl) rfl
set_option maxRecDepth 20000 in
theorem w_5_226 : (Jvm.Cond.fieldLink "AssembleLinesModel" (207 : Nat) "AssembleLinesModel" "isBad" "Z") ∈ b_Ws := bw_5 (List.mem_of_getElem? (i := 226) rfl) rfl
set_option maxRecDepth 20000 in
theorem w_5_228 : (Jvm.Cond.fieldLink "AssembleLinesModel" (214 : Nat) "AssembleLinesModel" "macros" "I") ∈ b_Ws := bw_5 (List.mem_of_getElem? (i := 228) rfl) rfl
set_option maxRecDepth 20000 in
theorem w_6_4 : (Jvm.Cond.fieldLink "AssembleLinesModel" (217 : Nat) "AssembleLinesModel" "statements" "I") ∈ b_Ws := bw_6 (List.mem_of_getElem? (i := 4) rfl) rfl
set_option maxRecDepth 20000 in
theorem w_6_233 : (Jvm.Cond.methodLink "AssembleLinesModel" (199 : Nat) ({ cls := "AssembleLinesModel", name := "isPart", desc := "(I)Z" } : Jvm.MethodName)) ∈ b_Ws := bw_6 (List.mem_of_getElem? (i := 233) rfl) rfl
set_option maxRecDepth 20000 in
theorem w_6_234 : (Jvm.Cond.static ({ cls := "AssembleLinesModel", name := "isPart", desc := "(I)Z" } : Jvm.MethodName)) ∈ b_Ws := bw_6 (List.mem_of_getElem? (i := 234) rfl) rfl
set_option maxRecDepth 20000 in
theorem w_6_235 : (Jvm.Cond.code ({ cls := "AssembleLinesModel", name := "isPart", desc := "(I)Z" } : Jvm.MethodName) prog_15_method_11_code (1 : Nat) (Option.some Jvm.ClassFile.FieldType.boolean)) ∈ b_Ws := bw_6 (List.mem_of_getElem? (i := 235) rfl) rfl
set_option maxRecDepth 20000 in
theorem w_6_236 : (Jvm.Cond.methodLink "AssembleLinesModel" (183 : Nat) ({ cls := "AssembleLinesModel", name := "isStart", desc := "(I)Z" } : Jvm.MethodName)) ∈ b_Ws := bw_6 (List.mem_of_getElem? (i := 236) rfl) rfl
set_option maxRecDepth 20000 in
theorem w_6_237 : (Jvm.Cond.static ({ cls := "AssembleLinesModel", name := "isStart", desc := "(I)Z" } : Jvm.MethodName)) ∈ b_Ws := bw_6 (List.mem_of_getElem? (i := 237) rfl) rfl
set_option maxRecDepth 20000 in
theorem w_6_238 : (Jvm.Cond.code ({ cls := "AssembleLinesModel", name := "isStart", desc := "(I)Z" } : Jvm.MethodName) prog_15_method_10_code (1 : Nat) (Option.some Jvm.ClassFile.FieldType.boolean)) ∈ b_Ws := bw_6 (List.mem_of_getElem? (i := 238) rfl) rfl
set_option maxRecDepth 20000 in
theorem w_6_239 : (Jvm.Cond.methodLink "AssembleLinesModel" (179 : Nat) ({ cls := "AssembleLinesModel", name := "isSmall", desc := "(I)Z" } : Jvm.MethodName)) ∈ b_Ws := bw_6 (List.mem_of_getElem? (i := 239) rfl) rfl
set_option maxRecDepth 20000 in
theorem w_7_0 : (Jvm.Cond.static ({ cls := "AssembleLinesModel", name := "isSmall", desc := "(I)Z" } : Jvm.MethodName)) ∈ b_Ws := bw_7 (List.mem_of_getElem? (i := 0) rfl) rfl
set_option maxRecDepth 20000 in
theorem w_7_1 : (Jvm.Cond.code ({ cls := "AssembleLinesModel", name := "isSmall", desc := "(I)Z" } : Jvm.MethodName) prog_15_method_8_code (1 : Nat) (Option.some Jvm.ClassFile.FieldType.boolean)) ∈ b_Ws := bw_7 (List.mem_of_getElem? (i := 1) rfl) rfl
set_option maxRecDepth 20000 in
theorem w_7_2 : (Jvm.Cond.methodLink "AssembleLinesModel" (186 : Nat) ({ cls := "AssembleLinesModel", name := "isDigit", desc := "(I)Z" } : Jvm.MethodName)) ∈ b_Ws := bw_7 (List.mem_of_getElem? (i := 2) rfl) rfl
set_option maxRecDepth 20000 in
theorem w_7_3 : (Jvm.Cond.static ({ cls := "AssembleLinesModel", name := "isDigit", desc := "(I)Z" } : Jvm.MethodName)) ∈ b_Ws := bw_7 (List.mem_of_getElem? (i := 3) rfl) rfl
set_option maxRecDepth 20000 in
theorem w_7_4 : (Jvm.Cond.code ({ cls := "AssembleLinesModel", name := "isDigit", desc := "(I)Z" } : Jvm.MethodName) prog_15_method_9_code (1 : Nat) (Option.some Jvm.ClassFile.FieldType.boolean)) ∈ b_Ws := bw_7 (List.mem_of_getElem? (i := 4) rfl) rfl
set_option maxRecDepth 20000 in
theorem w_7_25 : (Jvm.Cond.methodLink "AssembleLinesModel" (232 : Nat) ({ cls := "AssembleLinesModel", name := "passBlanks", desc := "()V" } : Jvm.MethodName)) ∈ b_Ws := bw_7 (List.mem_of_getElem? (i := 25) rfl) rfl
set_option maxRecDepth 20000 in
theorem w_7_27 : (Jvm.Cond.instanceMethod ({ cls := "AssembleLinesModel", name := "passBlanks", desc := "()V" } : Jvm.MethodName)) ∈ b_Ws := bw_7 (List.mem_of_getElem? (i := 27) rfl) rfl
set_option maxRecDepth 20000 in
theorem w_7_28 : (Jvm.Cond.code ({ cls := "AssembleLinesModel", name := "passBlanks", desc := "()V" } : Jvm.MethodName) prog_15_method_14_code (1 : Nat) (Option.none : Option Jvm.ClassFile.FieldType)) ∈ b_Ws := bw_7 (List.mem_of_getElem? (i := 28) rfl) rfl
set_option maxRecDepth 20000 in
theorem w_7_29 : (Jvm.Cond.methodLink "AssembleLinesModel" (195 : Nat) ({ cls := "AssembleLinesModel", name := "now", desc := "()I" } : Jvm.MethodName)) ∈ b_Ws := bw_7 (List.mem_of_getElem? (i := 29) rfl) rfl
set_option maxRecDepth 20000 in
theorem w_7_31 : (Jvm.Cond.instanceMethod ({ cls := "AssembleLinesModel", name := "now", desc := "()I" } : Jvm.MethodName)) ∈ b_Ws := bw_7 (List.mem_of_getElem? (i := 31) rfl) rfl
set_option maxRecDepth 20000 in
theorem w_7_32 : (Jvm.Cond.code ({ cls := "AssembleLinesModel", name := "now", desc := "()I" } : Jvm.MethodName) prog_15_method_13_code (1 : Nat) (Option.some Jvm.ClassFile.FieldType.int)) ∈ b_Ws := bw_7 (List.mem_of_getElem? (i := 32) rfl) rfl
set_option maxRecDepth 20000 in
theorem w_7_41 : (Jvm.Cond.constantLong "AssembleLinesModel" (202 : Nat) (64 : Int64)) ∈ b_Ws := bw_7 (List.mem_of_getElem? (i := 41) rfl) rfl
set_option maxRecDepth 20000 in
theorem w_7_42 : (Jvm.Cond.methodLink "AssembleLinesModel" (204 : Nat) ({ cls := "AssembleLinesModel", name := "codeOf", desc := "(I)I" } : Jvm.MethodName)) ∈ b_Ws := bw_7 (List.mem_of_getElem? (i := 42) rfl) rfl
set_option maxRecDepth 20000 in
theorem w_7_43 : (Jvm.Cond.static ({ cls := "AssembleLinesModel", name := "codeOf", desc := "(I)I" } : Jvm.MethodName)) ∈ b_Ws := bw_7 (List.mem_of_getElem? (i := 43) rfl) rfl
set_option maxRecDepth 20000 in
theorem w_7_44 : (Jvm.Cond.code ({ cls := "AssembleLinesModel", name := "codeOf", desc := "(I)I" } : Jvm.MethodName) prog_15_method_12_code (1 : Nat) (Option.some Jvm.ClassFile.FieldType.int)) ∈ b_Ws := bw_7 (List.mem_of_getElem? (i := 44) rfl) rfl
set_option maxRecDepth 20000 in
theorem w_7_48 : (Jvm.Cond.constantLong "AssembleLinesModel" (210 : Nat) (1179 : Int64)) ∈ b_Ws := bw_7 (List.mem_of_getElem? (i := 48) rfl) rfl
set_option maxRecDepth 20000 in
theorem w_7_49 : (Jvm.Cond.constantLong "AssembleLinesModel" (212 : Nat) (1186 : Int64)) ∈ b_Ws := bw_7 (List.mem_of_getElem? (i := 49) rfl) rfl
set_option maxRecDepth 20000 in
theorem w_7_97 : (Jvm.Cond.constantLong "AssembleLinesModel" (220 : Nat) (1021 : Int64)) ∈ b_Ws := bw_7 (List.mem_of_getElem? (i := 97) rfl) rfl
theorem dX13_isSmall_0 : decode cX13_isSmall 0 = .ok (.iload_n 0, 1) := by decide +kernel
theorem dX13_isSmall_1 : decode cX13_isSmall 1 = .ok (.bipush 97, 2) := by decide +kernel
theorem dX13_isSmall_3 : decode cX13_isSmall 3 = .ok (.bipush 122, 2) := by decide +kernel
theorem dX13_isSmall_5 : decode cX13_isSmall 5 = .ok (.invokestatic 168, 3) := by decide +kernel
theorem dX13_isSmall_8 : decode cX13_isSmall 8 = .ok (.ireturn, 1) := by decide +kernel
theorem dX13_isDigit_0 : decode cX13_isDigit 0 = .ok (.iload_n 0, 1) := by decide +kernel
theorem dX13_isDigit_1 : decode cX13_isDigit 1 = .ok (.bipush 48, 2) := by decide +kernel
theorem dX13_isDigit_3 : decode cX13_isDigit 3 = .ok (.bipush 57, 2) := by decide +kernel
theorem dX13_isDigit_5 : decode cX13_isDigit 5 = .ok (.invokestatic 168, 3) := by decide +kernel
theorem dX13_isDigit_8 : decode cX13_isDigit 8 = .ok (.ireturn, 1) := by decide +kernel
theorem dX13_isStart_0 : decode cX13_isStart 0 = .ok (.iload_n 0, 1) := by decide +kernel
theorem dX13_isStart_1 : decode cX13_isStart 1 = .ok (.invokestatic 179, 3) := by decide +kernel
theorem dX13_isStart_4 : decode cX13_isStart 4 = .ok (.ifCond .ne 9, 3) := by decide +kernel
theorem dX13_isStart_7 : decode cX13_isStart 7 = .ok (.iload_n 0, 1) := by decide +kernel
theorem dX13_isStart_8 : decode cX13_isStart 8 = .ok (.bipush 95, 2) := by decide +kernel
theorem dX13_isStart_10 : decode cX13_isStart 10 = .ok (.if_icmp .ne 7, 3) := by decide +kernel
theorem dX13_isStart_13 : decode cX13_isStart 13 = .ok (.iconst 1, 1) := by decide +kernel
theorem dX13_isStart_14 : decode cX13_isStart 14 = .ok (.goto 4, 3) := by decide +kernel
theorem dX13_isStart_17 : decode cX13_isStart 17 = .ok (.iconst 0, 1) := by decide +kernel
theorem dX13_isStart_18 : decode cX13_isStart 18 = .ok (.ireturn, 1) := by decide +kernel
theorem dX13_isPart_0 : decode cX13_isPart 0 = .ok (.iload_n 0, 1) := by decide +kernel
theorem dX13_isPart_1 : decode cX13_isPart 1 = .ok (.invokestatic 183, 3) := by decide +kernel
theorem dX13_isPart_4 : decode cX13_isPart 4 = .ok (.ifCond .ne 10, 3) := by decide +kernel
theorem dX13_isPart_7 : decode cX13_isPart 7 = .ok (.iload_n 0, 1) := by decide +kernel
theorem dX13_isPart_8 : decode cX13_isPart 8 = .ok (.invokestatic 186, 3) := by decide +kernel
theorem dX13_isPart_11 : decode cX13_isPart 11 = .ok (.ifCond .eq 7, 3) := by decide +kernel
theorem dX13_isPart_14 : decode cX13_isPart 14 = .ok (.iconst 1, 1) := by decide +kernel
theorem dX13_isPart_15 : decode cX13_isPart 15 = .ok (.goto 4, 3) := by decide +kernel
theorem dX13_isPart_18 : decode cX13_isPart 18 = .ok (.iconst 0, 1) := by decide +kernel
theorem dX13_isPart_19 : decode cX13_isPart 19 = .ok (.ireturn, 1) := by decide +kernel
theorem dX13_codeOf_0 : decode cX13_codeOf 0 = .ok (.iload_n 0, 1) := by decide +kernel
theorem dX13_codeOf_1 : decode cX13_codeOf 1 = .ok (.bipush 95, 2) := by decide +kernel
theorem dX13_codeOf_3 : decode cX13_codeOf 3 = .ok (.if_icmp .ne 8, 3) := by decide +kernel
theorem dX13_codeOf_6 : decode cX13_codeOf 6 = .ok (.bipush 37, 2) := by decide +kernel
theorem dX13_codeOf_8 : decode cX13_codeOf 8 = .ok (.goto 21, 3) := by decide +kernel
theorem dX13_codeOf_11 : decode cX13_codeOf 11 = .ok (.iload_n 0, 1) := by decide +kernel
theorem dX13_codeOf_12 : decode cX13_codeOf 12 = .ok (.invokestatic 186, 3) := by decide +kernel
theorem dX13_codeOf_15 : decode cX13_codeOf 15 = .ok (.ifCond .eq 10, 3) := by decide +kernel
theorem dX13_codeOf_18 : decode cX13_codeOf 18 = .ok (.iload_n 0, 1) := by decide +kernel
theorem dX13_codeOf_19 : decode cX13_codeOf 19 = .ok (.bipush 21, 2) := by decide +kernel
theorem dX13_codeOf_21 : decode cX13_codeOf 21 = .ok (.isub, 1) := by decide +kernel
theorem dX13_codeOf_22 : decode cX13_codeOf 22 = .ok (.goto 7, 3) := by decide +kernel
theorem dX13_codeOf_25 : decode cX13_codeOf 25 = .ok (.iload_n 0, 1) := by decide +kernel
theorem dX13_codeOf_26 : decode cX13_codeOf 26 = .ok (.bipush 96, 2) := by decide +kernel
theorem dX13_codeOf_28 : decode cX13_codeOf 28 = .ok (.isub, 1) := by decide +kernel
theorem dX13_codeOf_29 : decode cX13_codeOf 29 = .ok (.ireturn, 1) := by decide +kernel
theorem dX13_isRegisterName_0 : decode cX13_isRegisterName 0 = .ok (.lload_n 0, 1) := by decide +kernel
theorem dX13_isRegisterName_1 : decode cX13_isRegisterName 1 = .ok (.ldc2_w 210, 3) := by decide +kernel
theorem dX13_isRegisterName_4 : decode cX13_isRegisterName 4 = .ok (.lcmp, 1) := by decide +kernel
theorem dX13_isRegisterName_5 : decode cX13_isRegisterName 5 = .ok (.ifCond .lt 15, 3) := by decide +kernel
theorem dX13_isRegisterName_8 : decode cX13_isRegisterName 8 = .ok (.lload_n 0, 1) := by decide +kernel
theorem dX13_isRegisterName_9 : decode cX13_isRegisterName 9 = .ok (.ldc2_w 212, 3) := by decide +kernel
theorem dX13_isRegisterName_12 : decode cX13_isRegisterName 12 = .ok (.lcmp, 1) := by decide +kernel
theorem dX13_isRegisterName_13 : decode cX13_isRegisterName 13 = .ok (.ifCond .gt 7, 3) := by decide +kernel
theorem dX13_isRegisterName_16 : decode cX13_isRegisterName 16 = .ok (.iconst 1, 1) := by decide +kernel
theorem dX13_isRegisterName_17 : decode cX13_isRegisterName 17 = .ok (.goto 4, 3) := by decide +kernel
theorem dX13_isRegisterName_20 : decode cX13_isRegisterName 20 = .ok (.iconst 0, 1) := by decide +kernel
theorem dX13_isRegisterName_21 : decode cX13_isRegisterName 21 = .ok (.ireturn, 1) := by decide +kernel
theorem dX13_chainOf_0 : decode cX13_chainOf 0 = .ok (.lload_n 0, 1) := by decide +kernel
theorem dX13_chainOf_1 : decode cX13_chainOf 1 = .ok (.ldc2_w 220, 3) := by decide +kernel
theorem dX13_chainOf_4 : decode cX13_chainOf 4 = .ok (.lrem, 1) := by decide +kernel
theorem dX13_chainOf_5 : decode cX13_chainOf 5 = .ok (.l2i, 1) := by decide +kernel
theorem dX13_chainOf_6 : decode cX13_chainOf 6 = .ok (.ireturn, 1) := by decide +kernel
theorem dX13_now_0 : decode cX13_now 0 = .ok (.aload_n 0, 1) := by decide +kernel
theorem dX13_now_1 : decode cX13_now 1 = .ok (.getfield 189, 3) := by decide +kernel
theorem dX13_now_4 : decode cX13_now 4 = .ok (.aload_n 0, 1) := by decide +kernel
theorem dX13_now_5 : decode cX13_now 5 = .ok (.getfield 192, 3) := by decide +kernel
theorem dX13_now_8 : decode cX13_now 8 = .ok (.if_icmp .ge 15, 3) := by decide +kernel
theorem dX13_now_11 : decode cX13_now 11 = .ok (.aload_n 0, 1) := by decide +kernel
theorem dX13_now_12 : decode cX13_now 12 = .ok (.getfield 49, 3) := by decide +kernel
theorem dX13_now_15 : decode cX13_now 15 = .ok (.aload_n 0, 1) := by decide +kernel
theorem dX13_now_16 : decode cX13_now 16 = .ok (.getfield 189, 3) := by decide +kernel
theorem dX13_now_19 : decode cX13_now 19 = .ok (.iaload, 1) := by decide +kernel
theorem dX13_now_20 : decode cX13_now 20 = .ok (.goto 4, 3) := by decide +kernel
theorem dX13_now_23 : decode cX13_now 23 = .ok (.iconst (-1), 1) := by decide +kernel
theorem dX13_now_24 : decode cX13_now 24 = .ok (.ireturn, 1) := by decide +kernel
theorem dX13_passBlanks_0 : decode cX13_passBlanks 0 = .ok (.aload_n 0, 1) := by decide +kernel
theorem dX13_passBlanks_1 : decode cX13_passBlanks 1 = .ok (.invokevirtual 195, 3) := by decide +kernel
theorem dX13_passBlanks_4 : decode cX13_passBlanks 4 = .ok (.bipush 32, 2) := by decide +kernel
theorem dX13_passBlanks_6 : decode cX13_passBlanks 6 = .ok (.if_icmp .ne 16, 3) := by decide +kernel
theorem dX13_passBlanks_9 : decode cX13_passBlanks 9 = .ok (.aload_n 0, 1) := by decide +kernel
theorem dX13_passBlanks_10 : decode cX13_passBlanks 10 = .ok (.dup, 1) := by decide +kernel
theorem dX13_passBlanks_11 : decode cX13_passBlanks 11 = .ok (.getfield 189, 3) := by decide +kernel
theorem dX13_passBlanks_14 : decode cX13_passBlanks 14 = .ok (.iconst 1, 1) := by decide +kernel
theorem dX13_passBlanks_15 : decode cX13_passBlanks 15 = .ok (.iadd, 1) := by decide +kernel
theorem dX13_passBlanks_16 : decode cX13_passBlanks 16 = .ok (.putfield 189, 3) := by decide +kernel
theorem dX13_passBlanks_19 : decode cX13_passBlanks 19 = .ok (.goto (-19), 3) := by decide +kernel
theorem dX13_passBlanks_22 : decode cX13_passBlanks 22 = .ok (.return_, 1) := by decide +kernel
theorem dX13_takeName_0 : decode cX13_takeName 0 = .ok (.lconst 0, 1) := by decide +kernel
theorem dX13_takeName_1 : decode cX13_takeName 1 = .ok (.lstore_n 1, 1) := by decide +kernel
theorem dX13_takeName_2 : decode cX13_takeName 2 = .ok (.iconst 0, 1) := by decide +kernel
theorem dX13_takeName_3 : decode cX13_takeName 3 = .ok (.istore_n 3, 1) := by decide +kernel
theorem dX13_takeName_4 : decode cX13_takeName 4 = .ok (.aload_n 0, 1) := by decide +kernel
theorem dX13_takeName_5 : decode cX13_takeName 5 = .ok (.invokevirtual 195, 3) := by decide +kernel
theorem dX13_takeName_8 : decode cX13_takeName 8 = .ok (.invokestatic 199, 3) := by decide +kernel
theorem dX13_takeName_11 : decode cX13_takeName 11 = .ok (.ifCond .eq 44, 3) := by decide +kernel
theorem dX13_takeName_14 : decode cX13_takeName 14 = .ok (.iload_n 3, 1) := by decide +kernel
theorem dX13_takeName_15 : decode cX13_takeName 15 = .ok (.bipush 10, 2) := by decide +kernel
theorem dX13_takeName_17 : decode cX13_takeName 17 = .ok (.if_icmp .ge 20, 3) := by decide +kernel
theorem dX13_takeName_20 : decode cX13_takeName 20 = .ok (.ldc2_w 202, 3) := by decide +kernel
theorem dX13_takeName_23 : decode cX13_takeName 23 = .ok (.lload_n 1, 1) := by decide +kernel
theorem dX13_takeName_24 : decode cX13_takeName 24 = .ok (.lmul, 1) := by decide +kernel
theorem dX13_takeName_25 : decode cX13_takeName 25 = .ok (.aload_n 0, 1) := by decide +kernel
theorem dX13_takeName_26 : decode cX13_takeName 26 = .ok (.invokevirtual 195, 3) := by decide +kernel
theorem dX13_takeName_29 : decode cX13_takeName 29 = .ok (.invokestatic 204, 3) := by decide +kernel
theorem dX13_takeName_32 : decode cX13_takeName 32 = .ok (.i2l, 1) := by decide +kernel
theorem dX13_takeName_33 : decode cX13_takeName 33 = .ok (.ladd, 1) := by decide +kernel
theorem dX13_takeName_34 : decode cX13_takeName 34 = .ok (.goto 4, 3) := by decide +kernel
theorem dX13_takeName_37 : decode cX13_takeName 37 = .ok (.lload_n 1, 1) := by decide +kernel
theorem dX13_takeName_38 : decode cX13_takeName 38 = .ok (.lstore_n 1, 1) := by decide +kernel
theorem dX13_takeName_39 : decode cX13_takeName 39 = .ok (.iinc 3 1, 3) := by decide +kernel
theorem dX13_takeName_42 : decode cX13_takeName 42 = .ok (.aload_n 0, 1) := by decide +kernel
theorem dX13_takeName_43 : decode cX13_takeName 43 = .ok (.dup, 1) := by decide +kernel
theorem dX13_takeName_44 : decode cX13_takeName 44 = .ok (.getfield 189, 3) := by decide +kernel
theorem dX13_takeName_47 : decode cX13_takeName 47 = .ok (.iconst 1, 1) := by decide +kernel
theorem dX13_takeName_48 : decode cX13_takeName 48 = .ok (.iadd, 1) := by decide +kernel
theorem dX13_takeName_49 : decode cX13_takeName 49 = .ok (.putfield 189, 3) := by decide +kernel
theorem dX13_takeName_52 : decode cX13_takeName 52 = .ok (.goto (-48), 3) := by decide +kernel
theorem dX13_takeName_55 : decode cX13_takeName 55 = .ok (.aload_n 0, 1) := by decide +kernel
theorem dX13_takeName_56 : decode cX13_takeName 56 = .ok (.aload_n 0, 1) := by decide +kernel
theorem dX13_takeName_57 : decode cX13_takeName 57 = .ok (.getfield 207, 3) := by decide +kernel
theorem dX13_takeName_60 : decode cX13_takeName 60 = .ok (.ifCond .ne 13, 3) := by decide +kernel
theorem dX13_takeName_63 : decode cX13_takeName 63 = .ok (.iload_n 3, 1) := by decide +kernel
theorem dX13_takeName_64 : decode cX13_takeName 64 = .ok (.bipush 10, 2) := by decide +kernel
theorem dX13_takeName_66 : decode cX13_takeName 66 = .ok (.if_icmp .gt 7, 3) := by decide +kernel
theorem dX13_takeName_69 : decode cX13_takeName 69 = .ok (.iload_n 3, 1) := by decide +kernel
theorem dX13_takeName_70 : decode cX13_takeName 70 = .ok (.ifCond .ne 7, 3) := by decide +kernel
theorem dX13_takeName_73 : decode cX13_takeName 73 = .ok (.iconst 1, 1) := by decide +kernel
theorem dX13_takeName_74 : decode cX13_takeName 74 = .ok (.goto 4, 3) := by decide +kernel
theorem dX13_takeName_77 : decode cX13_takeName 77 = .ok (.iconst 0, 1) := by decide +kernel
theorem dX13_takeName_78 : decode cX13_takeName 78 = .ok (.putfield 207, 3) := by decide +kernel
theorem dX13_takeName_81 : decode cX13_takeName 81 = .ok (.lload_n 1, 1) := by decide +kernel
theorem dX13_takeName_82 : decode cX13_takeName 82 = .ok (.lreturn, 1) := by decide +kernel
theorem dX13_findMacro_0 : decode cX13_findMacro 0 = .ok (.iconst 0, 1) := by decide +kernel
theorem dX13_findMacro_1 : decode cX13_findMacro 1 = .ok (.istore_n 3, 1) := by decide +kernel
theorem dX13_findMacro_2 : decode cX13_findMacro 2 = .ok (.iload_n 3, 1) := by decide +kernel
theorem dX13_findMacro_3 : decode cX13_findMacro 3 = .ok (.aload_n 0, 1) := by decide +kernel
theorem dX13_findMacro_4 : decode cX13_findMacro 4 = .ok (.getfield 214, 3) := by decide +kernel
theorem dX13_findMacro_7 : decode cX13_findMacro 7 = .ok (.if_icmp .ge 22, 3) := by decide +kernel
theorem dX13_findMacro_10 : decode cX13_findMacro 10 = .ok (.aload_n 0, 1) := by decide +kernel
theorem dX13_findMacro_11 : decode cX13_findMacro 11 = .ok (.getfield 52, 3) := by decide +kernel
theorem dX13_findMacro_14 : decode cX13_findMacro 14 = .ok (.iload_n 3, 1) := by decide +kernel
theorem dX13_findMacro_15 : decode cX13_findMacro 15 = .ok (.laload, 1) := by decide +kernel
theorem dX13_findMacro_16 : decode cX13_findMacro 16 = .ok (.lload_n 1, 1) := by decide +kernel
theorem dX13_findMacro_17 : decode cX13_findMacro 17 = .ok (.lcmp, 1) := by decide +kernel
theorem dX13_findMacro_18 : decode cX13_findMacro 18 = .ok (.ifCond .ne 5, 3) := by decide +kernel
theorem dX13_findMacro_21 : decode cX13_findMacro 21 = .ok (.iload_n 3, 1) := by decide +kernel
theorem dX13_findMacro_22 : decode cX13_findMacro 22 = .ok (.ireturn, 1) := by decide +kernel
theorem dX13_findMacro_23 : decode cX13_findMacro 23 = .ok (.iinc 3 1, 3) := by decide +kernel
theorem dX13_findMacro_26 : decode cX13_findMacro 26 = .ok (.goto (-24), 3) := by decide +kernel
theorem dX13_findMacro_29 : decode cX13_findMacro 29 = .ok (.iconst (-1), 1) := by decide +kernel
theorem dX13_findMacro_30 : decode cX13_findMacro 30 = .ok (.ireturn, 1) := by decide +kernel
theorem dX13_findLabel_0 : decode cX13_findLabel 0 = .ok (.iconst 0, 1) := by decide +kernel
theorem dX13_findLabel_1 : decode cX13_findLabel 1 = .ok (.istore_n 3, 1) := by decide +kernel
theorem dX13_findLabel_2 : decode cX13_findLabel 2 = .ok (.iload_n 3, 1) := by decide +kernel
theorem dX13_findLabel_3 : decode cX13_findLabel 3 = .ok (.aload_n 0, 1) := by decide +kernel
theorem dX13_findLabel_4 : decode cX13_findLabel 4 = .ok (.getfield 217, 3) := by decide +kernel
theorem dX13_findLabel_7 : decode cX13_findLabel 7 = .ok (.if_icmp .ge 22, 3) := by decide +kernel
theorem dX13_findLabel_10 : decode cX13_findLabel 10 = .ok (.aload_n 0, 1) := by decide +kernel
theorem dX13_findLabel_11 : decode cX13_findLabel 11 = .ok (.getfield 106, 3) := by decide +kernel
theorem dX13_findLabel_14 : decode cX13_findLabel 14 = .ok (.iload_n 3, 1) := by decide +kernel
theorem dX13_findLabel_15 : decode cX13_findLabel 15 = .ok (.laload, 1) := by decide +kernel
theorem dX13_findLabel_16 : decode cX13_findLabel 16 = .ok (.lload_n 1, 1) := by decide +kernel
theorem dX13_findLabel_17 : decode cX13_findLabel 17 = .ok (.lcmp, 1) := by decide +kernel
theorem dX13_findLabel_18 : decode cX13_findLabel 18 = .ok (.ifCond .ne 5, 3) := by decide +kernel
theorem dX13_findLabel_21 : decode cX13_findLabel 21 = .ok (.iload_n 3, 1) := by decide +kernel
theorem dX13_findLabel_22 : decode cX13_findLabel 22 = .ok (.ireturn, 1) := by decide +kernel
theorem dX13_findLabel_23 : decode cX13_findLabel 23 = .ok (.iinc 3 1, 3) := by decide +kernel
theorem dX13_findLabel_26 : decode cX13_findLabel 26 = .ok (.goto (-24), 3) := by decide +kernel
theorem dX13_findLabel_29 : decode cX13_findLabel 29 = .ok (.iconst (-1), 1) := by decide +kernel
theorem dX13_findLabel_30 : decode cX13_findLabel 30 = .ok (.ireturn, 1) := by decide +kernel
theorem dX13_wants_0 : decode cX13_wants 0 = .ok (.aload_n 0, 1) := by decide +kernel
theorem dX13_wants_1 : decode cX13_wants 1 = .ok (.invokevirtual 232, 3) := by decide +kernel
theorem dX13_wants_4 : decode cX13_wants 4 = .ok (.aload_n 0, 1) := by decide +kernel
theorem dX13_wants_5 : decode cX13_wants 5 = .ok (.invokevirtual 195, 3) := by decide +kernel
theorem dX13_wants_8 : decode cX13_wants 8 = .ok (.iload_n 1, 1) := by decide +kernel
theorem dX13_wants_9 : decode cX13_wants 9 = .ok (.if_icmp .ne 16, 3) := by decide +kernel
theorem dX13_wants_12 : decode cX13_wants 12 = .ok (.aload_n 0, 1) := by decide +kernel
theorem dX13_wants_13 : decode cX13_wants 13 = .ok (.dup, 1) := by decide +kernel
theorem dX13_wants_14 : decode cX13_wants 14 = .ok (.getfield 189, 3) := by decide +kernel
theorem dX13_wants_17 : decode cX13_wants 17 = .ok (.iconst 1, 1) := by decide +kernel
theorem dX13_wants_18 : decode cX13_wants 18 = .ok (.iadd, 1) := by decide +kernel
theorem dX13_wants_19 : decode cX13_wants 19 = .ok (.putfield 189, 3) := by decide +kernel
theorem dX13_wants_22 : decode cX13_wants 22 = .ok (.goto 8, 3) := by decide +kernel
theorem dX13_wants_25 : decode cX13_wants 25 = .ok (.aload_n 0, 1) := by decide +kernel
theorem dX13_wants_26 : decode cX13_wants 26 = .ok (.iconst 1, 1) := by decide +kernel
theorem dX13_wants_27 : decode cX13_wants 27 = .ok (.putfield 207, 3) := by decide +kernel
theorem dX13_wants_30 : decode cX13_wants 30 = .ok (.aload_n 0, 1) := by decide +kernel
theorem dX13_wants_31 : decode cX13_wants 31 = .ok (.invokevirtual 232, 3) := by decide +kernel
theorem dX13_wants_34 : decode cX13_wants 34 = .ok (.return_, 1) := by decide +kernel
theorem dX13_isHex_0 : decode cX13_isHex 0 = .ok (.iload_n 1, 1) := by decide +kernel
theorem dX13_isHex_1 : decode cX13_isHex 1 = .ok (.invokestatic 186, 3) := by decide +kernel
theorem dX13_isHex_4 : decode cX13_isHex 4 = .ok (.ifCond .ne 14, 3) := by decide +kernel
theorem dX13_isHex_7 : decode cX13_isHex 7 = .ok (.iload_n 1, 1) := by decide +kernel
theorem dX13_isHex_8 : decode cX13_isHex 8 = .ok (.bipush 97, 2) := by decide +kernel
theorem dX13_isHex_10 : decode cX13_isHex 10 = .ok (.bipush 102, 2) := by decide +kernel
theorem dX13_isHex_12 : decode cX13_isHex 12 = .ok (.invokestatic 168, 3) := by decide +kernel
theorem dX13_isHex_15 : decode cX13_isHex 15 = .ok (.ifCond .eq 7, 3) := by decide +kernel
theorem dX13_isHex_18 : decode cX13_isHex 18 = .ok (.iconst 1, 1) := by decide +kernel
theorem dX13_isHex_19 : decode cX13_isHex 19 = .ok (.goto 4, 3) := by decide +kernel
theorem dX13_isHex_22 : decode cX13_isHex 22 = .ok (.iconst 0, 1) := by decide +kernel
theorem dX13_isHex_23 : decode cX13_isHex 23 = .ok (.ireturn, 1) := by decide +kernel
theorem dX13_isSign_0 : decode cX13_isSign 0 = .ok (.aload_n 0, 1) := by decide +kernel
theorem dX13_isSign_1 : decode cX13_isSign 1 = .ok (.invokevirtual 195, 3) := by decide +kernel
theorem dX13_isSign_4 : decode cX13_isSign 4 = .ok (.bipush 43, 2) := by decide +kernel
theorem dX13_isSign_6 : decode cX13_isSign 6 = .ok (.if_icmp .eq 12, 3) := by decide +kernel
theorem dX13_isSign_9 : decode cX13_isSign 9 = .ok (.aload_n 0, 1) := by decide +kernel
theorem dX13_isSign_10 : decode cX13_isSign 10 = .ok (.invokevirtual 195, 3) := by decide +kernel
theorem dX13_isSign_13 : decode cX13_isSign 13 = .ok (.bipush 45, 2) := by decide +kernel
theorem dX13_isSign_15 : decode cX13_isSign 15 = .ok (.if_icmp .ne 7, 3) := by decide +kernel
theorem dX13_isSign_18 : decode cX13_isSign 18 = .ok (.iconst 1, 1) := by decide +kernel
theorem dX13_isSign_19 : decode cX13_isSign 19 = .ok (.goto 4, 3) := by decide +kernel
theorem dX13_isSign_22 : decode cX13_isSign 22 = .ok (.iconst 0, 1) := by decide +kernel
theorem dX13_isSign_23 : decode cX13_isSign 23 = .ok (.ireturn, 1) := by decide +kernel

