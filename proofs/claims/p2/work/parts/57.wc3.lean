set_option maxRecDepth 20000 in
theorem w_1_110 : (Jvm.Cond.fieldLink "AssembleLines$Expressions" (29 : Nat) "AssembleLines$Expressions" "held" "I") ∈ b_Ws := bw_1 (List.mem_of_getElem? (i := 110) rfl) rfl
set_option maxRecDepth 20000 in
theorem w_1_112 : (Jvm.Cond.fieldLink "AssembleLines$Expressions" (33 : Nat) "AssembleLines$Expressions" "heldTerms" "I") ∈ b_Ws := bw_1 (List.mem_of_getElem? (i := 112) rfl) rfl
set_option maxRecDepth 20000 in
theorem w_1_144 : (Jvm.Cond.fieldLink "AssembleLines$Statement" (20 : Nat) "AssembleLines$Statement" "line" "I") ∈ b_Ws := bw_1 (List.mem_of_getElem? (i := 144) rfl) rfl
set_option maxRecDepth 20000 in
theorem w_1_146 : (Jvm.Cond.fieldLink "AssembleLines$Statement" (24 : Nat) "AssembleLines$Statement" "label" "I") ∈ b_Ws := bw_1 (List.mem_of_getElem? (i := 146) rfl) rfl
set_option maxRecDepth 20000 in
theorem w_1_149 : (Jvm.Cond.fieldLink "AssembleLines$Statement" (27 : Nat) "AssembleLines$Statement" "register" "I") ∈ b_Ws := bw_1 (List.mem_of_getElem? (i := 149) rfl) rfl
set_option maxRecDepth 20000 in
theorem w_1_152 : (Jvm.Cond.fieldLink "AssembleLines$Statement" (30 : Nat) "AssembleLines$Statement" "second" "I") ∈ b_Ws := bw_1 (List.mem_of_getElem? (i := 152) rfl) rfl
set_option maxRecDepth 20000 in
theorem w_1_155 : (Jvm.Cond.fieldLink "AssembleLines$Statement" (33 : Nat) "AssembleLines$Statement" "firstValue" "I") ∈ b_Ws := bw_1 (List.mem_of_getElem? (i := 155) rfl) rfl
set_option maxRecDepth 20000 in
theorem w_1_157 : (Jvm.Cond.fieldLink "AssembleLines$Statement" (36 : Nat) "AssembleLines$Statement" "values" "I") ∈ b_Ws := bw_1 (List.mem_of_getElem? (i := 157) rfl) rfl
set_option maxRecDepth 20000 in
theorem w_1_160 : (Jvm.Cond.fieldLink "AssembleLines$Statement" (39 : Nat) "AssembleLines$Statement" "size" "I") ∈ b_Ws := bw_1 (List.mem_of_getElem? (i := 160) rfl) rfl
set_option maxRecDepth 20000 in
theorem w_1_163 : (Jvm.Cond.fieldLink "AssembleLines$Statement" (42 : Nat) "AssembleLines$Statement" "place" "I") ∈ b_Ws := bw_1 (List.mem_of_getElem? (i := 163) rfl) rfl
set_option maxRecDepth 20000 in
theorem w_1_165 : (Jvm.Cond.fieldLink "AssembleLines$Statement" (45 : Nat) "AssembleLines$Statement" "literalPlace" "I") ∈ b_Ws := bw_1 (List.mem_of_getElem? (i := 165) rfl) rfl
set_option maxRecDepth 20000 in
theorem w_1_167 : (Jvm.Cond.fieldLink "AssembleLines$Statement" (48 : Nat) "AssembleLines$Statement" "isLong" "Z") ∈ b_Ws := bw_1 (List.mem_of_getElem? (i := 167) rfl) rfl
set_option maxRecDepth 20000 in
theorem w_4_113 : (Jvm.Cond.methodLink "AssembleLines$Expressions" (68 : Nat) ({ cls := "AssembleLines$Names", name := "find", desc := "(J)I" } : Jvm.MethodName)) ∈ b_Ws := bw_4 (List.mem_of_getElem? (i := 113) rfl) rfl
set_option maxRecDepth 20000 in
theorem w_4_114 : (Jvm.Cond.instanceMethod ({ cls := "AssembleLines$Names", name := "find", desc := "(J)I" } : Jvm.MethodName)) ∈ b_Ws := bw_4 (List.mem_of_getElem? (i := 114) rfl) rfl
set_option maxRecDepth 20000 in
theorem w_4_115 : (Jvm.Cond.selects "AssembleLines$Names" ({ cls := "AssembleLines$Names", name := "find", desc := "(J)I" } : Jvm.MethodName) ({ cls := "AssembleLines$Names", name := "find", desc := "(J)I" } : Jvm.MethodName)) ∈ b_Ws := bw_4 (List.mem_of_getElem? (i := 115) rfl) rfl
set_option maxRecDepth 20000 in
theorem w_4_116 : (Jvm.Cond.code ({ cls := "AssembleLines$Names", name := "find", desc := "(J)I" } : Jvm.MethodName) prog_8_method_3_code (5 : Nat) (Option.some Jvm.ClassFile.FieldType.int)) ∈ b_Ws := bw_4 (List.mem_of_getElem? (i := 116) rfl) rfl
set_option maxRecDepth 20000 in
theorem w_4_122 : (Jvm.Cond.methodLink "AssembleLines$Expressions" (78 : Nat) ({ cls := "AssembleLines$Names", name := "value", desc := "(I)I" } : Jvm.MethodName)) ∈ b_Ws := bw_4 (List.mem_of_getElem? (i := 122) rfl) rfl
set_option maxRecDepth 20000 in
theorem w_5_43 : (Jvm.Cond.methodLink "AssembleLines$Expressions" (89 : Nat) ({ cls := "java/lang/Math", name := "abs", desc := "(J)J" } : Jvm.MethodName)) ∈ b_Ws := bw_5 (List.mem_of_getElem? (i := 43) rfl) rfl
set_option maxRecDepth 20000 in
theorem w_5_44 : (Jvm.Cond.static ({ cls := "java/lang/Math", name := "abs", desc := "(J)J" } : Jvm.MethodName)) ∈ b_Ws := bw_5 (List.mem_of_getElem? (i := 44) rfl) rfl
set_option maxRecDepth 20000 in
theorem w_5_45 : (Jvm.Cond.code ({ cls := "java/lang/Math", name := "abs", desc := "(J)J" } : Jvm.MethodName) prog_22_method_61_code (2 : Nat) (Option.some Jvm.ClassFile.FieldType.long)) ∈ b_Ws := bw_5 (List.mem_of_getElem? (i := 45) rfl) rfl
set_option maxRecDepth 20000 in
theorem w_5_79 : (Jvm.Cond.methodLink "AssembleLines$Expressions" (95 : Nat) ({ cls := "AssembleLines$Expressions", name := "firstTerm", desc := "(I)I" } : Jvm.MethodName)) ∈ b_Ws := bw_5 (List.mem_of_getElem? (i := 79) rfl) rfl
set_option maxRecDepth 20000 in
theorem w_5_81 : (Jvm.Cond.instanceMethod ({ cls := "AssembleLines$Expressions", name := "firstTerm", desc := "(I)I" } : Jvm.MethodName)) ∈ b_Ws := bw_5 (List.mem_of_getElem? (i := 81) rfl) rfl
set_option maxRecDepth 20000 in
theorem w_5_82 : (Jvm.Cond.code ({ cls := "AssembleLines$Expressions", name := "firstTerm", desc := "(I)I" } : Jvm.MethodName) prog_5_method_10_code (2 : Nat) (Option.some Jvm.ClassFile.FieldType.int)) ∈ b_Ws := bw_5 (List.mem_of_getElem? (i := 82) rfl) rfl
set_option maxRecDepth 20000 in
theorem w_5_83 : (Jvm.Cond.methodLink "AssembleLines$Expressions" (98 : Nat) ({ cls := "AssembleLines$Expressions", name := "lastTerm", desc := "(I)I" } : Jvm.MethodName)) ∈ b_Ws := bw_5 (List.mem_of_getElem? (i := 83) rfl) rfl
set_option maxRecDepth 20000 in
theorem w_5_85 : (Jvm.Cond.instanceMethod ({ cls := "AssembleLines$Expressions", name := "lastTerm", desc := "(I)I" } : Jvm.MethodName)) ∈ b_Ws := bw_5 (List.mem_of_getElem? (i := 85) rfl) rfl
set_option maxRecDepth 20000 in
theorem w_5_86 : (Jvm.Cond.code ({ cls := "AssembleLines$Expressions", name := "lastTerm", desc := "(I)I" } : Jvm.MethodName) prog_5_method_11_code (2 : Nat) (Option.some Jvm.ClassFile.FieldType.int)) ∈ b_Ws := bw_5 (List.mem_of_getElem? (i := 86) rfl) rfl
set_option maxRecDepth 20000 in
theorem w_5_154 : (Jvm.Cond.fieldLink "AssembleLines$Statement" (52 : Nat) "AssembleLines$Operation" "POOL" "LAssembleLines$Operation;") ∈ b_Ws := bw_5 (List.mem_of_getElem? (i := 154) rfl) rfl
theorem dX10_clear_0 : decode cX10_clear 0 = .ok (.aload_n 0, 1) := by decide +kernel
theorem dX10_clear_1 : decode cX10_clear 1 = .ok (.getstatic 9, 3) := by decide +kernel
theorem dX10_clear_4 : decode cX10_clear 4 = .ok (.putfield 15, 3) := by decide +kernel
theorem dX10_clear_7 : decode cX10_clear 7 = .ok (.aload_n 0, 1) := by decide +kernel
theorem dX10_clear_8 : decode cX10_clear 8 = .ok (.iload_n 1, 1) := by decide +kernel
theorem dX10_clear_9 : decode cX10_clear 9 = .ok (.putfield 20, 3) := by decide +kernel
theorem dX10_clear_12 : decode cX10_clear 12 = .ok (.aload_n 0, 1) := by decide +kernel
theorem dX10_clear_13 : decode cX10_clear 13 = .ok (.iconst (-1), 1) := by decide +kernel
theorem dX10_clear_14 : decode cX10_clear 14 = .ok (.putfield 24, 3) := by decide +kernel
theorem dX10_clear_17 : decode cX10_clear 17 = .ok (.aload_n 0, 1) := by decide +kernel
theorem dX10_clear_18 : decode cX10_clear 18 = .ok (.iconst 0, 1) := by decide +kernel
theorem dX10_clear_19 : decode cX10_clear 19 = .ok (.putfield 27, 3) := by decide +kernel
theorem dX10_clear_22 : decode cX10_clear 22 = .ok (.aload_n 0, 1) := by decide +kernel
theorem dX10_clear_23 : decode cX10_clear 23 = .ok (.iconst 0, 1) := by decide +kernel
theorem dX10_clear_24 : decode cX10_clear 24 = .ok (.putfield 30, 3) := by decide +kernel
theorem dX10_clear_27 : decode cX10_clear 27 = .ok (.aload_n 0, 1) := by decide +kernel
theorem dX10_clear_28 : decode cX10_clear 28 = .ok (.iload_n 2, 1) := by decide +kernel
theorem dX10_clear_29 : decode cX10_clear 29 = .ok (.putfield 33, 3) := by decide +kernel
theorem dX10_clear_32 : decode cX10_clear 32 = .ok (.aload_n 0, 1) := by decide +kernel
theorem dX10_clear_33 : decode cX10_clear 33 = .ok (.iconst 0, 1) := by decide +kernel
theorem dX10_clear_34 : decode cX10_clear 34 = .ok (.putfield 36, 3) := by decide +kernel
theorem dX10_clear_37 : decode cX10_clear 37 = .ok (.aload_n 0, 1) := by decide +kernel
theorem dX10_clear_38 : decode cX10_clear 38 = .ok (.iconst 0, 1) := by decide +kernel
theorem dX10_clear_39 : decode cX10_clear 39 = .ok (.putfield 39, 3) := by decide +kernel
theorem dX10_clear_42 : decode cX10_clear 42 = .ok (.aload_n 0, 1) := by decide +kernel
theorem dX10_clear_43 : decode cX10_clear 43 = .ok (.iconst 0, 1) := by decide +kernel
theorem dX10_clear_44 : decode cX10_clear 44 = .ok (.putfield 42, 3) := by decide +kernel
theorem dX10_clear_47 : decode cX10_clear 47 = .ok (.aload_n 0, 1) := by decide +kernel
theorem dX10_clear_48 : decode cX10_clear 48 = .ok (.iconst (-1), 1) := by decide +kernel
theorem dX10_clear_49 : decode cX10_clear 49 = .ok (.putfield 45, 3) := by decide +kernel
theorem dX10_clear_52 : decode cX10_clear 52 = .ok (.aload_n 0, 1) := by decide +kernel
theorem dX10_clear_53 : decode cX10_clear 53 = .ok (.iconst 0, 1) := by decide +kernel
theorem dX10_clear_54 : decode cX10_clear 54 = .ok (.putfield 48, 3) := by decide +kernel
theorem dX10_clear_57 : decode cX10_clear 57 = .ok (.return_, 1) := by decide +kernel
theorem dX10_holds_0 : decode cX10_holds 0 = .ok (.aload_n 0, 1) := by decide +kernel
theorem dX10_holds_1 : decode cX10_holds 1 = .ok (.getfield 15, 3) := by decide +kernel
theorem dX10_holds_4 : decode cX10_holds 4 = .ok (.getstatic 52, 3) := by decide +kernel
theorem dX10_holds_7 : decode cX10_holds 7 = .ok (.if_acmp .eq 28, 3) := by decide +kernel
theorem dX10_holds_10 : decode cX10_holds 10 = .ok (.iload_n 1, 1) := by decide +kernel
theorem dX10_holds_11 : decode cX10_holds 11 = .ok (.aload_n 0, 1) := by decide +kernel
theorem dX10_holds_12 : decode cX10_holds 12 = .ok (.getfield 42, 3) := by decide +kernel
theorem dX10_holds_15 : decode cX10_holds 15 = .ok (.if_icmp .lt 20, 3) := by decide +kernel
theorem dX10_holds_18 : decode cX10_holds 18 = .ok (.iload_n 1, 1) := by decide +kernel
theorem dX10_holds_19 : decode cX10_holds 19 = .ok (.aload_n 0, 1) := by decide +kernel
theorem dX10_holds_20 : decode cX10_holds 20 = .ok (.getfield 42, 3) := by decide +kernel
theorem dX10_holds_23 : decode cX10_holds 23 = .ok (.aload_n 0, 1) := by decide +kernel
theorem dX10_holds_24 : decode cX10_holds 24 = .ok (.getfield 39, 3) := by decide +kernel
theorem dX10_holds_27 : decode cX10_holds 27 = .ok (.iadd, 1) := by decide +kernel
theorem dX10_holds_28 : decode cX10_holds 28 = .ok (.if_icmp .ge 7, 3) := by decide +kernel
theorem dX10_holds_31 : decode cX10_holds 31 = .ok (.iconst 1, 1) := by decide +kernel
theorem dX10_holds_32 : decode cX10_holds 32 = .ok (.goto 4, 3) := by decide +kernel
theorem dX10_holds_35 : decode cX10_holds 35 = .ok (.iconst 0, 1) := by decide +kernel
theorem dX10_holds_36 : decode cX10_holds 36 = .ok (.ireturn, 1) := by decide +kernel
theorem dX10_tell_0 : decode cX10_tell 0 = .ok (.iload_n 1, 1) := by decide +kernel
theorem dX10_tell_1 : decode cX10_tell 1 = .ok (.tableswitch 42 0 2 #[27, 32, 37], 27) := by decide +kernel
theorem dX10_tell_28 : decode cX10_tell 28 = .ok (.aload_n 0, 1) := by decide +kernel
theorem dX10_tell_29 : decode cX10_tell 29 = .ok (.getfield 20, 3) := by decide +kernel
theorem dX10_tell_32 : decode cX10_tell 32 = .ok (.ireturn, 1) := by decide +kernel
theorem dX10_tell_33 : decode cX10_tell 33 = .ok (.aload_n 0, 1) := by decide +kernel
theorem dX10_tell_34 : decode cX10_tell 34 = .ok (.getfield 42, 3) := by decide +kernel
theorem dX10_tell_37 : decode cX10_tell 37 = .ok (.ireturn, 1) := by decide +kernel
theorem dX10_tell_38 : decode cX10_tell 38 = .ok (.aload_n 0, 1) := by decide +kernel
theorem dX10_tell_39 : decode cX10_tell 39 = .ok (.getfield 39, 3) := by decide +kernel
theorem dX10_tell_42 : decode cX10_tell 42 = .ok (.ireturn, 1) := by decide +kernel
theorem dX10_tell_43 : decode cX10_tell 43 = .ok (.aload_n 0, 1) := by decide +kernel
theorem dX10_tell_44 : decode cX10_tell 44 = .ok (.getfield 48, 3) := by decide +kernel
theorem dX10_tell_47 : decode cX10_tell 47 = .ok (.ifCond .eq 7, 3) := by decide +kernel
theorem dX10_tell_50 : decode cX10_tell 50 = .ok (.iconst 1, 1) := by decide +kernel
theorem dX10_tell_51 : decode cX10_tell 51 = .ok (.goto 4, 3) := by decide +kernel
theorem dX10_tell_54 : decode cX10_tell 54 = .ok (.iconst 0, 1) := by decide +kernel
theorem dX10_tell_55 : decode cX10_tell 55 = .ok (.ireturn, 1) := by decide +kernel
theorem dX3_cut_0 : decode cX3_cut 0 = .ok (.iload_n 1, 1) := by decide +kernel
theorem dX3_cut_1 : decode cX3_cut 1 = .ok (.ifCond .lt 26, 3) := by decide +kernel
theorem dX3_cut_4 : decode cX3_cut 4 = .ok (.iload_n 1, 1) := by decide +kernel
theorem dX3_cut_5 : decode cX3_cut 5 = .ok (.aload_n 0, 1) := by decide +kernel
theorem dX3_cut_6 : decode cX3_cut 6 = .ok (.getfield 29, 3) := by decide +kernel
theorem dX3_cut_9 : decode cX3_cut 9 = .ok (.if_icmp .gt 18, 3) := by decide +kernel
theorem dX3_cut_12 : decode cX3_cut 12 = .ok (.aload_n 0, 1) := by decide +kernel
theorem dX3_cut_13 : decode cX3_cut 13 = .ok (.iload_n 1, 1) := by decide +kernel
theorem dX3_cut_14 : decode cX3_cut 14 = .ok (.putfield 29, 3) := by decide +kernel
theorem dX3_cut_17 : decode cX3_cut 17 = .ok (.aload_n 0, 1) := by decide +kernel
theorem dX3_cut_18 : decode cX3_cut 18 = .ok (.aload_n 0, 1) := by decide +kernel
theorem dX3_cut_19 : decode cX3_cut 19 = .ok (.getfield 18, 3) := by decide +kernel
theorem dX3_cut_22 : decode cX3_cut 22 = .ok (.iload_n 1, 1) := by decide +kernel
theorem dX3_cut_23 : decode cX3_cut 23 = .ok (.iaload, 1) := by decide +kernel
theorem dX3_cut_24 : decode cX3_cut 24 = .ok (.putfield 33, 3) := by decide +kernel
theorem dX3_cut_27 : decode cX3_cut 27 = .ok (.return_, 1) := by decide +kernel
theorem dX3_constant_0 : decode cX3_constant 0 = .ok (.iload_n 1, 1) := by decide +kernel
theorem dX3_constant_1 : decode cX3_constant 1 = .ok (.ifCond .lt 20, 3) := by decide +kernel
theorem dX3_constant_4 : decode cX3_constant 4 = .ok (.iload_n 1, 1) := by decide +kernel
theorem dX3_constant_5 : decode cX3_constant 5 = .ok (.aload_n 0, 1) := by decide +kernel
theorem dX3_constant_6 : decode cX3_constant 6 = .ok (.getfield 29, 3) := by decide +kernel
theorem dX3_constant_9 : decode cX3_constant 9 = .ok (.if_icmp .ge 12, 3) := by decide +kernel
theorem dX3_constant_12 : decode cX3_constant 12 = .ok (.aload_n 0, 1) := by decide +kernel
theorem dX3_constant_13 : decode cX3_constant 13 = .ok (.getfield 11, 3) := by decide +kernel
theorem dX3_constant_16 : decode cX3_constant 16 = .ok (.iload_n 1, 1) := by decide +kernel
theorem dX3_constant_17 : decode cX3_constant 17 = .ok (.iaload, 1) := by decide +kernel
theorem dX3_constant_18 : decode cX3_constant 18 = .ok (.goto 4, 3) := by decide +kernel
theorem dX3_constant_21 : decode cX3_constant 21 = .ok (.iconst 0, 1) := by decide +kernel
theorem dX3_constant_22 : decode cX3_constant 22 = .ok (.ireturn, 1) := by decide +kernel
theorem dX3_firstTerm_0 : decode cX3_firstTerm 0 = .ok (.iload_n 1, 1) := by decide +kernel
theorem dX3_firstTerm_1 : decode cX3_firstTerm 1 = .ok (.ifCond .lt 20, 3) := by decide +kernel
theorem dX3_firstTerm_4 : decode cX3_firstTerm 4 = .ok (.iload_n 1, 1) := by decide +kernel
theorem dX3_firstTerm_5 : decode cX3_firstTerm 5 = .ok (.aload_n 0, 1) := by decide +kernel
theorem dX3_firstTerm_6 : decode cX3_firstTerm 6 = .ok (.getfield 29, 3) := by decide +kernel
theorem dX3_firstTerm_9 : decode cX3_firstTerm 9 = .ok (.if_icmp .ge 12, 3) := by decide +kernel
theorem dX3_firstTerm_12 : decode cX3_firstTerm 12 = .ok (.aload_n 0, 1) := by decide +kernel
theorem dX3_firstTerm_13 : decode cX3_firstTerm 13 = .ok (.getfield 18, 3) := by decide +kernel
theorem dX3_firstTerm_16 : decode cX3_firstTerm 16 = .ok (.iload_n 1, 1) := by decide +kernel
theorem dX3_firstTerm_17 : decode cX3_firstTerm 17 = .ok (.iaload, 1) := by decide +kernel
theorem dX3_firstTerm_18 : decode cX3_firstTerm 18 = .ok (.goto 4, 3) := by decide +kernel
theorem dX3_firstTerm_21 : decode cX3_firstTerm 21 = .ok (.iconst 0, 1) := by decide +kernel
theorem dX3_firstTerm_22 : decode cX3_firstTerm 22 = .ok (.ireturn, 1) := by decide +kernel
theorem dX3_lastTerm_0 : decode cX3_lastTerm 0 = .ok (.iload_n 1, 1) := by decide +kernel
theorem dX3_lastTerm_1 : decode cX3_lastTerm 1 = .ok (.ifCond .lt 22, 3) := by decide +kernel
theorem dX3_lastTerm_4 : decode cX3_lastTerm 4 = .ok (.iload_n 1, 1) := by decide +kernel
theorem dX3_lastTerm_5 : decode cX3_lastTerm 5 = .ok (.aload_n 0, 1) := by decide +kernel
theorem dX3_lastTerm_6 : decode cX3_lastTerm 6 = .ok (.getfield 29, 3) := by decide +kernel
theorem dX3_lastTerm_9 : decode cX3_lastTerm 9 = .ok (.if_icmp .ge 14, 3) := by decide +kernel
theorem dX3_lastTerm_12 : decode cX3_lastTerm 12 = .ok (.aload_n 0, 1) := by decide +kernel
theorem dX3_lastTerm_13 : decode cX3_lastTerm 13 = .ok (.getfield 18, 3) := by decide +kernel
theorem dX3_lastTerm_16 : decode cX3_lastTerm 16 = .ok (.iload_n 1, 1) := by decide +kernel
theorem dX3_lastTerm_17 : decode cX3_lastTerm 17 = .ok (.iconst 1, 1) := by decide +kernel
theorem dX3_lastTerm_18 : decode cX3_lastTerm 18 = .ok (.iadd, 1) := by decide +kernel
theorem dX3_lastTerm_19 : decode cX3_lastTerm 19 = .ok (.iaload, 1) := by decide +kernel
theorem dX3_lastTerm_20 : decode cX3_lastTerm 20 = .ok (.goto 4, 3) := by decide +kernel
theorem dX3_lastTerm_23 : decode cX3_lastTerm 23 = .ok (.iconst 0, 1) := by decide +kernel
theorem dX3_lastTerm_24 : decode cX3_lastTerm 24 = .ok (.ireturn, 1) := by decide +kernel
theorem dX3_isKnown_0 : decode cX3_isKnown 0 = .ok (.aload_n 0, 1) := by decide +kernel
theorem dX3_isKnown_1 : decode cX3_isKnown 1 = .ok (.iload_n 1, 1) := by decide +kernel
theorem dX3_isKnown_2 : decode cX3_isKnown 2 = .ok (.invokevirtual 95, 3) := by decide +kernel
theorem dX3_isKnown_5 : decode cX3_isKnown 5 = .ok (.istore_n 2, 1) := by decide +kernel
theorem dX3_isKnown_6 : decode cX3_isKnown 6 = .ok (.iload_n 2, 1) := by decide +kernel
theorem dX3_isKnown_7 : decode cX3_isKnown 7 = .ok (.aload_n 0, 1) := by decide +kernel
theorem dX3_isKnown_8 : decode cX3_isKnown 8 = .ok (.iload_n 1, 1) := by decide +kernel
theorem dX3_isKnown_9 : decode cX3_isKnown 9 = .ok (.invokevirtual 98, 3) := by decide +kernel
theorem dX3_isKnown_12 : decode cX3_isKnown 12 = .ok (.if_icmp .ge 22, 3) := by decide +kernel
theorem dX3_isKnown_15 : decode cX3_isKnown 15 = .ok (.aload_n 0, 1) := by decide +kernel
theorem dX3_isKnown_16 : decode cX3_isKnown 16 = .ok (.getfield 21, 3) := by decide +kernel
theorem dX3_isKnown_19 : decode cX3_isKnown 19 = .ok (.iload_n 2, 1) := by decide +kernel
theorem dX3_isKnown_20 : decode cX3_isKnown 20 = .ok (.laload, 1) := by decide +kernel
theorem dX3_isKnown_21 : decode cX3_isKnown 21 = .ok (.lconst 0, 1) := by decide +kernel
theorem dX3_isKnown_22 : decode cX3_isKnown 22 = .ok (.lcmp, 1) := by decide +kernel
theorem dX3_isKnown_23 : decode cX3_isKnown 23 = .ok (.ifCond .ne 5, 3) := by decide +kernel
theorem dX3_isKnown_26 : decode cX3_isKnown 26 = .ok (.iconst 0, 1) := by decide +kernel
theorem dX3_isKnown_27 : decode cX3_isKnown 27 = .ok (.ireturn, 1) := by decide +kernel
theorem dX3_isKnown_28 : decode cX3_isKnown 28 = .ok (.iinc 2 1, 3) := by decide +kernel
theorem dX3_isKnown_31 : decode cX3_isKnown 31 = .ok (.goto (-25), 3) := by decide +kernel
theorem dX3_isKnown_34 : decode cX3_isKnown 34 = .ok (.iconst 1, 1) := by decide +kernel
theorem dX3_isKnown_35 : decode cX3_isKnown 35 = .ok (.ireturn, 1) := by decide +kernel
theorem dX3_value_0 : decode cX3_value 0 = .ok (.iload_n 1, 1) := by decide +kernel
theorem dX3_value_1 : decode cX3_value 1 = .ok (.ifCond .lt 11, 3) := by decide +kernel
theorem dX3_value_4 : decode cX3_value 4 = .ok (.iload_n 1, 1) := by decide +kernel
theorem dX3_value_5 : decode cX3_value 5 = .ok (.aload_n 0, 1) := by decide +kernel
theorem dX3_value_6 : decode cX3_value 6 = .ok (.getfield 29, 3) := by decide +kernel
theorem dX3_value_9 : decode cX3_value 9 = .ok (.if_icmp .lt 5, 3) := by decide +kernel
theorem dX3_value_12 : decode cX3_value 12 = .ok (.iconst 0, 1) := by decide +kernel
theorem dX3_value_13 : decode cX3_value 13 = .ok (.ireturn, 1) := by decide +kernel
theorem dX3_value_14 : decode cX3_value 14 = .ok (.aload_n 0, 1) := by decide +kernel
theorem dX3_value_15 : decode cX3_value 15 = .ok (.getfield 11, 3) := by decide +kernel
theorem dX3_value_18 : decode cX3_value 18 = .ok (.iload_n 1, 1) := by decide +kernel
theorem dX3_value_19 : decode cX3_value 19 = .ok (.iaload, 1) := by decide +kernel
theorem dX3_value_20 : decode cX3_value 20 = .ok (.aload_n 0, 1) := by decide +kernel
theorem dX3_value_21 : decode cX3_value 21 = .ok (.getfield 15, 3) := by decide +kernel
theorem dX3_value_24 : decode cX3_value 24 = .ok (.iload_n 1, 1) := by decide +kernel
theorem dX3_value_25 : decode cX3_value 25 = .ok (.iaload, 1) := by decide +kernel
theorem dX3_value_26 : decode cX3_value 26 = .ok (.iload_n 2, 1) := by decide +kernel
theorem dX3_value_27 : decode cX3_value 27 = .ok (.imul, 1) := by decide +kernel
theorem dX3_value_28 : decode cX3_value 28 = .ok (.iadd, 1) := by decide +kernel
theorem dX3_value_29 : decode cX3_value 29 = .ok (.istore_n 3, 1) := by decide +kernel
theorem dX3_value_30 : decode cX3_value 30 = .ok (.aload_n 0, 1) := by decide +kernel
theorem dX3_value_31 : decode cX3_value 31 = .ok (.iload_n 1, 1) := by decide +kernel
theorem dX3_value_32 : decode cX3_value 32 = .ok (.invokevirtual 95, 3) := by decide +kernel
theorem dX3_value_35 : decode cX3_value 35 = .ok (.istore 4, 2) := by decide +kernel
theorem dX3_value_37 : decode cX3_value 37 = .ok (.iload 4, 2) := by decide +kernel
theorem dX3_value_39 : decode cX3_value 39 = .ok (.aload_n 0, 1) := by decide +kernel
theorem dX3_value_40 : decode cX3_value 40 = .ok (.iload_n 1, 1) := by decide +kernel
theorem dX3_value_41 : decode cX3_value 41 = .ok (.invokevirtual 98, 3) := by decide +kernel
theorem dX3_value_44 : decode cX3_value 44 = .ok (.if_icmp .ge 61, 3) := by decide +kernel
theorem dX3_value_47 : decode cX3_value 47 = .ok (.aload_n 0, 1) := by decide +kernel
theorem dX3_value_48 : decode cX3_value 48 = .ok (.getfield 21, 3) := by decide +kernel
theorem dX3_value_51 : decode cX3_value 51 = .ok (.iload 4, 2) := by decide +kernel
theorem dX3_value_53 : decode cX3_value 53 = .ok (.laload, 1) := by decide +kernel
theorem dX3_value_54 : decode cX3_value 54 = .ok (.l2i, 1) := by decide +kernel
theorem dX3_value_55 : decode cX3_value 55 = .ok (.istore 5, 2) := by decide +kernel
theorem dX3_value_57 : decode cX3_value 57 = .ok (.iload 5, 2) := by decide +kernel
theorem dX3_value_59 : decode cX3_value 59 = .ok (.ifCond .le 20, 3) := by decide +kernel
theorem dX3_value_62 : decode cX3_value 62 = .ok (.iload_n 3, 1) := by decide +kernel
theorem dX3_value_63 : decode cX3_value 63 = .ok (.aload_n 0, 1) := by decide +kernel
theorem dX3_value_64 : decode cX3_value 64 = .ok (.getfield 25, 3) := by decide +kernel
theorem dX3_value_67 : decode cX3_value 67 = .ok (.iload 5, 2) := by decide +kernel
theorem dX3_value_69 : decode cX3_value 69 = .ok (.iconst 1, 1) := by decide +kernel
theorem dX3_value_70 : decode cX3_value 70 = .ok (.isub, 1) := by decide +kernel
theorem dX3_value_71 : decode cX3_value 71 = .ok (.invokevirtual 78, 3) := by decide +kernel
theorem dX3_value_74 : decode cX3_value 74 = .ok (.iadd, 1) := by decide +kernel
theorem dX3_value_75 : decode cX3_value 75 = .ok (.istore_n 3, 1) := by decide +kernel
theorem dX3_value_76 : decode cX3_value 76 = .ok (.goto 23, 3) := by decide +kernel
theorem dX3_value_79 : decode cX3_value 79 = .ok (.iload 5, 2) := by decide +kernel
theorem dX3_value_81 : decode cX3_value 81 = .ok (.ifCond .ge 18, 3) := by decide +kernel
theorem dX3_value_84 : decode cX3_value 84 = .ok (.iload_n 3, 1) := by decide +kernel
theorem dX3_value_85 : decode cX3_value 85 = .ok (.aload_n 0, 1) := by decide +kernel
theorem dX3_value_86 : decode cX3_value 86 = .ok (.getfield 25, 3) := by decide +kernel
theorem dX3_value_89 : decode cX3_value 89 = .ok (.iload 5, 2) := by decide +kernel
theorem dX3_value_91 : decode cX3_value 91 = .ok (.ineg, 1) := by decide +kernel
theorem dX3_value_92 : decode cX3_value 92 = .ok (.iconst 1, 1) := by decide +kernel
theorem dX3_value_93 : decode cX3_value 93 = .ok (.isub, 1) := by decide +kernel
theorem dX3_value_94 : decode cX3_value 94 = .ok (.invokevirtual 78, 3) := by decide +kernel
theorem dX3_value_97 : decode cX3_value 97 = .ok (.isub, 1) := by decide +kernel
theorem dX3_value_98 : decode cX3_value 98 = .ok (.istore_n 3, 1) := by decide +kernel
theorem dX3_value_99 : decode cX3_value 99 = .ok (.iinc 4 1, 3) := by decide +kernel
theorem dX3_value_102 : decode cX3_value 102 = .ok (.goto (-65), 3) := by decide +kernel
theorem dX3_value_105 : decode cX3_value 105 = .ok (.iload_n 3, 1) := by decide +kernel
theorem dX3_value_106 : decode cX3_value 106 = .ok (.ireturn, 1) := by decide +kernel
theorem dX3_resolve_0 : decode cX3_resolve 0 = .ok (.iconst 0, 1) := by decide +kernel
theorem dX3_resolve_1 : decode cX3_resolve 1 = .ok (.istore_n 1, 1) := by decide +kernel
theorem dX3_resolve_2 : decode cX3_resolve 2 = .ok (.iload_n 1, 1) := by decide +kernel
theorem dX3_resolve_3 : decode cX3_resolve 3 = .ok (.aload_n 0, 1) := by decide +kernel
theorem dX3_resolve_4 : decode cX3_resolve 4 = .ok (.getfield 33, 3) := by decide +kernel
theorem dX3_resolve_7 : decode cX3_resolve 7 = .ok (.if_icmp .ge 60, 3) := by decide +kernel
theorem dX3_resolve_10 : decode cX3_resolve 10 = .ok (.aload_n 0, 1) := by decide +kernel
theorem dX3_resolve_11 : decode cX3_resolve 11 = .ok (.getfield 21, 3) := by decide +kernel
theorem dX3_resolve_14 : decode cX3_resolve 14 = .ok (.iload_n 1, 1) := by decide +kernel
theorem dX3_resolve_15 : decode cX3_resolve 15 = .ok (.laload, 1) := by decide +kernel
theorem dX3_resolve_16 : decode cX3_resolve 16 = .ok (.invokestatic 89, 3) := by decide +kernel
theorem dX3_resolve_19 : decode cX3_resolve 19 = .ok (.lstore_n 2, 1) := by decide +kernel
theorem dX3_resolve_20 : decode cX3_resolve 20 = .ok (.aload_n 0, 1) := by decide +kernel
theorem dX3_resolve_21 : decode cX3_resolve 21 = .ok (.getfield 25, 3) := by decide +kernel
theorem dX3_resolve_24 : decode cX3_resolve 24 = .ok (.lload_n 2, 1) := by decide +kernel
theorem dX3_resolve_25 : decode cX3_resolve 25 = .ok (.invokevirtual 68, 3) := by decide +kernel
theorem dX3_resolve_28 : decode cX3_resolve 28 = .ok (.istore 4, 2) := by decide +kernel
theorem dX3_resolve_30 : decode cX3_resolve 30 = .ok (.aload_n 0, 1) := by decide +kernel
theorem dX3_resolve_31 : decode cX3_resolve 31 = .ok (.getfield 21, 3) := by decide +kernel
theorem dX3_resolve_34 : decode cX3_resolve 34 = .ok (.iload_n 1, 1) := by decide +kernel
theorem dX3_resolve_35 : decode cX3_resolve 35 = .ok (.aload_n 0, 1) := by decide +kernel
theorem dX3_resolve_36 : decode cX3_resolve 36 = .ok (.getfield 21, 3) := by decide +kernel
theorem dX3_resolve_39 : decode cX3_resolve 39 = .ok (.iload_n 1, 1) := by decide +kernel
theorem dX3_resolve_40 : decode cX3_resolve 40 = .ok (.laload, 1) := by decide +kernel
theorem dX3_resolve_41 : decode cX3_resolve 41 = .ok (.lconst 0, 1) := by decide +kernel
theorem dX3_resolve_42 : decode cX3_resolve 42 = .ok (.lcmp, 1) := by decide +kernel
theorem dX3_resolve_43 : decode cX3_resolve 43 = .ok (.ifCond .ge 12, 3) := by decide +kernel
theorem dX3_resolve_46 : decode cX3_resolve 46 = .ok (.iload 4, 2) := by decide +kernel
theorem dX3_resolve_48 : decode cX3_resolve 48 = .ok (.iconst 1, 1) := by decide +kernel
theorem dX3_resolve_49 : decode cX3_resolve 49 = .ok (.iadd, 1) := by decide +kernel
theorem dX3_resolve_50 : decode cX3_resolve 50 = .ok (.ineg, 1) := by decide +kernel
theorem dX3_resolve_51 : decode cX3_resolve 51 = .ok (.i2l, 1) := by decide +kernel
theorem dX3_resolve_52 : decode cX3_resolve 52 = .ok (.goto 8, 3) := by decide +kernel
theorem dX3_resolve_55 : decode cX3_resolve 55 = .ok (.iload 4, 2) := by decide +kernel
theorem dX3_resolve_57 : decode cX3_resolve 57 = .ok (.iconst 1, 1) := by decide +kernel
theorem dX3_resolve_58 : decode cX3_resolve 58 = .ok (.iadd, 1) := by decide +kernel
theorem dX3_resolve_59 : decode cX3_resolve 59 = .ok (.i2l, 1) := by decide +kernel
theorem dX3_resolve_60 : decode cX3_resolve 60 = .ok (.lastore, 1) := by decide +kernel
theorem dX3_resolve_61 : decode cX3_resolve 61 = .ok (.iinc 1 1, 3) := by decide +kernel
theorem dX3_resolve_64 : decode cX3_resolve 64 = .ok (.goto (-62), 3) := by decide +kernel
theorem dX3_resolve_67 : decode cX3_resolve 67 = .ok (.return_, 1) := by decide +kernel

