set_option maxRecDepth 20000 in
theorem w_1_47 : (Jvm.Cond.fieldLink "AssembleLines$Errors" (16 : Nat) "AssembleLines$Errors" "told" "I") ∈ b_Ws := bw_1 (List.mem_of_getElem? (i := 47) rfl) rfl
set_option maxRecDepth 20000 in
theorem w_2_24 : (Jvm.Cond.fieldLink "AssembleLines$Macros" (22 : Nat) "AssembleLines$Macros" "told" "I") ∈ b_Ws := bw_2 (List.mem_of_getElem? (i := 24) rfl) rfl
set_option maxRecDepth 20000 in
theorem w_4_117 : (Jvm.Cond.constantLong "AssembleLines$Names" (41 : Nat) (1021 : Int64)) ∈ b_Ws := bw_4 (List.mem_of_getElem? (i := 117) rfl) rfl
set_option maxRecDepth 20000 in
theorem w_4_123 : (Jvm.Cond.instanceMethod ({ cls := "AssembleLines$Names", name := "value", desc := "(I)I" } : Jvm.MethodName)) ∈ b_Ws := bw_4 (List.mem_of_getElem? (i := 123) rfl) rfl
set_option maxRecDepth 20000 in
theorem w_4_124 : (Jvm.Cond.selects "AssembleLines$Names" ({ cls := "AssembleLines$Names", name := "value", desc := "(I)I" } : Jvm.MethodName) ({ cls := "AssembleLines$Names", name := "value", desc := "(I)I" } : Jvm.MethodName)) ∈ b_Ws := bw_4 (List.mem_of_getElem? (i := 124) rfl) rfl
set_option maxRecDepth 20000 in
theorem w_4_125 : (Jvm.Cond.code ({ cls := "AssembleLines$Names", name := "value", desc := "(I)I" } : Jvm.MethodName) prog_8_method_9_code (2 : Nat) (Option.some Jvm.ClassFile.FieldType.int)) ∈ b_Ws := bw_4 (List.mem_of_getElem? (i := 125) rfl) rfl
set_option maxRecDepth 20000 in
theorem w_4_211 : (Jvm.Cond.methodLink "AssembleLines$Names" (43 : Nat) ({ cls := "AssembleLines$Names", name := "join", desc := "(IJ)V" } : Jvm.MethodName)) ∈ b_Ws := bw_4 (List.mem_of_getElem? (i := 211) rfl) rfl
set_option maxRecDepth 20000 in
theorem w_4_213 : (Jvm.Cond.instanceMethod ({ cls := "AssembleLines$Names", name := "join", desc := "(IJ)V" } : Jvm.MethodName)) ∈ b_Ws := bw_4 (List.mem_of_getElem? (i := 213) rfl) rfl
set_option maxRecDepth 20000 in
theorem w_4_214 : (Jvm.Cond.code ({ cls := "AssembleLines$Names", name := "join", desc := "(IJ)V" } : Jvm.MethodName) prog_8_method_12_code (5 : Nat) (Option.none : Option Jvm.ClassFile.FieldType)) ∈ b_Ws := bw_4 (List.mem_of_getElem? (i := 214) rfl) rfl
set_option maxRecDepth 20000 in
theorem w_4_215 : (Jvm.Cond.methodLink "AssembleLines$Names" (51 : Nat) ({ cls := "java/lang/Math", name := "max", desc := "(JJ)J" } : Jvm.MethodName)) ∈ b_Ws := bw_4 (List.mem_of_getElem? (i := 215) rfl) rfl
set_option maxRecDepth 20000 in
theorem w_4_216 : (Jvm.Cond.static ({ cls := "java/lang/Math", name := "max", desc := "(JJ)J" } : Jvm.MethodName)) ∈ b_Ws := bw_4 (List.mem_of_getElem? (i := 216) rfl) rfl
set_option maxRecDepth 20000 in
theorem w_4_217 : (Jvm.Cond.code ({ cls := "java/lang/Math", name := "max", desc := "(JJ)J" } : Jvm.MethodName) prog_22_method_66_code (4 : Nat) (Option.some Jvm.ClassFile.FieldType.long)) ∈ b_Ws := bw_4 (List.mem_of_getElem? (i := 217) rfl) rfl
set_option maxRecDepth 20000 in
theorem w_5_190 : (Jvm.Cond.methodLink "AssembleLines$Names" (47 : Nat) ({ cls := "AssembleLines$Names", name := "value", desc := "(I)I" } : Jvm.MethodName)) ∈ b_Ws := bw_5 (List.mem_of_getElem? (i := 190) rfl) rfl
theorem dX2_forget_0 : decode cX2_forget 0 = .ok (.aload_n 0, 1) := by decide +kernel
theorem dX2_forget_1 : decode cX2_forget 1 = .ok (.iconst 0, 1) := by decide +kernel
theorem dX2_forget_2 : decode cX2_forget 2 = .ok (.putfield 16, 3) := by decide +kernel
theorem dX2_forget_5 : decode cX2_forget 5 = .ok (.return_, 1) := by decide +kernel
theorem dX2_tell_0 : decode cX2_tell 0 = .ok (.aload_n 0, 1) := by decide +kernel
theorem dX2_tell_1 : decode cX2_tell 1 = .ok (.getfield 16, 3) := by decide +kernel
theorem dX2_tell_4 : decode cX2_tell 4 = .ok (.bipush 50, 2) := by decide +kernel
theorem dX2_tell_6 : decode cX2_tell 6 = .ok (.if_icmp .ge 33, 3) := by decide +kernel
theorem dX2_tell_9 : decode cX2_tell 9 = .ok (.aload_n 0, 1) := by decide +kernel
theorem dX2_tell_10 : decode cX2_tell 10 = .ok (.getfield 9, 3) := by decide +kernel
theorem dX2_tell_13 : decode cX2_tell 13 = .ok (.aload_n 0, 1) := by decide +kernel
theorem dX2_tell_14 : decode cX2_tell 14 = .ok (.getfield 16, 3) := by decide +kernel
theorem dX2_tell_17 : decode cX2_tell 17 = .ok (.iload_n 1, 1) := by decide +kernel
theorem dX2_tell_18 : decode cX2_tell 18 = .ok (.iastore, 1) := by decide +kernel
theorem dX2_tell_19 : decode cX2_tell 19 = .ok (.aload_n 0, 1) := by decide +kernel
theorem dX2_tell_20 : decode cX2_tell 20 = .ok (.getfield 13, 3) := by decide +kernel
theorem dX2_tell_23 : decode cX2_tell 23 = .ok (.aload_n 0, 1) := by decide +kernel
theorem dX2_tell_24 : decode cX2_tell 24 = .ok (.getfield 16, 3) := by decide +kernel
theorem dX2_tell_27 : decode cX2_tell 27 = .ok (.iload_n 2, 1) := by decide +kernel
theorem dX2_tell_28 : decode cX2_tell 28 = .ok (.iastore, 1) := by decide +kernel
theorem dX2_tell_29 : decode cX2_tell 29 = .ok (.aload_n 0, 1) := by decide +kernel
theorem dX2_tell_30 : decode cX2_tell 30 = .ok (.dup, 1) := by decide +kernel
theorem dX2_tell_31 : decode cX2_tell 31 = .ok (.getfield 16, 3) := by decide +kernel
theorem dX2_tell_34 : decode cX2_tell 34 = .ok (.iconst 1, 1) := by decide +kernel
theorem dX2_tell_35 : decode cX2_tell 35 = .ok (.iadd, 1) := by decide +kernel
theorem dX2_tell_36 : decode cX2_tell 36 = .ok (.putfield 16, 3) := by decide +kernel
theorem dX2_tell_39 : decode cX2_tell 39 = .ok (.return_, 1) := by decide +kernel
theorem dX5_forget_0 : decode cX5_forget 0 = .ok (.aload_n 0, 1) := by decide +kernel
theorem dX5_forget_1 : decode cX5_forget 1 = .ok (.iconst 0, 1) := by decide +kernel
theorem dX5_forget_2 : decode cX5_forget 2 = .ok (.putfield 22, 3) := by decide +kernel
theorem dX5_forget_5 : decode cX5_forget 5 = .ok (.return_, 1) := by decide +kernel
theorem dX5_isFull_0 : decode cX5_isFull 0 = .ok (.aload_n 0, 1) := by decide +kernel
theorem dX5_isFull_1 : decode cX5_isFull 1 = .ok (.getfield 22, 3) := by decide +kernel
theorem dX5_isFull_4 : decode cX5_isFull 4 = .ok (.bipush 12, 2) := by decide +kernel
theorem dX5_isFull_6 : decode cX5_isFull 6 = .ok (.if_icmp .lt 7, 3) := by decide +kernel
theorem dX5_isFull_9 : decode cX5_isFull 9 = .ok (.iconst 1, 1) := by decide +kernel
theorem dX5_isFull_10 : decode cX5_isFull 10 = .ok (.goto 4, 3) := by decide +kernel
theorem dX5_isFull_13 : decode cX5_isFull 13 = .ok (.iconst 0, 1) := by decide +kernel
theorem dX5_isFull_14 : decode cX5_isFull 14 = .ok (.ireturn, 1) := by decide +kernel
theorem dX5_find_0 : decode cX5_find 0 = .ok (.iconst 0, 1) := by decide +kernel
theorem dX5_find_1 : decode cX5_find 1 = .ok (.istore_n 3, 1) := by decide +kernel
theorem dX5_find_2 : decode cX5_find 2 = .ok (.iload_n 3, 1) := by decide +kernel
theorem dX5_find_3 : decode cX5_find 3 = .ok (.aload_n 0, 1) := by decide +kernel
theorem dX5_find_4 : decode cX5_find 4 = .ok (.getfield 22, 3) := by decide +kernel
theorem dX5_find_7 : decode cX5_find 7 = .ok (.if_icmp .ge 22, 3) := by decide +kernel
theorem dX5_find_10 : decode cX5_find 10 = .ok (.aload_n 0, 1) := by decide +kernel
theorem dX5_find_11 : decode cX5_find 11 = .ok (.getfield 11, 3) := by decide +kernel
theorem dX5_find_14 : decode cX5_find 14 = .ok (.iload_n 3, 1) := by decide +kernel
theorem dX5_find_15 : decode cX5_find 15 = .ok (.laload, 1) := by decide +kernel
theorem dX5_find_16 : decode cX5_find 16 = .ok (.lload_n 1, 1) := by decide +kernel
theorem dX5_find_17 : decode cX5_find 17 = .ok (.lcmp, 1) := by decide +kernel
theorem dX5_find_18 : decode cX5_find 18 = .ok (.ifCond .ne 5, 3) := by decide +kernel
theorem dX5_find_21 : decode cX5_find 21 = .ok (.iload_n 3, 1) := by decide +kernel
theorem dX5_find_22 : decode cX5_find 22 = .ok (.ireturn, 1) := by decide +kernel
theorem dX5_find_23 : decode cX5_find 23 = .ok (.iinc 3 1, 3) := by decide +kernel
theorem dX5_find_26 : decode cX5_find 26 = .ok (.goto (-24), 3) := by decide +kernel
theorem dX5_find_29 : decode cX5_find 29 = .ok (.iconst (-1), 1) := by decide +kernel
theorem dX5_find_30 : decode cX5_find 30 = .ok (.ireturn, 1) := by decide +kernel
theorem dX5_open_0 : decode cX5_open 0 = .ok (.aload_n 0, 1) := by decide +kernel
theorem dX5_open_1 : decode cX5_open 1 = .ok (.getfield 22, 3) := by decide +kernel
theorem dX5_open_4 : decode cX5_open 4 = .ok (.bipush 12, 2) := by decide +kernel
theorem dX5_open_6 : decode cX5_open 6 = .ok (.if_icmp .ge 43, 3) := by decide +kernel
theorem dX5_open_9 : decode cX5_open 9 = .ok (.aload_n 0, 1) := by decide +kernel
theorem dX5_open_10 : decode cX5_open 10 = .ok (.getfield 11, 3) := by decide +kernel
theorem dX5_open_13 : decode cX5_open 13 = .ok (.aload_n 0, 1) := by decide +kernel
theorem dX5_open_14 : decode cX5_open 14 = .ok (.getfield 22, 3) := by decide +kernel
theorem dX5_open_17 : decode cX5_open 17 = .ok (.lload_n 1, 1) := by decide +kernel
theorem dX5_open_18 : decode cX5_open 18 = .ok (.lastore, 1) := by decide +kernel
theorem dX5_open_19 : decode cX5_open 19 = .ok (.aload_n 0, 1) := by decide +kernel
theorem dX5_open_20 : decode cX5_open 20 = .ok (.getfield 15, 3) := by decide +kernel
theorem dX5_open_23 : decode cX5_open 23 = .ok (.aload_n 0, 1) := by decide +kernel
theorem dX5_open_24 : decode cX5_open 24 = .ok (.getfield 22, 3) := by decide +kernel
theorem dX5_open_27 : decode cX5_open 27 = .ok (.iload_n 3, 1) := by decide +kernel
theorem dX5_open_28 : decode cX5_open 28 = .ok (.iastore, 1) := by decide +kernel
theorem dX5_open_29 : decode cX5_open 29 = .ok (.aload_n 0, 1) := by decide +kernel
theorem dX5_open_30 : decode cX5_open 30 = .ok (.getfield 19, 3) := by decide +kernel
theorem dX5_open_33 : decode cX5_open 33 = .ok (.aload_n 0, 1) := by decide +kernel
theorem dX5_open_34 : decode cX5_open 34 = .ok (.getfield 22, 3) := by decide +kernel
theorem dX5_open_37 : decode cX5_open 37 = .ok (.iload_n 3, 1) := by decide +kernel
theorem dX5_open_38 : decode cX5_open 38 = .ok (.iastore, 1) := by decide +kernel
theorem dX5_open_39 : decode cX5_open 39 = .ok (.aload_n 0, 1) := by decide +kernel
theorem dX5_open_40 : decode cX5_open 40 = .ok (.dup, 1) := by decide +kernel
theorem dX5_open_41 : decode cX5_open 41 = .ok (.getfield 22, 3) := by decide +kernel
theorem dX5_open_44 : decode cX5_open 44 = .ok (.iconst 1, 1) := by decide +kernel
theorem dX5_open_45 : decode cX5_open 45 = .ok (.iadd, 1) := by decide +kernel
theorem dX5_open_46 : decode cX5_open 46 = .ok (.putfield 22, 3) := by decide +kernel
theorem dX5_open_49 : decode cX5_open 49 = .ok (.return_, 1) := by decide +kernel
theorem dX5_close_0 : decode cX5_close 0 = .ok (.aload_n 0, 1) := by decide +kernel
theorem dX5_close_1 : decode cX5_close 1 = .ok (.getfield 22, 3) := by decide +kernel
theorem dX5_close_4 : decode cX5_close 4 = .ok (.ifCond .le 15, 3) := by decide +kernel
theorem dX5_close_7 : decode cX5_close 7 = .ok (.aload_n 0, 1) := by decide +kernel
theorem dX5_close_8 : decode cX5_close 8 = .ok (.getfield 19, 3) := by decide +kernel
theorem dX5_close_11 : decode cX5_close 11 = .ok (.aload_n 0, 1) := by decide +kernel
theorem dX5_close_12 : decode cX5_close 12 = .ok (.getfield 22, 3) := by decide +kernel
theorem dX5_close_15 : decode cX5_close 15 = .ok (.iconst 1, 1) := by decide +kernel
theorem dX5_close_16 : decode cX5_close 16 = .ok (.isub, 1) := by decide +kernel
theorem dX5_close_17 : decode cX5_close 17 = .ok (.iload_n 1, 1) := by decide +kernel
theorem dX5_close_18 : decode cX5_close 18 = .ok (.iastore, 1) := by decide +kernel
theorem dX5_close_19 : decode cX5_close 19 = .ok (.return_, 1) := by decide +kernel
theorem dX5_from_0 : decode cX5_from 0 = .ok (.iload_n 1, 1) := by decide +kernel
theorem dX5_from_1 : decode cX5_from 1 = .ok (.ifCond .lt 20, 3) := by decide +kernel
theorem dX5_from_4 : decode cX5_from 4 = .ok (.iload_n 1, 1) := by decide +kernel
theorem dX5_from_5 : decode cX5_from 5 = .ok (.aload_n 0, 1) := by decide +kernel
theorem dX5_from_6 : decode cX5_from 6 = .ok (.getfield 22, 3) := by decide +kernel
theorem dX5_from_9 : decode cX5_from 9 = .ok (.if_icmp .ge 12, 3) := by decide +kernel
theorem dX5_from_12 : decode cX5_from 12 = .ok (.aload_n 0, 1) := by decide +kernel
theorem dX5_from_13 : decode cX5_from 13 = .ok (.getfield 15, 3) := by decide +kernel
theorem dX5_from_16 : decode cX5_from 16 = .ok (.iload_n 1, 1) := by decide +kernel
theorem dX5_from_17 : decode cX5_from 17 = .ok (.iaload, 1) := by decide +kernel
theorem dX5_from_18 : decode cX5_from 18 = .ok (.goto 4, 3) := by decide +kernel
theorem dX5_from_21 : decode cX5_from 21 = .ok (.iconst 0, 1) := by decide +kernel
theorem dX5_from_22 : decode cX5_from 22 = .ok (.ireturn, 1) := by decide +kernel
theorem dX5_to_0 : decode cX5_to 0 = .ok (.iload_n 1, 1) := by decide +kernel
theorem dX5_to_1 : decode cX5_to 1 = .ok (.ifCond .lt 20, 3) := by decide +kernel
theorem dX5_to_4 : decode cX5_to 4 = .ok (.iload_n 1, 1) := by decide +kernel
theorem dX5_to_5 : decode cX5_to 5 = .ok (.aload_n 0, 1) := by decide +kernel
theorem dX5_to_6 : decode cX5_to 6 = .ok (.getfield 22, 3) := by decide +kernel
theorem dX5_to_9 : decode cX5_to 9 = .ok (.if_icmp .ge 12, 3) := by decide +kernel
theorem dX5_to_12 : decode cX5_to 12 = .ok (.aload_n 0, 1) := by decide +kernel
theorem dX5_to_13 : decode cX5_to 13 = .ok (.getfield 19, 3) := by decide +kernel
theorem dX5_to_16 : decode cX5_to 16 = .ok (.iload_n 1, 1) := by decide +kernel
theorem dX5_to_17 : decode cX5_to 17 = .ok (.iaload, 1) := by decide +kernel
theorem dX5_to_18 : decode cX5_to 18 = .ok (.goto 4, 3) := by decide +kernel
theorem dX5_to_21 : decode cX5_to 21 = .ok (.iconst 0, 1) := by decide +kernel
theorem dX5_to_22 : decode cX5_to 22 = .ok (.ireturn, 1) := by decide +kernel
theorem dX6_isSet_0 : decode cX6_isSet 0 = .ok (.iload_n 1, 1) := by decide +kernel
theorem dX6_isSet_1 : decode cX6_isSet 1 = .ok (.sipush 400, 3) := by decide +kernel
theorem dX6_isSet_4 : decode cX6_isSet 4 = .ok (.if_icmp .lt 7, 3) := by decide +kernel
theorem dX6_isSet_7 : decode cX6_isSet 7 = .ok (.iconst 1, 1) := by decide +kernel
theorem dX6_isSet_8 : decode cX6_isSet 8 = .ok (.goto 4, 3) := by decide +kernel
theorem dX6_isSet_11 : decode cX6_isSet 11 = .ok (.iconst 0, 1) := by decide +kernel
theorem dX6_isSet_12 : decode cX6_isSet 12 = .ok (.ireturn, 1) := by decide +kernel
theorem dX6_isFull_0 : decode cX6_isFull 0 = .ok (.aload_n 0, 1) := by decide +kernel
theorem dX6_isFull_1 : decode cX6_isFull 1 = .ok (.getfield 38, 3) := by decide +kernel
theorem dX6_isFull_4 : decode cX6_isFull 4 = .ok (.sipush 400, 3) := by decide +kernel
theorem dX6_isFull_7 : decode cX6_isFull 7 = .ok (.if_icmp .lt 7, 3) := by decide +kernel
theorem dX6_isFull_10 : decode cX6_isFull 10 = .ok (.iconst 1, 1) := by decide +kernel
theorem dX6_isFull_11 : decode cX6_isFull 11 = .ok (.goto 4, 3) := by decide +kernel
theorem dX6_isFull_14 : decode cX6_isFull 14 = .ok (.iconst 0, 1) := by decide +kernel
theorem dX6_isFull_15 : decode cX6_isFull 15 = .ok (.ireturn, 1) := by decide +kernel
theorem dX6_value_0 : decode cX6_value 0 = .ok (.iload_n 1, 1) := by decide +kernel
theorem dX6_value_1 : decode cX6_value 1 = .ok (.ifCond .lt 19, 3) := by decide +kernel
theorem dX6_value_4 : decode cX6_value 4 = .ok (.iload_n 1, 1) := by decide +kernel
theorem dX6_value_5 : decode cX6_value 5 = .ok (.sipush 800, 3) := by decide +kernel
theorem dX6_value_8 : decode cX6_value 8 = .ok (.if_icmp .ge 12, 3) := by decide +kernel
theorem dX6_value_11 : decode cX6_value 11 = .ok (.aload_n 0, 1) := by decide +kernel
theorem dX6_value_12 : decode cX6_value 12 = .ok (.getfield 22, 3) := by decide +kernel
theorem dX6_value_15 : decode cX6_value 15 = .ok (.iload_n 1, 1) := by decide +kernel
theorem dX6_value_16 : decode cX6_value 16 = .ok (.iaload, 1) := by decide +kernel
theorem dX6_value_17 : decode cX6_value 17 = .ok (.goto 4, 3) := by decide +kernel
theorem dX6_value_20 : decode cX6_value 20 = .ok (.iconst 0, 1) := by decide +kernel
theorem dX6_value_21 : decode cX6_value 21 = .ok (.ireturn, 1) := by decide +kernel
theorem dX6_labelValue_0 : decode cX6_labelValue 0 = .ok (.aload_n 0, 1) := by decide +kernel
theorem dX6_labelValue_1 : decode cX6_labelValue 1 = .ok (.iload_n 1, 1) := by decide +kernel
theorem dX6_labelValue_2 : decode cX6_labelValue 2 = .ok (.invokevirtual 47, 3) := by decide +kernel
theorem dX6_labelValue_5 : decode cX6_labelValue 5 = .ok (.ireturn, 1) := by decide +kernel
theorem dX6_setValue_0 : decode cX6_setValue 0 = .ok (.aload_n 0, 1) := by decide +kernel
theorem dX6_setValue_1 : decode cX6_setValue 1 = .ok (.sipush 400, 3) := by decide +kernel
theorem dX6_setValue_4 : decode cX6_setValue 4 = .ok (.iload_n 1, 1) := by decide +kernel
theorem dX6_setValue_5 : decode cX6_setValue 5 = .ok (.iadd, 1) := by decide +kernel
theorem dX6_setValue_6 : decode cX6_setValue 6 = .ok (.invokevirtual 47, 3) := by decide +kernel
theorem dX6_setValue_9 : decode cX6_setValue 9 = .ok (.ireturn, 1) := by decide +kernel
theorem dX6_place_0 : decode cX6_place 0 = .ok (.iload_n 1, 1) := by decide +kernel
theorem dX6_place_1 : decode cX6_place 1 = .ok (.ifCond .lt 18, 3) := by decide +kernel
theorem dX6_place_4 : decode cX6_place 4 = .ok (.iload_n 1, 1) := by decide +kernel
theorem dX6_place_5 : decode cX6_place 5 = .ok (.aload_n 0, 1) := by decide +kernel
theorem dX6_place_6 : decode cX6_place 6 = .ok (.getfield 34, 3) := by decide +kernel
theorem dX6_place_9 : decode cX6_place 9 = .ok (.if_icmp .ge 10, 3) := by decide +kernel
theorem dX6_place_12 : decode cX6_place 12 = .ok (.aload_n 0, 1) := by decide +kernel
theorem dX6_place_13 : decode cX6_place 13 = .ok (.getfield 22, 3) := by decide +kernel
theorem dX6_place_16 : decode cX6_place 16 = .ok (.iload_n 1, 1) := by decide +kernel
theorem dX6_place_17 : decode cX6_place 17 = .ok (.iload_n 2, 1) := by decide +kernel
theorem dX6_place_18 : decode cX6_place 18 = .ok (.iastore, 1) := by decide +kernel
theorem dX6_place_19 : decode cX6_place 19 = .ok (.return_, 1) := by decide +kernel
theorem dX6_find_0 : decode cX6_find 0 = .ok (.lload_n 1, 1) := by decide +kernel
theorem dX6_find_1 : decode cX6_find 1 = .ok (.lconst 0, 1) := by decide +kernel
theorem dX6_find_2 : decode cX6_find 2 = .ok (.lcmp, 1) := by decide +kernel
theorem dX6_find_3 : decode cX6_find 3 = .ok (.ifCond .le 17, 3) := by decide +kernel
theorem dX6_find_6 : decode cX6_find 6 = .ok (.aload_n 0, 1) := by decide +kernel
theorem dX6_find_7 : decode cX6_find 7 = .ok (.getfield 11, 3) := by decide +kernel
theorem dX6_find_10 : decode cX6_find 10 = .ok (.lload_n 1, 1) := by decide +kernel
theorem dX6_find_11 : decode cX6_find 11 = .ok (.ldc2_w 41, 3) := by decide +kernel
theorem dX6_find_14 : decode cX6_find 14 = .ok (.lrem, 1) := by decide +kernel
theorem dX6_find_15 : decode cX6_find 15 = .ok (.l2i, 1) := by decide +kernel
theorem dX6_find_16 : decode cX6_find 16 = .ok (.iaload, 1) := by decide +kernel
theorem dX6_find_17 : decode cX6_find 17 = .ok (.goto 4, 3) := by decide +kernel
theorem dX6_find_20 : decode cX6_find 20 = .ok (.iconst (-1), 1) := by decide +kernel
theorem dX6_find_21 : decode cX6_find 21 = .ok (.istore_n 3, 1) := by decide +kernel
theorem dX6_find_22 : decode cX6_find 22 = .ok (.iconst 0, 1) := by decide +kernel
theorem dX6_find_23 : decode cX6_find 23 = .ok (.istore 4, 2) := by decide +kernel
theorem dX6_find_25 : decode cX6_find 25 = .ok (.iload_n 3, 1) := by decide +kernel
theorem dX6_find_26 : decode cX6_find 26 = .ok (.ifCond .lt 37, 3) := by decide +kernel
theorem dX6_find_29 : decode cX6_find 29 = .ok (.iload 4, 2) := by decide +kernel
theorem dX6_find_31 : decode cX6_find 31 = .ok (.sipush 800, 3) := by decide +kernel
theorem dX6_find_34 : decode cX6_find 34 = .ok (.if_icmp .ge 29, 3) := by decide +kernel
theorem dX6_find_37 : decode cX6_find 37 = .ok (.aload_n 0, 1) := by decide +kernel
theorem dX6_find_38 : decode cX6_find 38 = .ok (.getfield 18, 3) := by decide +kernel
theorem dX6_find_41 : decode cX6_find 41 = .ok (.iload_n 3, 1) := by decide +kernel
theorem dX6_find_42 : decode cX6_find 42 = .ok (.laload, 1) := by decide +kernel
theorem dX6_find_43 : decode cX6_find 43 = .ok (.lload_n 1, 1) := by decide +kernel
theorem dX6_find_44 : decode cX6_find 44 = .ok (.lcmp, 1) := by decide +kernel
theorem dX6_find_45 : decode cX6_find 45 = .ok (.ifCond .ne 5, 3) := by decide +kernel
theorem dX6_find_48 : decode cX6_find 48 = .ok (.iload_n 3, 1) := by decide +kernel
theorem dX6_find_49 : decode cX6_find 49 = .ok (.ireturn, 1) := by decide +kernel
theorem dX6_find_50 : decode cX6_find 50 = .ok (.aload_n 0, 1) := by decide +kernel
theorem dX6_find_51 : decode cX6_find 51 = .ok (.getfield 15, 3) := by decide +kernel
theorem dX6_find_54 : decode cX6_find 54 = .ok (.iload_n 3, 1) := by decide +kernel
theorem dX6_find_55 : decode cX6_find 55 = .ok (.iaload, 1) := by decide +kernel
theorem dX6_find_56 : decode cX6_find 56 = .ok (.istore_n 3, 1) := by decide +kernel
theorem dX6_find_57 : decode cX6_find 57 = .ok (.iinc 4 1, 3) := by decide +kernel
theorem dX6_find_60 : decode cX6_find 60 = .ok (.goto (-35), 3) := by decide +kernel
theorem dX6_find_63 : decode cX6_find 63 = .ok (.iconst (-1), 1) := by decide +kernel
theorem dX6_find_64 : decode cX6_find 64 = .ok (.ireturn, 1) := by decide +kernel
theorem dX6_join_0 : decode cX6_join 0 = .ok (.lload_n 2, 1) := by decide +kernel
theorem dX6_join_1 : decode cX6_join 1 = .ok (.lconst 0, 1) := by decide +kernel
theorem dX6_join_2 : decode cX6_join 2 = .ok (.invokestatic 51, 3) := by decide +kernel
theorem dX6_join_5 : decode cX6_join 5 = .ok (.ldc2_w 41, 3) := by decide +kernel
theorem dX6_join_8 : decode cX6_join 8 = .ok (.lrem, 1) := by decide +kernel
theorem dX6_join_9 : decode cX6_join 9 = .ok (.l2i, 1) := by decide +kernel
theorem dX6_join_10 : decode cX6_join 10 = .ok (.istore 4, 2) := by decide +kernel
theorem dX6_join_12 : decode cX6_join 12 = .ok (.aload_n 0, 1) := by decide +kernel
theorem dX6_join_13 : decode cX6_join 13 = .ok (.getfield 18, 3) := by decide +kernel
theorem dX6_join_16 : decode cX6_join 16 = .ok (.iload_n 1, 1) := by decide +kernel
theorem dX6_join_17 : decode cX6_join 17 = .ok (.lload_n 2, 1) := by decide +kernel
theorem dX6_join_18 : decode cX6_join 18 = .ok (.lastore, 1) := by decide +kernel
theorem dX6_join_19 : decode cX6_join 19 = .ok (.aload_n 0, 1) := by decide +kernel
theorem dX6_join_20 : decode cX6_join 20 = .ok (.getfield 22, 3) := by decide +kernel
theorem dX6_join_23 : decode cX6_join 23 = .ok (.iload_n 1, 1) := by decide +kernel
theorem dX6_join_24 : decode cX6_join 24 = .ok (.iconst 0, 1) := by decide +kernel
theorem dX6_join_25 : decode cX6_join 25 = .ok (.iastore, 1) := by decide +kernel
theorem dX6_join_26 : decode cX6_join 26 = .ok (.aload_n 0, 1) := by decide +kernel
theorem dX6_join_27 : decode cX6_join 27 = .ok (.getfield 15, 3) := by decide +kernel
theorem dX6_join_30 : decode cX6_join 30 = .ok (.iload_n 1, 1) := by decide +kernel
theorem dX6_join_31 : decode cX6_join 31 = .ok (.aload_n 0, 1) := by decide +kernel
theorem dX6_join_32 : decode cX6_join 32 = .ok (.getfield 11, 3) := by decide +kernel
theorem dX6_join_35 : decode cX6_join 35 = .ok (.iload 4, 2) := by decide +kernel
theorem dX6_join_37 : decode cX6_join 37 = .ok (.iaload, 1) := by decide +kernel
theorem dX6_join_38 : decode cX6_join 38 = .ok (.iastore, 1) := by decide +kernel
theorem dX6_join_39 : decode cX6_join 39 = .ok (.aload_n 0, 1) := by decide +kernel
theorem dX6_join_40 : decode cX6_join 40 = .ok (.getfield 11, 3) := by decide +kernel
theorem dX6_join_43 : decode cX6_join 43 = .ok (.iload 4, 2) := by decide +kernel
theorem dX6_join_45 : decode cX6_join 45 = .ok (.iload_n 1, 1) := by decide +kernel
theorem dX6_join_46 : decode cX6_join 46 = .ok (.iastore, 1) := by decide +kernel
theorem dX6_join_47 : decode cX6_join 47 = .ok (.return_, 1) := by decide +kernel
theorem dX6_addLabel_0 : decode cX6_addLabel 0 = .ok (.aload_n 0, 1) := by decide +kernel
theorem dX6_addLabel_1 : decode cX6_addLabel 1 = .ok (.getfield 34, 3) := by decide +kernel
theorem dX6_addLabel_4 : decode cX6_addLabel 4 = .ok (.sipush 400, 3) := by decide +kernel
theorem dX6_addLabel_7 : decode cX6_addLabel 7 = .ok (.if_icmp .lt 5, 3) := by decide +kernel
theorem dX6_addLabel_10 : decode cX6_addLabel 10 = .ok (.iconst (-1), 1) := by decide +kernel
theorem dX6_addLabel_11 : decode cX6_addLabel 11 = .ok (.ireturn, 1) := by decide +kernel
theorem dX6_addLabel_12 : decode cX6_addLabel 12 = .ok (.aload_n 0, 1) := by decide +kernel
theorem dX6_addLabel_13 : decode cX6_addLabel 13 = .ok (.dup, 1) := by decide +kernel
theorem dX6_addLabel_14 : decode cX6_addLabel 14 = .ok (.getfield 34, 3) := by decide +kernel
theorem dX6_addLabel_17 : decode cX6_addLabel 17 = .ok (.iconst 1, 1) := by decide +kernel
theorem dX6_addLabel_18 : decode cX6_addLabel 18 = .ok (.iadd, 1) := by decide +kernel
theorem dX6_addLabel_19 : decode cX6_addLabel 19 = .ok (.putfield 34, 3) := by decide +kernel
theorem dX6_addLabel_22 : decode cX6_addLabel 22 = .ok (.aload_n 0, 1) := by decide +kernel
theorem dX6_addLabel_23 : decode cX6_addLabel 23 = .ok (.aload_n 0, 1) := by decide +kernel
theorem dX6_addLabel_24 : decode cX6_addLabel 24 = .ok (.getfield 34, 3) := by decide +kernel
theorem dX6_addLabel_27 : decode cX6_addLabel 27 = .ok (.iconst 1, 1) := by decide +kernel
theorem dX6_addLabel_28 : decode cX6_addLabel 28 = .ok (.isub, 1) := by decide +kernel
theorem dX6_addLabel_29 : decode cX6_addLabel 29 = .ok (.lload_n 1, 1) := by decide +kernel
theorem dX6_addLabel_30 : decode cX6_addLabel 30 = .ok (.invokevirtual 43, 3) := by decide +kernel
theorem dX6_addLabel_33 : decode cX6_addLabel 33 = .ok (.aload_n 0, 1) := by decide +kernel
theorem dX6_addLabel_34 : decode cX6_addLabel 34 = .ok (.getfield 34, 3) := by decide +kernel
theorem dX6_addLabel_37 : decode cX6_addLabel 37 = .ok (.iconst 1, 1) := by decide +kernel
theorem dX6_addLabel_38 : decode cX6_addLabel 38 = .ok (.isub, 1) := by decide +kernel
theorem dX6_addLabel_39 : decode cX6_addLabel 39 = .ok (.ireturn, 1) := by decide +kernel
theorem dX6_addSet_0 : decode cX6_addSet 0 = .ok (.aload_n 0, 1) := by decide +kernel
theorem dX6_addSet_1 : decode cX6_addSet 1 = .ok (.getfield 38, 3) := by decide +kernel
theorem dX6_addSet_4 : decode cX6_addSet 4 = .ok (.sipush 400, 3) := by decide +kernel
theorem dX6_addSet_7 : decode cX6_addSet 7 = .ok (.if_icmp .ge 40, 3) := by decide +kernel
theorem dX6_addSet_10 : decode cX6_addSet 10 = .ok (.aload_n 0, 1) := by decide +kernel
theorem dX6_addSet_11 : decode cX6_addSet 11 = .ok (.sipush 400, 3) := by decide +kernel
theorem dX6_addSet_14 : decode cX6_addSet 14 = .ok (.aload_n 0, 1) := by decide +kernel
theorem dX6_addSet_15 : decode cX6_addSet 15 = .ok (.getfield 38, 3) := by decide +kernel
theorem dX6_addSet_18 : decode cX6_addSet 18 = .ok (.iadd, 1) := by decide +kernel
theorem dX6_addSet_19 : decode cX6_addSet 19 = .ok (.lload_n 1, 1) := by decide +kernel
theorem dX6_addSet_20 : decode cX6_addSet 20 = .ok (.invokevirtual 43, 3) := by decide +kernel
theorem dX6_addSet_23 : decode cX6_addSet 23 = .ok (.aload_n 0, 1) := by decide +kernel
theorem dX6_addSet_24 : decode cX6_addSet 24 = .ok (.getfield 22, 3) := by decide +kernel
theorem dX6_addSet_27 : decode cX6_addSet 27 = .ok (.sipush 400, 3) := by decide +kernel
theorem dX6_addSet_30 : decode cX6_addSet 30 = .ok (.aload_n 0, 1) := by decide +kernel
theorem dX6_addSet_31 : decode cX6_addSet 31 = .ok (.getfield 38, 3) := by decide +kernel
theorem dX6_addSet_34 : decode cX6_addSet 34 = .ok (.iadd, 1) := by decide +kernel
theorem dX6_addSet_35 : decode cX6_addSet 35 = .ok (.iload_n 3, 1) := by decide +kernel
theorem dX6_addSet_36 : decode cX6_addSet 36 = .ok (.iastore, 1) := by decide +kernel
theorem dX6_addSet_37 : decode cX6_addSet 37 = .ok (.aload_n 0, 1) := by decide +kernel
theorem dX6_addSet_38 : decode cX6_addSet 38 = .ok (.dup, 1) := by decide +kernel
theorem dX6_addSet_39 : decode cX6_addSet 39 = .ok (.getfield 38, 3) := by decide +kernel
theorem dX6_addSet_42 : decode cX6_addSet 42 = .ok (.iconst 1, 1) := by decide +kernel
theorem dX6_addSet_43 : decode cX6_addSet 43 = .ok (.iadd, 1) := by decide +kernel
theorem dX6_addSet_44 : decode cX6_addSet 44 = .ok (.putfield 38, 3) := by decide +kernel
theorem dX6_addSet_47 : decode cX6_addSet 47 = .ok (.return_, 1) := by decide +kernel

