set_option maxRecDepth 20000 in
theorem w_1_16 : (Jvm.Cond.initialized "AssembleLinesModel") ∈ b_Ws := bw_1 (List.mem_of_getElem? (i := 16) rfl) rfl
set_option maxRecDepth 20000 in
theorem w_5_218 : (Jvm.Cond.fieldLink "AssembleLinesModel" (157 : Nat) "AssembleLinesModel" "thrown" "I") ∈ b_Ws := bw_5 (List.mem_of_getElem? (i := 218) rfl) rfl
set_option maxRecDepth 20000 in
theorem w_5_219 : (Jvm.Cond.fieldLink "AssembleLinesModel" (161 : Nat) "AssembleLinesModel" "size" "I") ∈ b_Ws := bw_5 (List.mem_of_getElem? (i := 219) rfl) rfl
set_option maxRecDepth 20000 in
theorem w_6_202 : (Jvm.Cond.methodLink "AssembleLinesModel" (164 : Nat) ({ cls := "AssembleLinesModel", name := "fail", desc := "(I)I" } : Jvm.MethodName)) ∈ b_Ws := bw_6 (List.mem_of_getElem? (i := 202) rfl) rfl
set_option maxRecDepth 20000 in
theorem w_6_204 : (Jvm.Cond.instanceMethod ({ cls := "AssembleLinesModel", name := "fail", desc := "(I)I" } : Jvm.MethodName)) ∈ b_Ws := bw_6 (List.mem_of_getElem? (i := 204) rfl) rfl
set_option maxRecDepth 20000 in
theorem w_6_205 : (Jvm.Cond.code ({ cls := "AssembleLinesModel", name := "fail", desc := "(I)I" } : Jvm.MethodName) prog_15_method_3_code (2 : Nat) (Option.some Jvm.ClassFile.FieldType.int)) ∈ b_Ws := bw_6 (List.mem_of_getElem? (i := 205) rfl) rfl
set_option maxRecDepth 20000 in
theorem w_6_210 : (Jvm.Cond.methodLink "AssembleLinesModel" (168 : Nat) ({ cls := "AssembleLinesModel", name := "within", desc := "(III)Z" } : Jvm.MethodName)) ∈ b_Ws := bw_6 (List.mem_of_getElem? (i := 210) rfl) rfl
set_option maxRecDepth 20000 in
theorem w_6_211 : (Jvm.Cond.static ({ cls := "AssembleLinesModel", name := "within", desc := "(III)Z" } : Jvm.MethodName)) ∈ b_Ws := bw_6 (List.mem_of_getElem? (i := 211) rfl) rfl
set_option maxRecDepth 20000 in
theorem w_6_212 : (Jvm.Cond.code ({ cls := "AssembleLinesModel", name := "within", desc := "(III)Z" } : Jvm.MethodName) prog_15_method_4_code (3 : Nat) (Option.some Jvm.ClassFile.FieldType.boolean)) ∈ b_Ws := bw_6 (List.mem_of_getElem? (i := 212) rfl) rfl
theorem dX13_thrown_0 : decode cX13_thrown 0 = .ok (.aload_n 0, 1) := by decide +kernel
theorem dX13_thrown_1 : decode cX13_thrown 1 = .ok (.getfield 157, 3) := by decide +kernel
theorem dX13_thrown_4 : decode cX13_thrown 4 = .ok (.ireturn, 1) := by decide +kernel
theorem dX13_fail_0 : decode cX13_fail 0 = .ok (.aload_n 0, 1) := by decide +kernel
theorem dX13_fail_1 : decode cX13_fail 1 = .ok (.iload_n 1, 1) := by decide +kernel
theorem dX13_fail_2 : decode cX13_fail 2 = .ok (.putfield 157, 3) := by decide +kernel
theorem dX13_fail_5 : decode cX13_fail 5 = .ok (.iconst 0, 1) := by decide +kernel
theorem dX13_fail_6 : decode cX13_fail 6 = .ok (.ireturn, 1) := by decide +kernel
theorem dX13_within_0 : decode cX13_within 0 = .ok (.iload_n 0, 1) := by decide +kernel
theorem dX13_within_1 : decode cX13_within 1 = .ok (.iload_n 1, 1) := by decide +kernel
theorem dX13_within_2 : decode cX13_within 2 = .ok (.if_icmp .lt 12, 3) := by decide +kernel
theorem dX13_within_5 : decode cX13_within 5 = .ok (.iload_n 0, 1) := by decide +kernel
theorem dX13_within_6 : decode cX13_within 6 = .ok (.iload_n 2, 1) := by decide +kernel
theorem dX13_within_7 : decode cX13_within 7 = .ok (.if_icmp .gt 7, 3) := by decide +kernel
theorem dX13_within_10 : decode cX13_within 10 = .ok (.iconst 1, 1) := by decide +kernel
theorem dX13_within_11 : decode cX13_within 11 = .ok (.goto 4, 3) := by decide +kernel
theorem dX13_within_14 : decode cX13_within 14 = .ok (.iconst 0, 1) := by decide +kernel
theorem dX13_within_15 : decode cX13_within 15 = .ok (.ireturn, 1) := by decide +kernel
theorem dX13_end_0 : decode cX13_end 0 = .ok (.aload_n 0, 1) := by decide +kernel
theorem dX13_end_1 : decode cX13_end 1 = .ok (.iconst 0, 1) := by decide +kernel
theorem dX13_end_2 : decode cX13_end 2 = .ok (.putfield 157, 3) := by decide +kernel
theorem dX13_end_5 : decode cX13_end 5 = .ok (.iload_n 1, 1) := by decide +kernel
theorem dX13_end_6 : decode cX13_end 6 = .ok (.iconst 0, 1) := by decide +kernel
theorem dX13_end_7 : decode cX13_end 7 = .ok (.bipush 16, 2) := by decide +kernel
theorem dX13_end_9 : decode cX13_end 9 = .ok (.invokestatic 168, 3) := by decide +kernel
theorem dX13_end_12 : decode cX13_end 12 = .ok (.ifCond .ne 9, 3) := by decide +kernel
theorem dX13_end_15 : decode cX13_end 15 = .ok (.aload_n 0, 1) := by decide +kernel
theorem dX13_end_16 : decode cX13_end 16 = .ok (.iconst 1, 1) := by decide +kernel
theorem dX13_end_17 : decode cX13_end 17 = .ok (.invokevirtual 164, 3) := by decide +kernel
theorem dX13_end_20 : decode cX13_end 20 = .ok (.ireturn, 1) := by decide +kernel
theorem dX13_end_21 : decode cX13_end 21 = .ok (.aload_n 0, 1) := by decide +kernel
theorem dX13_end_22 : decode cX13_end 22 = .ok (.getfield 161, 3) := by decide +kernel
theorem dX13_end_25 : decode cX13_end 25 = .ok (.bipush 16, 2) := by decide +kernel
theorem dX13_end_27 : decode cX13_end 27 = .ok (.if_icmp .ge 9, 3) := by decide +kernel
theorem dX13_end_30 : decode cX13_end 30 = .ok (.aload_n 0, 1) := by decide +kernel
theorem dX13_end_31 : decode cX13_end 31 = .ok (.iconst 2, 1) := by decide +kernel
theorem dX13_end_32 : decode cX13_end 32 = .ok (.invokevirtual 164, 3) := by decide +kernel
theorem dX13_end_35 : decode cX13_end 35 = .ok (.ireturn, 1) := by decide +kernel
theorem dX13_end_36 : decode cX13_end 36 = .ok (.aload_n 0, 1) := by decide +kernel
theorem dX13_end_37 : decode cX13_end 37 = .ok (.dup, 1) := by decide +kernel
theorem dX13_end_38 : decode cX13_end 38 = .ok (.getfield 161, 3) := by decide +kernel
theorem dX13_end_41 : decode cX13_end 41 = .ok (.bipush 16, 2) := by decide +kernel
theorem dX13_end_43 : decode cX13_end 43 = .ok (.iload_n 1, 1) := by decide +kernel
theorem dX13_end_44 : decode cX13_end 44 = .ok (.isub, 1) := by decide +kernel
theorem dX13_end_45 : decode cX13_end 45 = .ok (.isub, 1) := by decide +kernel
theorem dX13_end_46 : decode cX13_end 46 = .ok (.putfield 161, 3) := by decide +kernel
theorem dX13_end_49 : decode cX13_end 49 = .ok (.aload_n 0, 1) := by decide +kernel
theorem dX13_end_50 : decode cX13_end 50 = .ok (.getfield 161, 3) := by decide +kernel
theorem dX13_end_53 : decode cX13_end 53 = .ok (.ireturn, 1) := by decide +kernel

