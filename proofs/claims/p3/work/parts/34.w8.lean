set_option maxRecDepth 20000 in
theorem w_1_20 : (Jvm.Cond.initialized "java/lang/IllegalStateException") ∈ b_Ws := bw_1 (List.mem_of_getElem? (i := 20) rfl) rfl
set_option maxRecDepth 20000 in
theorem w_1_21 : (Jvm.Cond.initialized "java/lang/IllegalArgumentException") ∈ b_Ws := bw_1 (List.mem_of_getElem? (i := 21) rfl) rfl
set_option maxRecDepth 20000 in
theorem w_2_176 : (Jvm.Cond.fieldLink "AssembleLines" (38 : Nat) "AssembleLines" "length" "I") ∈ b_Ws := bw_2 (List.mem_of_getElem? (i := 176) rfl) rfl
set_option maxRecDepth 20000 in
theorem w_2_207 : (Jvm.Cond.classLink "AssembleLines" (42 : Nat) "java/lang/IllegalStateException") ∈ b_Ws := bw_2 (List.mem_of_getElem? (i := 207) rfl) rfl
set_option maxRecDepth 20000 in
theorem w_3_46 : (Jvm.Cond.classLink "AssembleLines" (53 : Nat) "java/lang/IllegalArgumentException") ∈ b_Ws := bw_3 (List.mem_of_getElem? (i := 46) rfl) rfl
theorem dX12_end_0 : decode cX12_end 0 = .ok (.iload_n 1, 1) := by decide +kernel
theorem dX12_end_1 : decode cX12_end 1 = .ok (.ifCond .lt 9, 3) := by decide +kernel
theorem dX12_end_4 : decode cX12_end 4 = .ok (.iload_n 1, 1) := by decide +kernel
theorem dX12_end_5 : decode cX12_end 5 = .ok (.bipush 16, 2) := by decide +kernel
theorem dX12_end_7 : decode cX12_end 7 = .ok (.if_icmp .le 13, 3) := by decide +kernel
theorem dX12_end_10 : decode cX12_end 10 = .ok (.new 53, 3) := by decide +kernel
theorem dX12_end_13 : decode cX12_end 13 = .ok (.dup, 1) := by decide +kernel
theorem dX12_end_14 : decode cX12_end 14 = .ok (.ldc 55, 2) := by decide +kernel
theorem dX12_end_16 : decode cX12_end 16 = .ok (.invokespecial 57, 3) := by decide +kernel
theorem dX12_end_19 : decode cX12_end 19 = .ok (.athrow, 1) := by decide +kernel
theorem dX12_end_20 : decode cX12_end 20 = .ok (.aload_n 0, 1) := by decide +kernel
theorem dX12_end_21 : decode cX12_end 21 = .ok (.getfield 38, 3) := by decide +kernel
theorem dX12_end_24 : decode cX12_end 24 = .ok (.bipush 16, 2) := by decide +kernel
theorem dX12_end_26 : decode cX12_end 26 = .ok (.if_icmp .ge 13, 3) := by decide +kernel
theorem dX12_end_29 : decode cX12_end 29 = .ok (.new 42, 3) := by decide +kernel
theorem dX12_end_32 : decode cX12_end 32 = .ok (.dup, 1) := by decide +kernel
theorem dX12_end_33 : decode cX12_end 33 = .ok (.ldc 58, 2) := by decide +kernel
theorem dX12_end_35 : decode cX12_end 35 = .ok (.invokespecial 46, 3) := by decide +kernel
theorem dX12_end_38 : decode cX12_end 38 = .ok (.athrow, 1) := by decide +kernel
theorem dX12_end_39 : decode cX12_end 39 = .ok (.aload_n 0, 1) := by decide +kernel
theorem dX12_end_40 : decode cX12_end 40 = .ok (.dup, 1) := by decide +kernel
theorem dX12_end_41 : decode cX12_end 41 = .ok (.getfield 38, 3) := by decide +kernel
theorem dX12_end_44 : decode cX12_end 44 = .ok (.bipush 16, 2) := by decide +kernel
theorem dX12_end_46 : decode cX12_end 46 = .ok (.iload_n 1, 1) := by decide +kernel
theorem dX12_end_47 : decode cX12_end 47 = .ok (.isub, 1) := by decide +kernel
theorem dX12_end_48 : decode cX12_end 48 = .ok (.isub, 1) := by decide +kernel
theorem dX12_end_49 : decode cX12_end 49 = .ok (.putfield 38, 3) := by decide +kernel
theorem dX12_end_52 : decode cX12_end 52 = .ok (.aload_n 0, 1) := by decide +kernel
theorem dX12_end_53 : decode cX12_end 53 = .ok (.getfield 38, 3) := by decide +kernel
theorem dX12_end_56 : decode cX12_end 56 = .ok (.ireturn, 1) := by decide +kernel

