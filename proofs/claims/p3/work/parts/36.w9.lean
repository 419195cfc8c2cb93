set_option maxRecDepth 20000 in
theorem w_1_1 : (Jvm.Cond.initialized "AssembleLines") ∈ b_Ws := bw_1 (List.mem_of_getElem? (i := 1) rfl) rfl
set_option maxRecDepth 20000 in
theorem w_3_34 : (Jvm.Cond.methodLink "AssembleLines" (49 : Nat) ({ cls := "AssembleLines", name := "append", desc := "(I)V" } : Jvm.MethodName)) ∈ b_Ws := bw_3 (List.mem_of_getElem? (i := 34) rfl) rfl
set_option maxRecDepth 20000 in
theorem w_3_36 : (Jvm.Cond.instanceMethod ({ cls := "AssembleLines", name := "append", desc := "(I)V" } : Jvm.MethodName)) ∈ b_Ws := bw_3 (List.mem_of_getElem? (i := 36) rfl) rfl
set_option maxRecDepth 20000 in
theorem w_3_37 : (Jvm.Cond.code ({ cls := "AssembleLines", name := "append", desc := "(I)V" } : Jvm.MethodName) prog_1_method_10_code (3 : Nat) (Option.none : Option Jvm.ClassFile.FieldType)) ∈ b_Ws := bw_3 (List.mem_of_getElem? (i := 37) rfl) rfl
theorem dX12_append_0 : decode cX12_append 0 = .ok (.bipush 24, 2) := by decide +kernel
theorem dX12_append_2 : decode cX12_append 2 = .ok (.istore_n 2, 1) := by decide +kernel
theorem dX12_append_3 : decode cX12_append 3 = .ok (.iload_n 2, 1) := by decide +kernel
theorem dX12_append_4 : decode cX12_append 4 = .ok (.ifCond .lt 42, 3) := by decide +kernel
theorem dX12_append_7 : decode cX12_append 7 = .ok (.aload_n 0, 1) := by decide +kernel
theorem dX12_append_8 : decode cX12_append 8 = .ok (.getfield 38, 3) := by decide +kernel
theorem dX12_append_11 : decode cX12_append 11 = .ok (.sipush 4096, 3) := by decide +kernel
theorem dX12_append_14 : decode cX12_append 14 = .ok (.if_icmp .ge 32, 3) := by decide +kernel
theorem dX12_append_17 : decode cX12_append 17 = .ok (.aload_n 0, 1) := by decide +kernel
theorem dX12_append_18 : decode cX12_append 18 = .ok (.getfield 9, 3) := by decide +kernel
theorem dX12_append_21 : decode cX12_append 21 = .ok (.aload_n 0, 1) := by decide +kernel
theorem dX12_append_22 : decode cX12_append 22 = .ok (.getfield 38, 3) := by decide +kernel
theorem dX12_append_25 : decode cX12_append 25 = .ok (.iload_n 1, 1) := by decide +kernel
theorem dX12_append_26 : decode cX12_append 26 = .ok (.iload_n 2, 1) := by decide +kernel
theorem dX12_append_27 : decode cX12_append 27 = .ok (.ishr, 1) := by decide +kernel
theorem dX12_append_28 : decode cX12_append 28 = .ok (.i2b, 1) := by decide +kernel
theorem dX12_append_29 : decode cX12_append 29 = .ok (.bastore, 1) := by decide +kernel
theorem dX12_append_30 : decode cX12_append 30 = .ok (.aload_n 0, 1) := by decide +kernel
theorem dX12_append_31 : decode cX12_append 31 = .ok (.dup, 1) := by decide +kernel
theorem dX12_append_32 : decode cX12_append 32 = .ok (.getfield 38, 3) := by decide +kernel
theorem dX12_append_35 : decode cX12_append 35 = .ok (.iconst 1, 1) := by decide +kernel
theorem dX12_append_36 : decode cX12_append 36 = .ok (.iadd, 1) := by decide +kernel
theorem dX12_append_37 : decode cX12_append 37 = .ok (.putfield 38, 3) := by decide +kernel
theorem dX12_append_40 : decode cX12_append 40 = .ok (.iinc 2 (-8), 3) := by decide +kernel
theorem dX12_append_43 : decode cX12_append 43 = .ok (.goto (-40), 3) := by decide +kernel
theorem dX12_append_46 : decode cX12_append 46 = .ok (.return_, 1) := by decide +kernel
theorem dX12_feed_0 : decode cX12_feed 0 = .ok (.aload_n 0, 1) := by decide +kernel
theorem dX12_feed_1 : decode cX12_feed 1 = .ok (.getfield 38, 3) := by decide +kernel
theorem dX12_feed_4 : decode cX12_feed 4 = .ok (.bipush 16, 2) := by decide +kernel
theorem dX12_feed_6 : decode cX12_feed 6 = .ok (.iadd, 1) := by decide +kernel
theorem dX12_feed_7 : decode cX12_feed 7 = .ok (.sipush 4096, 3) := by decide +kernel
theorem dX12_feed_10 : decode cX12_feed 10 = .ok (.if_icmp .le 13, 3) := by decide +kernel
theorem dX12_feed_13 : decode cX12_feed 13 = .ok (.new 42, 3) := by decide +kernel
theorem dX12_feed_16 : decode cX12_feed 16 = .ok (.dup, 1) := by decide +kernel
theorem dX12_feed_17 : decode cX12_feed 17 = .ok (.ldc 44, 2) := by decide +kernel
theorem dX12_feed_19 : decode cX12_feed 19 = .ok (.invokespecial 46, 3) := by decide +kernel
theorem dX12_feed_22 : decode cX12_feed 22 = .ok (.athrow, 1) := by decide +kernel
theorem dX12_feed_23 : decode cX12_feed 23 = .ok (.aload_n 0, 1) := by decide +kernel
theorem dX12_feed_24 : decode cX12_feed 24 = .ok (.iload_n 1, 1) := by decide +kernel
theorem dX12_feed_25 : decode cX12_feed 25 = .ok (.invokevirtual 49, 3) := by decide +kernel
theorem dX12_feed_28 : decode cX12_feed 28 = .ok (.aload_n 0, 1) := by decide +kernel
theorem dX12_feed_29 : decode cX12_feed 29 = .ok (.iload_n 2, 1) := by decide +kernel
theorem dX12_feed_30 : decode cX12_feed 30 = .ok (.invokevirtual 49, 3) := by decide +kernel
theorem dX12_feed_33 : decode cX12_feed 33 = .ok (.aload_n 0, 1) := by decide +kernel
theorem dX12_feed_34 : decode cX12_feed 34 = .ok (.iload_n 3, 1) := by decide +kernel
theorem dX12_feed_35 : decode cX12_feed 35 = .ok (.invokevirtual 49, 3) := by decide +kernel
theorem dX12_feed_38 : decode cX12_feed 38 = .ok (.aload_n 0, 1) := by decide +kernel
theorem dX12_feed_39 : decode cX12_feed 39 = .ok (.iload 4, 2) := by decide +kernel
theorem dX12_feed_41 : decode cX12_feed 41 = .ok (.invokevirtual 49, 3) := by decide +kernel
theorem dX12_feed_44 : decode cX12_feed 44 = .ok (.aload_n 0, 1) := by decide +kernel
theorem dX12_feed_45 : decode cX12_feed 45 = .ok (.getfield 38, 3) := by decide +kernel
theorem dX12_feed_48 : decode cX12_feed 48 = .ok (.ireturn, 1) := by decide +kernel

