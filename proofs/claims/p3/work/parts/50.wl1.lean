set_option maxRecDepth 20000 in
theorem w_2_202 : (Jvm.Cond.classLink "AssembleLinesLaw" (13 : Nat) "java/lang/IllegalStateException") ∈ b_Ws := bw_2 (List.mem_of_getElem? (i := 202) rfl) rfl
set_option maxRecDepth 20000 in
theorem w_2_203 : (Jvm.Cond.methodLink "AssembleLinesLaw" (7 : Nat) ({ cls := "AssembleLines", name := "feed", desc := "(IIII)I" } : Jvm.MethodName)) ∈ b_Ws := bw_2 (List.mem_of_getElem? (i := 203) rfl) rfl
set_option maxRecDepth 20000 in
theorem w_2_204 : (Jvm.Cond.instanceMethod ({ cls := "AssembleLines", name := "feed", desc := "(IIII)I" } : Jvm.MethodName)) ∈ b_Ws := bw_2 (List.mem_of_getElem? (i := 204) rfl) rfl
set_option maxRecDepth 20000 in
theorem w_2_205 : (Jvm.Cond.selects "AssembleLines" ({ cls := "AssembleLines", name := "feed", desc := "(IIII)I" } : Jvm.MethodName) ({ cls := "AssembleLines", name := "feed", desc := "(IIII)I" } : Jvm.MethodName)) ∈ b_Ws := bw_2 (List.mem_of_getElem? (i := 205) rfl) rfl
set_option maxRecDepth 20000 in
theorem w_2_206 : (Jvm.Cond.code ({ cls := "AssembleLines", name := "feed", desc := "(IIII)I" } : Jvm.MethodName) prog_1_method_2_code (5 : Nat) (Option.some Jvm.ClassFile.FieldType.int)) ∈ b_Ws := bw_2 (List.mem_of_getElem? (i := 206) rfl) rfl
theorem dL_feed_0 : decode cL_feed 0 = .ok (.aload 5, 2) := by decide +kernel
theorem dL_feed_2 : decode cL_feed 2 = .ok (.iconst 0, 1) := by decide +kernel
theorem dL_feed_3 : decode cL_feed 3 = .ok (.aload_n 0, 1) := by decide +kernel
theorem dL_feed_4 : decode cL_feed 4 = .ok (.iload_n 1, 1) := by decide +kernel
theorem dL_feed_5 : decode cL_feed 5 = .ok (.iload_n 2, 1) := by decide +kernel
theorem dL_feed_6 : decode cL_feed 6 = .ok (.iload_n 3, 1) := by decide +kernel
theorem dL_feed_7 : decode cL_feed 7 = .ok (.iload 4, 2) := by decide +kernel
theorem dL_feed_9 : decode cL_feed 9 = .ok (.invokevirtual 7, 3) := by decide +kernel
theorem dL_feed_12 : decode cL_feed 12 = .ok (.i2l, 1) := by decide +kernel
theorem dL_feed_13 : decode cL_feed 13 = .ok (.lastore, 1) := by decide +kernel
theorem dL_feed_14 : decode cL_feed 14 = .ok (.goto 7, 3) := by decide +kernel
theorem dL_feed_17 : decode cL_feed 17 = .ok (.astore 6, 2) := by decide +kernel
theorem dL_feed_19 : decode cL_feed 19 = .ok (.iconst 1, 1) := by decide +kernel
theorem dL_feed_20 : decode cL_feed 20 = .ok (.ireturn, 1) := by decide +kernel
theorem dL_feed_21 : decode cL_feed 21 = .ok (.iconst 0, 1) := by decide +kernel
theorem dL_feed_22 : decode cL_feed 22 = .ok (.ireturn, 1) := by decide +kernel

