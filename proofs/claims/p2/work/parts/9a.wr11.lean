set_option maxRecDepth 20000 in
theorem w_7_166 : (Jvm.Cond.methodLink "AssembleLinesModel" (412 : Nat) ({ cls := "AssembleLinesModel", name := "wordsOf", desc := "(I)I" } : Jvm.MethodName)) ∈ b_Ws := bw_7 (List.mem_of_getElem? (i := 166) rfl) rfl
set_option maxRecDepth 20000 in
theorem w_7_168 : (Jvm.Cond.instanceMethod ({ cls := "AssembleLinesModel", name := "wordsOf", desc := "(I)I" } : Jvm.MethodName)) ∈ b_Ws := bw_7 (List.mem_of_getElem? (i := 168) rfl) rfl
set_option maxRecDepth 20000 in
theorem w_7_169 : (Jvm.Cond.code ({ cls := "AssembleLinesModel", name := "wordsOf", desc := "(I)I" } : Jvm.MethodName) prog_15_method_53_code (3 : Nat) (Option.some Jvm.ClassFile.FieldType.int)) ∈ b_Ws := bw_7 (List.mem_of_getElem? (i := 169) rfl) rfl
theorem dX13_findPlaces_0 : decode cX13_findPlaces 0 = .ok (.iconst 0, 1) := by decide +kernel
theorem dX13_findPlaces_1 : decode cX13_findPlaces 1 = .ok (.istore_n 1, 1) := by decide +kernel
theorem dX13_findPlaces_2 : decode cX13_findPlaces 2 = .ok (.iconst 0, 1) := by decide +kernel
theorem dX13_findPlaces_3 : decode cX13_findPlaces 3 = .ok (.istore_n 2, 1) := by decide +kernel
theorem dX13_findPlaces_4 : decode cX13_findPlaces 4 = .ok (.iload_n 2, 1) := by decide +kernel
theorem dX13_findPlaces_5 : decode cX13_findPlaces 5 = .ok (.aload_n 0, 1) := by decide +kernel
theorem dX13_findPlaces_6 : decode cX13_findPlaces 6 = .ok (.getfield 217, 3) := by decide +kernel
theorem dX13_findPlaces_9 : decode cX13_findPlaces 9 = .ok (.if_icmp .ge 24, 3) := by decide +kernel
theorem dX13_findPlaces_12 : decode cX13_findPlaces 12 = .ok (.aload_n 0, 1) := by decide +kernel
theorem dX13_findPlaces_13 : decode cX13_findPlaces 13 = .ok (.getfield 113, 3) := by decide +kernel
theorem dX13_findPlaces_16 : decode cX13_findPlaces 16 = .ok (.iload_n 2, 1) := by decide +kernel
theorem dX13_findPlaces_17 : decode cX13_findPlaces 17 = .ok (.iload_n 1, 1) := by decide +kernel
theorem dX13_findPlaces_18 : decode cX13_findPlaces 18 = .ok (.iastore, 1) := by decide +kernel
theorem dX13_findPlaces_19 : decode cX13_findPlaces 19 = .ok (.iload_n 1, 1) := by decide +kernel
theorem dX13_findPlaces_20 : decode cX13_findPlaces 20 = .ok (.aload_n 0, 1) := by decide +kernel
theorem dX13_findPlaces_21 : decode cX13_findPlaces 21 = .ok (.iload_n 2, 1) := by decide +kernel
theorem dX13_findPlaces_22 : decode cX13_findPlaces 22 = .ok (.invokevirtual 412, 3) := by decide +kernel
theorem dX13_findPlaces_25 : decode cX13_findPlaces 25 = .ok (.iadd, 1) := by decide +kernel
theorem dX13_findPlaces_26 : decode cX13_findPlaces 26 = .ok (.istore_n 1, 1) := by decide +kernel
theorem dX13_findPlaces_27 : decode cX13_findPlaces 27 = .ok (.iinc 2 1, 3) := by decide +kernel
theorem dX13_findPlaces_30 : decode cX13_findPlaces 30 = .ok (.goto (-26), 3) := by decide +kernel
theorem dX13_findPlaces_33 : decode cX13_findPlaces 33 = .ok (.aload_n 0, 1) := by decide +kernel
theorem dX13_findPlaces_34 : decode cX13_findPlaces 34 = .ok (.iload_n 1, 1) := by decide +kernel
theorem dX13_findPlaces_35 : decode cX13_findPlaces 35 = .ok (.aload_n 0, 1) := by decide +kernel
theorem dX13_findPlaces_36 : decode cX13_findPlaces 36 = .ok (.aload_n 0, 1) := by decide +kernel
theorem dX13_findPlaces_37 : decode cX13_findPlaces 37 = .ok (.getfield 217, 3) := by decide +kernel
theorem dX13_findPlaces_40 : decode cX13_findPlaces 40 = .ok (.invokevirtual 409, 3) := by decide +kernel
theorem dX13_findPlaces_43 : decode cX13_findPlaces 43 = .ok (.iadd, 1) := by decide +kernel
theorem dX13_findPlaces_44 : decode cX13_findPlaces 44 = .ok (.putfield 415, 3) := by decide +kernel
theorem dX13_findPlaces_47 : decode cX13_findPlaces 47 = .ok (.return_, 1) := by decide +kernel

