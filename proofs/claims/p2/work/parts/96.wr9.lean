set_option maxRecDepth 20000 in
theorem w_6_36 : (Jvm.Cond.fieldLink "AssembleLinesModel" (415 : Nat) "AssembleLinesModel" "end" "I") ∈ b_Ws := bw_6 (List.mem_of_getElem? (i := 36) rfl) rfl
set_option maxRecDepth 20000 in
theorem w_7_134 : (Jvm.Cond.methodLink "AssembleLinesModel" (316 : Nat) ({ cls := "AssembleLinesModel", name := "valueOf", desc := "([III)I" } : Jvm.MethodName)) ∈ b_Ws := bw_7 (List.mem_of_getElem? (i := 134) rfl) rfl
set_option maxRecDepth 20000 in
theorem w_7_136 : (Jvm.Cond.instanceMethod ({ cls := "AssembleLinesModel", name := "valueOf", desc := "([III)I" } : Jvm.MethodName)) ∈ b_Ws := bw_7 (List.mem_of_getElem? (i := 136) rfl) rfl
set_option maxRecDepth 20000 in
theorem w_7_137 : (Jvm.Cond.code ({ cls := "AssembleLinesModel", name := "valueOf", desc := "([III)I" } : Jvm.MethodName) prog_15_method_30_code (10 : Nat) (Option.some Jvm.ClassFile.FieldType.int)) ∈ b_Ws := bw_7 (List.mem_of_getElem? (i := 137) rfl) rfl
set_option maxRecDepth 20000 in
theorem w_7_174 : (Jvm.Cond.methodLink "AssembleLinesModel" (428 : Nat) ({ cls := "AssembleLinesModel", name := "grows", desc := "(I)Z" } : Jvm.MethodName)) ∈ b_Ws := bw_7 (List.mem_of_getElem? (i := 174) rfl) rfl
set_option maxRecDepth 20000 in
theorem w_7_176 : (Jvm.Cond.instanceMethod ({ cls := "AssembleLinesModel", name := "grows", desc := "(I)Z" } : Jvm.MethodName)) ∈ b_Ws := bw_7 (List.mem_of_getElem? (i := 176) rfl) rfl
set_option maxRecDepth 20000 in
theorem w_7_177 : (Jvm.Cond.code ({ cls := "AssembleLinesModel", name := "grows", desc := "(I)Z" } : Jvm.MethodName) prog_15_method_56_code (2 : Nat) (Option.some Jvm.ClassFile.FieldType.boolean)) ∈ b_Ws := bw_7 (List.mem_of_getElem? (i := 177) rfl) rfl
set_option maxRecDepth 20000 in
theorem w_7_182 : (Jvm.Cond.methodLink "AssembleLinesModel" (418 : Nat) ({ cls := "AssembleLinesModel", name := "valueAt", desc := "(II)I" } : Jvm.MethodName)) ∈ b_Ws := bw_7 (List.mem_of_getElem? (i := 182) rfl) rfl
set_option maxRecDepth 20000 in
theorem w_7_184 : (Jvm.Cond.instanceMethod ({ cls := "AssembleLinesModel", name := "valueAt", desc := "(II)I" } : Jvm.MethodName)) ∈ b_Ws := bw_7 (List.mem_of_getElem? (i := 184) rfl) rfl
set_option maxRecDepth 20000 in
theorem w_7_185 : (Jvm.Cond.code ({ cls := "AssembleLinesModel", name := "valueAt", desc := "(II)I" } : Jvm.MethodName) prog_15_method_55_code (3 : Nat) (Option.some Jvm.ClassFile.FieldType.int)) ∈ b_Ws := bw_7 (List.mem_of_getElem? (i := 185) rfl) rfl
set_option maxRecDepth 20000 in
theorem w_7_195 : (Jvm.Cond.methodLink "AssembleLinesModel" (435 : Nat) ({ cls := "AssembleLinesModel", name := "literalPlace", desc := "(I)I" } : Jvm.MethodName)) ∈ b_Ws := bw_7 (List.mem_of_getElem? (i := 195) rfl) rfl
set_option maxRecDepth 20000 in
theorem w_7_197 : (Jvm.Cond.instanceMethod ({ cls := "AssembleLinesModel", name := "literalPlace", desc := "(I)I" } : Jvm.MethodName)) ∈ b_Ws := bw_7 (List.mem_of_getElem? (i := 197) rfl) rfl
set_option maxRecDepth 20000 in
theorem w_7_198 : (Jvm.Cond.code ({ cls := "AssembleLinesModel", name := "literalPlace", desc := "(I)I" } : Jvm.MethodName) prog_15_method_59_code (4 : Nat) (Option.some Jvm.ClassFile.FieldType.int)) ∈ b_Ws := bw_7 (List.mem_of_getElem? (i := 198) rfl) rfl
set_option maxRecDepth 20000 in
theorem w_7_203 : (Jvm.Cond.methodLink "AssembleLinesModel" (444 : Nat) ({ cls := "AssembleLinesModel", name := "say", desc := "(I)V" } : Jvm.MethodName)) ∈ b_Ws := bw_7 (List.mem_of_getElem? (i := 203) rfl) rfl
set_option maxRecDepth 20000 in
theorem w_7_205 : (Jvm.Cond.instanceMethod ({ cls := "AssembleLinesModel", name := "say", desc := "(I)V" } : Jvm.MethodName)) ∈ b_Ws := bw_7 (List.mem_of_getElem? (i := 205) rfl) rfl
set_option maxRecDepth 20000 in
theorem w_7_206 : (Jvm.Cond.code ({ cls := "AssembleLinesModel", name := "say", desc := "(I)V" } : Jvm.MethodName) prog_15_method_62_code (2 : Nat) (Option.none : Option Jvm.ClassFile.FieldType)) ∈ b_Ws := bw_7 (List.mem_of_getElem? (i := 206) rfl) rfl
theorem dX13_valueAt_0 : decode cX13_valueAt 0 = .ok (.aload_n 0, 1) := by decide +kernel
theorem dX13_valueAt_1 : decode cX13_valueAt 1 = .ok (.aload_n 0, 1) := by decide +kernel
theorem dX13_valueAt_2 : decode cX13_valueAt 2 = .ok (.getfield 113, 3) := by decide +kernel
theorem dX13_valueAt_5 : decode cX13_valueAt 5 = .ok (.iload_n 1, 1) := by decide +kernel
theorem dX13_valueAt_6 : decode cX13_valueAt 6 = .ok (.iaload, 1) := by decide +kernel
theorem dX13_valueAt_7 : decode cX13_valueAt 7 = .ok (.putfield 265, 3) := by decide +kernel
theorem dX13_valueAt_10 : decode cX13_valueAt 10 = .ok (.aload_n 0, 1) := by decide +kernel
theorem dX13_valueAt_11 : decode cX13_valueAt 11 = .ok (.aload_n 0, 1) := by decide +kernel
theorem dX13_valueAt_12 : decode cX13_valueAt 12 = .ok (.getfield 123, 3) := by decide +kernel
theorem dX13_valueAt_15 : decode cX13_valueAt 15 = .ok (.aload_n 0, 1) := by decide +kernel
theorem dX13_valueAt_16 : decode cX13_valueAt 16 = .ok (.getfield 116, 3) := by decide +kernel
theorem dX13_valueAt_19 : decode cX13_valueAt 19 = .ok (.aload_n 0, 1) := by decide +kernel
theorem dX13_valueAt_20 : decode cX13_valueAt 20 = .ok (.getfield 100, 3) := by decide +kernel
theorem dX13_valueAt_23 : decode cX13_valueAt 23 = .ok (.iload_n 1, 1) := by decide +kernel
theorem dX13_valueAt_24 : decode cX13_valueAt 24 = .ok (.iaload, 1) := by decide +kernel
theorem dX13_valueAt_25 : decode cX13_valueAt 25 = .ok (.iload_n 2, 1) := by decide +kernel
theorem dX13_valueAt_26 : decode cX13_valueAt 26 = .ok (.iadd, 1) := by decide +kernel
theorem dX13_valueAt_27 : decode cX13_valueAt 27 = .ok (.iaload, 1) := by decide +kernel
theorem dX13_valueAt_28 : decode cX13_valueAt 28 = .ok (.aload_n 0, 1) := by decide +kernel
theorem dX13_valueAt_29 : decode cX13_valueAt 29 = .ok (.getfield 119, 3) := by decide +kernel
theorem dX13_valueAt_32 : decode cX13_valueAt 32 = .ok (.aload_n 0, 1) := by decide +kernel
theorem dX13_valueAt_33 : decode cX13_valueAt 33 = .ok (.getfield 100, 3) := by decide +kernel
theorem dX13_valueAt_36 : decode cX13_valueAt 36 = .ok (.iload_n 1, 1) := by decide +kernel
theorem dX13_valueAt_37 : decode cX13_valueAt 37 = .ok (.iaload, 1) := by decide +kernel
theorem dX13_valueAt_38 : decode cX13_valueAt 38 = .ok (.iload_n 2, 1) := by decide +kernel
theorem dX13_valueAt_39 : decode cX13_valueAt 39 = .ok (.iadd, 1) := by decide +kernel
theorem dX13_valueAt_40 : decode cX13_valueAt 40 = .ok (.iaload, 1) := by decide +kernel
theorem dX13_valueAt_41 : decode cX13_valueAt 41 = .ok (.invokevirtual 316, 3) := by decide +kernel
theorem dX13_valueAt_44 : decode cX13_valueAt 44 = .ok (.ireturn, 1) := by decide +kernel
theorem dX13_fitsShort_0 : decode cX13_fitsShort 0 = .ok (.aload_n 0, 1) := by decide +kernel
theorem dX13_fitsShort_1 : decode cX13_fitsShort 1 = .ok (.iload_n 1, 1) := by decide +kernel
theorem dX13_fitsShort_2 : decode cX13_fitsShort 2 = .ok (.iconst 0, 1) := by decide +kernel
theorem dX13_fitsShort_3 : decode cX13_fitsShort 3 = .ok (.invokevirtual 418, 3) := by decide +kernel
theorem dX13_fitsShort_6 : decode cX13_fitsShort 6 = .ok (.istore_n 2, 1) := by decide +kernel
theorem dX13_fitsShort_7 : decode cX13_fitsShort 7 = .ok (.iload_n 2, 1) := by decide +kernel
theorem dX13_fitsShort_8 : decode cX13_fitsShort 8 = .ok (.aload_n 0, 1) := by decide +kernel
theorem dX13_fitsShort_9 : decode cX13_fitsShort 9 = .ok (.getfield 113, 3) := by decide +kernel
theorem dX13_fitsShort_12 : decode cX13_fitsShort 12 = .ok (.iload_n 1, 1) := by decide +kernel
theorem dX13_fitsShort_13 : decode cX13_fitsShort 13 = .ok (.iaload, 1) := by decide +kernel
theorem dX13_fitsShort_14 : decode cX13_fitsShort 14 = .ok (.isub, 1) := by decide +kernel
theorem dX13_fitsShort_15 : decode cX13_fitsShort 15 = .ok (.iconst 1, 1) := by decide +kernel
theorem dX13_fitsShort_16 : decode cX13_fitsShort 16 = .ok (.isub, 1) := by decide +kernel
theorem dX13_fitsShort_17 : decode cX13_fitsShort 17 = .ok (.istore_n 3, 1) := by decide +kernel
theorem dX13_fitsShort_18 : decode cX13_fitsShort 18 = .ok (.aload_n 0, 1) := by decide +kernel
theorem dX13_fitsShort_19 : decode cX13_fitsShort 19 = .ok (.getfield 88, 3) := by decide +kernel
theorem dX13_fitsShort_22 : decode cX13_fitsShort 22 = .ok (.iload_n 1, 1) := by decide +kernel
theorem dX13_fitsShort_23 : decode cX13_fitsShort 23 = .ok (.iaload, 1) := by decide +kernel
theorem dX13_fitsShort_24 : decode cX13_fitsShort 24 = .ok (.iconst 2, 1) := by decide +kernel
theorem dX13_fitsShort_25 : decode cX13_fitsShort 25 = .ok (.if_icmp .ne 16, 3) := by decide +kernel
theorem dX13_fitsShort_28 : decode cX13_fitsShort 28 = .ok (.iload_n 2, 1) := by decide +kernel
theorem dX13_fitsShort_29 : decode cX13_fitsShort 29 = .ok (.sipush (-256), 3) := by decide +kernel
theorem dX13_fitsShort_32 : decode cX13_fitsShort 32 = .ok (.sipush 255, 3) := by decide +kernel
theorem dX13_fitsShort_35 : decode cX13_fitsShort 35 = .ok (.invokestatic 168, 3) := by decide +kernel
theorem dX13_fitsShort_38 : decode cX13_fitsShort 38 = .ok (.goto 32, 3) := by decide +kernel
theorem dX13_fitsShort_41 : decode cX13_fitsShort 41 = .ok (.aload_n 0, 1) := by decide +kernel
theorem dX13_fitsShort_42 : decode cX13_fitsShort 42 = .ok (.getfield 88, 3) := by decide +kernel
theorem dX13_fitsShort_45 : decode cX13_fitsShort 45 = .ok (.iload_n 1, 1) := by decide +kernel
theorem dX13_fitsShort_46 : decode cX13_fitsShort 46 = .ok (.iaload, 1) := by decide +kernel
theorem dX13_fitsShort_47 : decode cX13_fitsShort 47 = .ok (.iconst 5, 1) := by decide +kernel
theorem dX13_fitsShort_48 : decode cX13_fitsShort 48 = .ok (.if_icmp .ne 14, 3) := by decide +kernel
theorem dX13_fitsShort_51 : decode cX13_fitsShort 51 = .ok (.iload_n 3, 1) := by decide +kernel
theorem dX13_fitsShort_52 : decode cX13_fitsShort 52 = .ok (.bipush (-32), 2) := by decide +kernel
theorem dX13_fitsShort_54 : decode cX13_fitsShort 54 = .ok (.bipush 31, 2) := by decide +kernel
theorem dX13_fitsShort_56 : decode cX13_fitsShort 56 = .ok (.invokestatic 168, 3) := by decide +kernel
theorem dX13_fitsShort_59 : decode cX13_fitsShort 59 = .ok (.goto 11, 3) := by decide +kernel
theorem dX13_fitsShort_62 : decode cX13_fitsShort 62 = .ok (.iload_n 3, 1) := by decide +kernel
theorem dX13_fitsShort_63 : decode cX13_fitsShort 63 = .ok (.bipush (-16), 2) := by decide +kernel
theorem dX13_fitsShort_65 : decode cX13_fitsShort 65 = .ok (.bipush 15, 2) := by decide +kernel
theorem dX13_fitsShort_67 : decode cX13_fitsShort 67 = .ok (.invokestatic 168, 3) := by decide +kernel
theorem dX13_fitsShort_70 : decode cX13_fitsShort 70 = .ok (.ireturn, 1) := by decide +kernel
theorem dX13_literalPlace_0 : decode cX13_literalPlace 0 = .ok (.aload_n 0, 1) := by decide +kernel
theorem dX13_literalPlace_1 : decode cX13_literalPlace 1 = .ok (.iload_n 1, 1) := by decide +kernel
theorem dX13_literalPlace_2 : decode cX13_literalPlace 2 = .ok (.invokevirtual 409, 3) := by decide +kernel
theorem dX13_literalPlace_5 : decode cX13_literalPlace 5 = .ok (.istore_n 2, 1) := by decide +kernel
theorem dX13_literalPlace_6 : decode cX13_literalPlace 6 = .ok (.iload_n 1, 1) := by decide +kernel
theorem dX13_literalPlace_7 : decode cX13_literalPlace 7 = .ok (.istore_n 3, 1) := by decide +kernel
theorem dX13_literalPlace_8 : decode cX13_literalPlace 8 = .ok (.iload_n 3, 1) := by decide +kernel
theorem dX13_literalPlace_9 : decode cX13_literalPlace 9 = .ok (.aload_n 0, 1) := by decide +kernel
theorem dX13_literalPlace_10 : decode cX13_literalPlace 10 = .ok (.getfield 217, 3) := by decide +kernel
theorem dX13_literalPlace_13 : decode cX13_literalPlace 13 = .ok (.if_icmp .ge 20, 3) := by decide +kernel
theorem dX13_literalPlace_16 : decode cX13_literalPlace 16 = .ok (.aload_n 0, 1) := by decide +kernel
theorem dX13_literalPlace_17 : decode cX13_literalPlace 17 = .ok (.getfield 88, 3) := by decide +kernel
theorem dX13_literalPlace_20 : decode cX13_literalPlace 20 = .ok (.iload_n 3, 1) := by decide +kernel
theorem dX13_literalPlace_21 : decode cX13_literalPlace 21 = .ok (.iaload, 1) := by decide +kernel
theorem dX13_literalPlace_22 : decode cX13_literalPlace 22 = .ok (.bipush 10, 2) := by decide +kernel
theorem dX13_literalPlace_24 : decode cX13_literalPlace 24 = .ok (.if_icmp .eq 9, 3) := by decide +kernel
theorem dX13_literalPlace_27 : decode cX13_literalPlace 27 = .ok (.iinc 3 1, 3) := by decide +kernel
theorem dX13_literalPlace_30 : decode cX13_literalPlace 30 = .ok (.goto (-22), 3) := by decide +kernel
theorem dX13_literalPlace_33 : decode cX13_literalPlace 33 = .ok (.iload_n 3, 1) := by decide +kernel
theorem dX13_literalPlace_34 : decode cX13_literalPlace 34 = .ok (.aload_n 0, 1) := by decide +kernel
theorem dX13_literalPlace_35 : decode cX13_literalPlace 35 = .ok (.getfield 217, 3) := by decide +kernel
theorem dX13_literalPlace_38 : decode cX13_literalPlace 38 = .ok (.if_icmp .ge 14, 3) := by decide +kernel
theorem dX13_literalPlace_41 : decode cX13_literalPlace 41 = .ok (.aload_n 0, 1) := by decide +kernel
theorem dX13_literalPlace_42 : decode cX13_literalPlace 42 = .ok (.getfield 113, 3) := by decide +kernel
theorem dX13_literalPlace_45 : decode cX13_literalPlace 45 = .ok (.iload_n 3, 1) := by decide +kernel
theorem dX13_literalPlace_46 : decode cX13_literalPlace 46 = .ok (.iaload, 1) := by decide +kernel
theorem dX13_literalPlace_47 : decode cX13_literalPlace 47 = .ok (.iload_n 2, 1) := by decide +kernel
theorem dX13_literalPlace_48 : decode cX13_literalPlace 48 = .ok (.iadd, 1) := by decide +kernel
theorem dX13_literalPlace_49 : decode cX13_literalPlace 49 = .ok (.goto 18, 3) := by decide +kernel
theorem dX13_literalPlace_52 : decode cX13_literalPlace 52 = .ok (.aload_n 0, 1) := by decide +kernel
theorem dX13_literalPlace_53 : decode cX13_literalPlace 53 = .ok (.getfield 415, 3) := by decide +kernel
theorem dX13_literalPlace_56 : decode cX13_literalPlace 56 = .ok (.aload_n 0, 1) := by decide +kernel
theorem dX13_literalPlace_57 : decode cX13_literalPlace 57 = .ok (.aload_n 0, 1) := by decide +kernel
theorem dX13_literalPlace_58 : decode cX13_literalPlace 58 = .ok (.getfield 217, 3) := by decide +kernel
theorem dX13_literalPlace_61 : decode cX13_literalPlace 61 = .ok (.invokevirtual 409, 3) := by decide +kernel
theorem dX13_literalPlace_64 : decode cX13_literalPlace 64 = .ok (.isub, 1) := by decide +kernel
theorem dX13_literalPlace_65 : decode cX13_literalPlace 65 = .ok (.iload_n 2, 1) := by decide +kernel
theorem dX13_literalPlace_66 : decode cX13_literalPlace 66 = .ok (.iadd, 1) := by decide +kernel
theorem dX13_literalPlace_67 : decode cX13_literalPlace 67 = .ok (.ireturn, 1) := by decide +kernel
theorem dX13_fits_0 : decode cX13_fits 0 = .ok (.aload_n 0, 1) := by decide +kernel
theorem dX13_fits_1 : decode cX13_fits 1 = .ok (.iload_n 1, 1) := by decide +kernel
theorem dX13_fits_2 : decode cX13_fits 2 = .ok (.iload_n 2, 1) := by decide +kernel
theorem dX13_fits_3 : decode cX13_fits 3 = .ok (.invokevirtual 418, 3) := by decide +kernel
theorem dX13_fits_6 : decode cX13_fits 6 = .ok (.istore_n 3, 1) := by decide +kernel
theorem dX13_fits_7 : decode cX13_fits 7 = .ok (.aload_n 0, 1) := by decide +kernel
theorem dX13_fits_8 : decode cX13_fits 8 = .ok (.iload_n 1, 1) := by decide +kernel
theorem dX13_fits_9 : decode cX13_fits 9 = .ok (.invokevirtual 428, 3) := by decide +kernel
theorem dX13_fits_12 : decode cX13_fits 12 = .ok (.ifCond .eq 14, 3) := by decide +kernel
theorem dX13_fits_15 : decode cX13_fits 15 = .ok (.aload_n 0, 1) := by decide +kernel
theorem dX13_fits_16 : decode cX13_fits 16 = .ok (.getfield 109, 3) := by decide +kernel
theorem dX13_fits_19 : decode cX13_fits 19 = .ok (.iload_n 1, 1) := by decide +kernel
theorem dX13_fits_20 : decode cX13_fits 20 = .ok (.baload, 1) := by decide +kernel
theorem dX13_fits_21 : decode cX13_fits 21 = .ok (.ifCond .ne 5, 3) := by decide +kernel
theorem dX13_fits_24 : decode cX13_fits 24 = .ok (.iconst 1, 1) := by decide +kernel
theorem dX13_fits_25 : decode cX13_fits 25 = .ok (.ireturn, 1) := by decide +kernel
theorem dX13_fits_26 : decode cX13_fits 26 = .ok (.aload_n 0, 1) := by decide +kernel
theorem dX13_fits_27 : decode cX13_fits 27 = .ok (.getfield 88, 3) := by decide +kernel
theorem dX13_fits_30 : decode cX13_fits 30 = .ok (.iload_n 1, 1) := by decide +kernel
theorem dX13_fits_31 : decode cX13_fits 31 = .ok (.iaload, 1) := by decide +kernel
theorem dX13_fits_32 : decode cX13_fits 32 = .ok (.iconst 5, 1) := by decide +kernel
theorem dX13_fits_33 : decode cX13_fits 33 = .ok (.if_icmp .eq 14, 3) := by decide +kernel
theorem dX13_fits_36 : decode cX13_fits 36 = .ok (.aload_n 0, 1) := by decide +kernel
theorem dX13_fits_37 : decode cX13_fits 37 = .ok (.getfield 88, 3) := by decide +kernel
theorem dX13_fits_40 : decode cX13_fits 40 = .ok (.iload_n 1, 1) := by decide +kernel
theorem dX13_fits_41 : decode cX13_fits 41 = .ok (.iaload, 1) := by decide +kernel
theorem dX13_fits_42 : decode cX13_fits 42 = .ok (.bipush 6, 2) := by decide +kernel
theorem dX13_fits_44 : decode cX13_fits 44 = .ok (.if_icmp .ne 12, 3) := by decide +kernel
theorem dX13_fits_47 : decode cX13_fits 47 = .ok (.iload_n 3, 1) := by decide +kernel
theorem dX13_fits_48 : decode cX13_fits 48 = .ok (.iconst 0, 1) := by decide +kernel
theorem dX13_fits_49 : decode cX13_fits 49 = .ok (.ldc_w 434, 3) := by decide +kernel
theorem dX13_fits_52 : decode cX13_fits 52 = .ok (.invokestatic 168, 3) := by decide +kernel
theorem dX13_fits_55 : decode cX13_fits 55 = .ok (.ireturn, 1) := by decide +kernel
theorem dX13_fits_56 : decode cX13_fits 56 = .ok (.iload_n 3, 1) := by decide +kernel
theorem dX13_fits_57 : decode cX13_fits 57 = .ok (.sipush (-32768), 3) := by decide +kernel
theorem dX13_fits_60 : decode cX13_fits 60 = .ok (.ldc_w 434, 3) := by decide +kernel
theorem dX13_fits_63 : decode cX13_fits 63 = .ok (.invokestatic 168, 3) := by decide +kernel
theorem dX13_fits_66 : decode cX13_fits 66 = .ok (.ifCond .ne 5, 3) := by decide +kernel
theorem dX13_fits_69 : decode cX13_fits 69 = .ok (.iconst 0, 1) := by decide +kernel
theorem dX13_fits_70 : decode cX13_fits 70 = .ok (.ireturn, 1) := by decide +kernel
theorem dX13_fits_71 : decode cX13_fits 71 = .ok (.aload_n 0, 1) := by decide +kernel
theorem dX13_fits_72 : decode cX13_fits 72 = .ok (.getfield 88, 3) := by decide +kernel
theorem dX13_fits_75 : decode cX13_fits 75 = .ok (.iload_n 1, 1) := by decide +kernel
theorem dX13_fits_76 : decode cX13_fits 76 = .ok (.iaload, 1) := by decide +kernel
theorem dX13_fits_77 : decode cX13_fits 77 = .ok (.bipush 7, 2) := by decide +kernel
theorem dX13_fits_79 : decode cX13_fits 79 = .ok (.if_icmp .ne 26, 3) := by decide +kernel
theorem dX13_fits_82 : decode cX13_fits 82 = .ok (.aload_n 0, 1) := by decide +kernel
theorem dX13_fits_83 : decode cX13_fits 83 = .ok (.iload_n 1, 1) := by decide +kernel
theorem dX13_fits_84 : decode cX13_fits 84 = .ok (.invokevirtual 435, 3) := by decide +kernel
theorem dX13_fits_87 : decode cX13_fits 87 = .ok (.aload_n 0, 1) := by decide +kernel
theorem dX13_fits_88 : decode cX13_fits 88 = .ok (.getfield 113, 3) := by decide +kernel
theorem dX13_fits_91 : decode cX13_fits 91 = .ok (.iload_n 1, 1) := by decide +kernel
theorem dX13_fits_92 : decode cX13_fits 92 = .ok (.iaload, 1) := by decide +kernel
theorem dX13_fits_93 : decode cX13_fits 93 = .ok (.isub, 1) := by decide +kernel
theorem dX13_fits_94 : decode cX13_fits 94 = .ok (.iconst 1, 1) := by decide +kernel
theorem dX13_fits_95 : decode cX13_fits 95 = .ok (.isub, 1) := by decide +kernel
theorem dX13_fits_96 : decode cX13_fits 96 = .ok (.iconst 0, 1) := by decide +kernel
theorem dX13_fits_97 : decode cX13_fits 97 = .ok (.bipush 63, 2) := by decide +kernel
theorem dX13_fits_99 : decode cX13_fits 99 = .ok (.invokestatic 168, 3) := by decide +kernel
theorem dX13_fits_102 : decode cX13_fits 102 = .ok (.ifCond .eq 7, 3) := by decide +kernel
theorem dX13_fits_105 : decode cX13_fits 105 = .ok (.iconst 1, 1) := by decide +kernel
theorem dX13_fits_106 : decode cX13_fits 106 = .ok (.goto 4, 3) := by decide +kernel
theorem dX13_fits_109 : decode cX13_fits 109 = .ok (.iconst 0, 1) := by decide +kernel
theorem dX13_fits_110 : decode cX13_fits 110 = .ok (.ireturn, 1) := by decide +kernel
theorem dX13_sayLong_0 : decode cX13_sayLong 0 = .ok (.aload_n 0, 1) := by decide +kernel
theorem dX13_sayLong_1 : decode cX13_sayLong 1 = .ok (.iload_n 1, 1) := by decide +kernel
theorem dX13_sayLong_2 : decode cX13_sayLong 2 = .ok (.bipush 12, 2) := by decide +kernel
theorem dX13_sayLong_4 : decode cX13_sayLong 4 = .ok (.ishl, 1) := by decide +kernel
theorem dX13_sayLong_5 : decode cX13_sayLong 5 = .ok (.aload_n 0, 1) := by decide +kernel
theorem dX13_sayLong_6 : decode cX13_sayLong 6 = .ok (.getfield 91, 3) := by decide +kernel
theorem dX13_sayLong_9 : decode cX13_sayLong 9 = .ok (.iload_n 2, 1) := by decide +kernel
theorem dX13_sayLong_10 : decode cX13_sayLong 10 = .ok (.iaload, 1) := by decide +kernel
theorem dX13_sayLong_11 : decode cX13_sayLong 11 = .ok (.bipush 9, 2) := by decide +kernel
theorem dX13_sayLong_13 : decode cX13_sayLong 13 = .ok (.ishl, 1) := by decide +kernel
theorem dX13_sayLong_14 : decode cX13_sayLong 14 = .ok (.ior, 1) := by decide +kernel
theorem dX13_sayLong_15 : decode cX13_sayLong 15 = .ok (.invokevirtual 444, 3) := by decide +kernel
theorem dX13_sayLong_18 : decode cX13_sayLong 18 = .ok (.aload_n 0, 1) := by decide +kernel
theorem dX13_sayLong_19 : decode cX13_sayLong 19 = .ok (.aload_n 0, 1) := by decide +kernel
theorem dX13_sayLong_20 : decode cX13_sayLong 20 = .ok (.iload_n 2, 1) := by decide +kernel
theorem dX13_sayLong_21 : decode cX13_sayLong 21 = .ok (.iconst 0, 1) := by decide +kernel
theorem dX13_sayLong_22 : decode cX13_sayLong 22 = .ok (.invokevirtual 418, 3) := by decide +kernel
theorem dX13_sayLong_25 : decode cX13_sayLong 25 = .ok (.invokevirtual 444, 3) := by decide +kernel
theorem dX13_sayLong_28 : decode cX13_sayLong 28 = .ok (.return_, 1) := by decide +kernel

