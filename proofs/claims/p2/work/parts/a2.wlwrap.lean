set_option maxRecDepth 20000 in
theorem w_3_41 : (Jvm.Cond.classLink "AssembleLinesLaw" (19 : Nat) "java/lang/IllegalArgumentException") ∈ b_Ws := bw_3 (List.mem_of_getElem? (i := 41) rfl) rfl
set_option maxRecDepth 20000 in
theorem w_3_42 : (Jvm.Cond.methodLink "AssembleLinesLaw" (15 : Nat) ({ cls := "AssembleLines", name := "end", desc := "(I)I" } : Jvm.MethodName)) ∈ b_Ws := bw_3 (List.mem_of_getElem? (i := 42) rfl) rfl
set_option maxRecDepth 20000 in
theorem w_3_43 : (Jvm.Cond.instanceMethod ({ cls := "AssembleLines", name := "end", desc := "(I)I" } : Jvm.MethodName)) ∈ b_Ws := bw_3 (List.mem_of_getElem? (i := 43) rfl) rfl
set_option maxRecDepth 20000 in
theorem w_3_44 : (Jvm.Cond.selects "AssembleLines" ({ cls := "AssembleLines", name := "end", desc := "(I)I" } : Jvm.MethodName) ({ cls := "AssembleLines", name := "end", desc := "(I)I" } : Jvm.MethodName)) ∈ b_Ws := bw_3 (List.mem_of_getElem? (i := 44) rfl) rfl
set_option maxRecDepth 20000 in
theorem w_3_45 : (Jvm.Cond.code ({ cls := "AssembleLines", name := "end", desc := "(I)I" } : Jvm.MethodName) prog_1_method_3_code (2 : Nat) (Option.some Jvm.ClassFile.FieldType.int)) ∈ b_Ws := bw_3 (List.mem_of_getElem? (i := 45) rfl) rfl
set_option maxRecDepth 20000 in
theorem w_3_66 : (Jvm.Cond.methodLink "AssembleLinesLaw" (21 : Nat) ({ cls := "AssembleLines", name := "assemble", desc := "()I" } : Jvm.MethodName)) ∈ b_Ws := bw_3 (List.mem_of_getElem? (i := 66) rfl) rfl
set_option maxRecDepth 20000 in
theorem w_3_67 : (Jvm.Cond.instanceMethod ({ cls := "AssembleLines", name := "assemble", desc := "()I" } : Jvm.MethodName)) ∈ b_Ws := bw_3 (List.mem_of_getElem? (i := 67) rfl) rfl
set_option maxRecDepth 20000 in
theorem w_3_68 : (Jvm.Cond.selects "AssembleLines" ({ cls := "AssembleLines", name := "assemble", desc := "()I" } : Jvm.MethodName) ({ cls := "AssembleLines", name := "assemble", desc := "()I" } : Jvm.MethodName)) ∈ b_Ws := bw_3 (List.mem_of_getElem? (i := 68) rfl) rfl
set_option maxRecDepth 20000 in
theorem w_3_69 : (Jvm.Cond.code ({ cls := "AssembleLines", name := "assemble", desc := "()I" } : Jvm.MethodName) prog_1_method_4_code (1 : Nat) (Option.some Jvm.ClassFile.FieldType.int)) ∈ b_Ws := bw_3 (List.mem_of_getElem? (i := 69) rfl) rfl
set_option maxRecDepth 20000 in
theorem w_5_113 : (Jvm.Cond.classLink "AssembleLinesLaw" (29 : Nat) "java/lang/IndexOutOfBoundsException") ∈ b_Ws := bw_5 (List.mem_of_getElem? (i := 113) rfl) rfl
set_option maxRecDepth 20000 in
theorem w_5_114 : (Jvm.Cond.methodLink "AssembleLinesLaw" (25 : Nat) ({ cls := "AssembleLines", name := "error", desc := "(II)I" } : Jvm.MethodName)) ∈ b_Ws := bw_5 (List.mem_of_getElem? (i := 114) rfl) rfl
set_option maxRecDepth 20000 in
theorem w_5_115 : (Jvm.Cond.instanceMethod ({ cls := "AssembleLines", name := "error", desc := "(II)I" } : Jvm.MethodName)) ∈ b_Ws := bw_5 (List.mem_of_getElem? (i := 115) rfl) rfl
set_option maxRecDepth 20000 in
theorem w_5_116 : (Jvm.Cond.selects "AssembleLines" ({ cls := "AssembleLines", name := "error", desc := "(II)I" } : Jvm.MethodName) ({ cls := "AssembleLines", name := "error", desc := "(II)I" } : Jvm.MethodName)) ∈ b_Ws := bw_5 (List.mem_of_getElem? (i := 116) rfl) rfl
set_option maxRecDepth 20000 in
theorem w_5_117 : (Jvm.Cond.code ({ cls := "AssembleLines", name := "error", desc := "(II)I" } : Jvm.MethodName) prog_1_method_5_code (3 : Nat) (Option.some Jvm.ClassFile.FieldType.int)) ∈ b_Ws := bw_5 (List.mem_of_getElem? (i := 117) rfl) rfl
set_option maxRecDepth 20000 in
theorem w_5_137 : (Jvm.Cond.methodLink "AssembleLinesLaw" (31 : Nat) ({ cls := "AssembleLines", name := "word", desc := "(I)I" } : Jvm.MethodName)) ∈ b_Ws := bw_5 (List.mem_of_getElem? (i := 137) rfl) rfl
set_option maxRecDepth 20000 in
theorem w_5_138 : (Jvm.Cond.instanceMethod ({ cls := "AssembleLines", name := "word", desc := "(I)I" } : Jvm.MethodName)) ∈ b_Ws := bw_5 (List.mem_of_getElem? (i := 138) rfl) rfl
set_option maxRecDepth 20000 in
theorem w_5_139 : (Jvm.Cond.selects "AssembleLines" ({ cls := "AssembleLines", name := "word", desc := "(I)I" } : Jvm.MethodName) ({ cls := "AssembleLines", name := "word", desc := "(I)I" } : Jvm.MethodName)) ∈ b_Ws := bw_5 (List.mem_of_getElem? (i := 139) rfl) rfl
set_option maxRecDepth 20000 in
theorem w_5_140 : (Jvm.Cond.code ({ cls := "AssembleLines", name := "word", desc := "(I)I" } : Jvm.MethodName) prog_1_method_6_code (2 : Nat) (Option.some Jvm.ClassFile.FieldType.int)) ∈ b_Ws := bw_5 (List.mem_of_getElem? (i := 140) rfl) rfl
set_option maxRecDepth 20000 in
theorem w_5_169 : (Jvm.Cond.methodLink "AssembleLinesLaw" (34 : Nat) ({ cls := "AssembleLines", name := "statement", desc := "(II)I" } : Jvm.MethodName)) ∈ b_Ws := bw_5 (List.mem_of_getElem? (i := 169) rfl) rfl
set_option maxRecDepth 20000 in
theorem w_5_170 : (Jvm.Cond.instanceMethod ({ cls := "AssembleLines", name := "statement", desc := "(II)I" } : Jvm.MethodName)) ∈ b_Ws := bw_5 (List.mem_of_getElem? (i := 170) rfl) rfl
set_option maxRecDepth 20000 in
theorem w_5_171 : (Jvm.Cond.selects "AssembleLines" ({ cls := "AssembleLines", name := "statement", desc := "(II)I" } : Jvm.MethodName) ({ cls := "AssembleLines", name := "statement", desc := "(II)I" } : Jvm.MethodName)) ∈ b_Ws := bw_5 (List.mem_of_getElem? (i := 171) rfl) rfl
set_option maxRecDepth 20000 in
theorem w_5_172 : (Jvm.Cond.code ({ cls := "AssembleLines", name := "statement", desc := "(II)I" } : Jvm.MethodName) prog_1_method_7_code (3 : Nat) (Option.some Jvm.ClassFile.FieldType.int)) ∈ b_Ws := bw_5 (List.mem_of_getElem? (i := 172) rfl) rfl
set_option maxRecDepth 20000 in
theorem w_5_181 : (Jvm.Cond.methodLink "AssembleLinesLaw" (37 : Nat) ({ cls := "AssembleLines", name := "name", desc := "(II)I" } : Jvm.MethodName)) ∈ b_Ws := bw_5 (List.mem_of_getElem? (i := 181) rfl) rfl
set_option maxRecDepth 20000 in
theorem w_5_182 : (Jvm.Cond.instanceMethod ({ cls := "AssembleLines", name := "name", desc := "(II)I" } : Jvm.MethodName)) ∈ b_Ws := bw_5 (List.mem_of_getElem? (i := 182) rfl) rfl
set_option maxRecDepth 20000 in
theorem w_5_183 : (Jvm.Cond.selects "AssembleLines" ({ cls := "AssembleLines", name := "name", desc := "(II)I" } : Jvm.MethodName) ({ cls := "AssembleLines", name := "name", desc := "(II)I" } : Jvm.MethodName)) ∈ b_Ws := bw_5 (List.mem_of_getElem? (i := 183) rfl) rfl
set_option maxRecDepth 20000 in
theorem w_5_184 : (Jvm.Cond.code ({ cls := "AssembleLines", name := "name", desc := "(II)I" } : Jvm.MethodName) prog_1_method_8_code (6 : Nat) (Option.some Jvm.ClassFile.FieldType.int)) ∈ b_Ws := bw_5 (List.mem_of_getElem? (i := 184) rfl) rfl
theorem dL_error_0 : decode cL_error 0 = .ok (.aload_n 3, 1) := by decide +kernel
theorem dL_error_1 : decode cL_error 1 = .ok (.iconst 0, 1) := by decide +kernel
theorem dL_error_2 : decode cL_error 2 = .ok (.aload_n 0, 1) := by decide +kernel
theorem dL_error_3 : decode cL_error 3 = .ok (.iload_n 1, 1) := by decide +kernel
theorem dL_error_4 : decode cL_error 4 = .ok (.iload_n 2, 1) := by decide +kernel
theorem dL_error_5 : decode cL_error 5 = .ok (.invokevirtual 25, 3) := by decide +kernel
theorem dL_error_8 : decode cL_error 8 = .ok (.i2l, 1) := by decide +kernel
theorem dL_error_9 : decode cL_error 9 = .ok (.lastore, 1) := by decide +kernel
theorem dL_error_10 : decode cL_error 10 = .ok (.goto 7, 3) := by decide +kernel
theorem dL_error_13 : decode cL_error 13 = .ok (.astore 4, 2) := by decide +kernel
theorem dL_error_15 : decode cL_error 15 = .ok (.iconst 1, 1) := by decide +kernel
theorem dL_error_16 : decode cL_error 16 = .ok (.ireturn, 1) := by decide +kernel
theorem dL_error_17 : decode cL_error 17 = .ok (.iconst 0, 1) := by decide +kernel
theorem dL_error_18 : decode cL_error 18 = .ok (.ireturn, 1) := by decide +kernel
theorem dL_word_0 : decode cL_word 0 = .ok (.aload_n 2, 1) := by decide +kernel
theorem dL_word_1 : decode cL_word 1 = .ok (.iconst 0, 1) := by decide +kernel
theorem dL_word_2 : decode cL_word 2 = .ok (.aload_n 0, 1) := by decide +kernel
theorem dL_word_3 : decode cL_word 3 = .ok (.iload_n 1, 1) := by decide +kernel
theorem dL_word_4 : decode cL_word 4 = .ok (.invokevirtual 31, 3) := by decide +kernel
theorem dL_word_7 : decode cL_word 7 = .ok (.i2l, 1) := by decide +kernel
theorem dL_word_8 : decode cL_word 8 = .ok (.lastore, 1) := by decide +kernel
theorem dL_word_9 : decode cL_word 9 = .ok (.goto 6, 3) := by decide +kernel
theorem dL_word_12 : decode cL_word 12 = .ok (.astore_n 3, 1) := by decide +kernel
theorem dL_word_13 : decode cL_word 13 = .ok (.iconst 1, 1) := by decide +kernel
theorem dL_word_14 : decode cL_word 14 = .ok (.ireturn, 1) := by decide +kernel
theorem dL_word_15 : decode cL_word 15 = .ok (.iconst 0, 1) := by decide +kernel
theorem dL_word_16 : decode cL_word 16 = .ok (.ireturn, 1) := by decide +kernel
theorem dL_statement_0 : decode cL_statement 0 = .ok (.aload_n 3, 1) := by decide +kernel
theorem dL_statement_1 : decode cL_statement 1 = .ok (.iconst 0, 1) := by decide +kernel
theorem dL_statement_2 : decode cL_statement 2 = .ok (.aload_n 0, 1) := by decide +kernel
theorem dL_statement_3 : decode cL_statement 3 = .ok (.iload_n 1, 1) := by decide +kernel
theorem dL_statement_4 : decode cL_statement 4 = .ok (.iload_n 2, 1) := by decide +kernel
theorem dL_statement_5 : decode cL_statement 5 = .ok (.invokevirtual 34, 3) := by decide +kernel
theorem dL_statement_8 : decode cL_statement 8 = .ok (.i2l, 1) := by decide +kernel
theorem dL_statement_9 : decode cL_statement 9 = .ok (.lastore, 1) := by decide +kernel
theorem dL_statement_10 : decode cL_statement 10 = .ok (.goto 7, 3) := by decide +kernel
theorem dL_statement_13 : decode cL_statement 13 = .ok (.astore 4, 2) := by decide +kernel
theorem dL_statement_15 : decode cL_statement 15 = .ok (.iconst 1, 1) := by decide +kernel
theorem dL_statement_16 : decode cL_statement 16 = .ok (.ireturn, 1) := by decide +kernel
theorem dL_statement_17 : decode cL_statement 17 = .ok (.iconst 0, 1) := by decide +kernel
theorem dL_statement_18 : decode cL_statement 18 = .ok (.ireturn, 1) := by decide +kernel
theorem dL_name_0 : decode cL_name 0 = .ok (.aload_n 3, 1) := by decide +kernel
theorem dL_name_1 : decode cL_name 1 = .ok (.iconst 0, 1) := by decide +kernel
theorem dL_name_2 : decode cL_name 2 = .ok (.aload_n 0, 1) := by decide +kernel
theorem dL_name_3 : decode cL_name 3 = .ok (.iload_n 1, 1) := by decide +kernel
theorem dL_name_4 : decode cL_name 4 = .ok (.iload_n 2, 1) := by decide +kernel
theorem dL_name_5 : decode cL_name 5 = .ok (.invokevirtual 37, 3) := by decide +kernel
theorem dL_name_8 : decode cL_name 8 = .ok (.i2l, 1) := by decide +kernel
theorem dL_name_9 : decode cL_name 9 = .ok (.lastore, 1) := by decide +kernel
theorem dL_name_10 : decode cL_name 10 = .ok (.goto 7, 3) := by decide +kernel
theorem dL_name_13 : decode cL_name 13 = .ok (.astore 4, 2) := by decide +kernel
theorem dL_name_15 : decode cL_name 15 = .ok (.iconst 1, 1) := by decide +kernel
theorem dL_name_16 : decode cL_name 16 = .ok (.ireturn, 1) := by decide +kernel
theorem dL_name_17 : decode cL_name 17 = .ok (.iconst 0, 1) := by decide +kernel
theorem dL_name_18 : decode cL_name 18 = .ok (.ireturn, 1) := by decide +kernel
theorem dL_end_0 : decode cL_end 0 = .ok (.aload_n 2, 1) := by decide +kernel
theorem dL_end_1 : decode cL_end 1 = .ok (.iconst 0, 1) := by decide +kernel
theorem dL_end_2 : decode cL_end 2 = .ok (.aload_n 0, 1) := by decide +kernel
theorem dL_end_3 : decode cL_end 3 = .ok (.iload_n 1, 1) := by decide +kernel
theorem dL_end_4 : decode cL_end 4 = .ok (.invokevirtual 15, 3) := by decide +kernel
theorem dL_end_7 : decode cL_end 7 = .ok (.i2l, 1) := by decide +kernel
theorem dL_end_8 : decode cL_end 8 = .ok (.lastore, 1) := by decide +kernel
theorem dL_end_9 : decode cL_end 9 = .ok (.goto 9, 3) := by decide +kernel
theorem dL_end_12 : decode cL_end 12 = .ok (.astore_n 3, 1) := by decide +kernel
theorem dL_end_13 : decode cL_end 13 = .ok (.iconst 1, 1) := by decide +kernel
theorem dL_end_14 : decode cL_end 14 = .ok (.ireturn, 1) := by decide +kernel
theorem dL_end_15 : decode cL_end 15 = .ok (.astore_n 3, 1) := by decide +kernel
theorem dL_end_16 : decode cL_end 16 = .ok (.iconst 2, 1) := by decide +kernel
theorem dL_end_17 : decode cL_end 17 = .ok (.ireturn, 1) := by decide +kernel
theorem dL_end_18 : decode cL_end 18 = .ok (.iconst 0, 1) := by decide +kernel
theorem dL_end_19 : decode cL_end 19 = .ok (.ireturn, 1) := by decide +kernel
theorem dL_assemble_0 : decode cL_assemble 0 = .ok (.aload_n 1, 1) := by decide +kernel
theorem dL_assemble_1 : decode cL_assemble 1 = .ok (.iconst 0, 1) := by decide +kernel
theorem dL_assemble_2 : decode cL_assemble 2 = .ok (.aload_n 0, 1) := by decide +kernel
theorem dL_assemble_3 : decode cL_assemble 3 = .ok (.invokevirtual 21, 3) := by decide +kernel
theorem dL_assemble_6 : decode cL_assemble 6 = .ok (.i2l, 1) := by decide +kernel
theorem dL_assemble_7 : decode cL_assemble 7 = .ok (.lastore, 1) := by decide +kernel
theorem dL_assemble_8 : decode cL_assemble 8 = .ok (.goto 6, 3) := by decide +kernel
theorem dL_assemble_11 : decode cL_assemble 11 = .ok (.astore_n 2, 1) := by decide +kernel
theorem dL_assemble_12 : decode cL_assemble 12 = .ok (.iconst 1, 1) := by decide +kernel
theorem dL_assemble_13 : decode cL_assemble 13 = .ok (.ireturn, 1) := by decide +kernel
theorem dL_assemble_14 : decode cL_assemble 14 = .ok (.iconst 0, 1) := by decide +kernel
theorem dL_assemble_15 : decode cL_assemble 15 = .ok (.ireturn, 1) := by decide +kernel

