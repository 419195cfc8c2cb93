set_option maxRecDepth 20000 in
theorem w_1_22 : (Jvm.Cond.initialized "java/lang/String") ∈ b_Ws := bw_1 (List.mem_of_getElem? (i := 22) rfl) rfl
set_option maxRecDepth 20000 in
theorem w_1_23 : (Jvm.Cond.initialized "java/lang/StringLatin1") ∈ b_Ws := bw_1 (List.mem_of_getElem? (i := 23) rfl) rfl
set_option maxRecDepth 20000 in
theorem w_1_24 : (Jvm.Cond.initialized "jdk/internal/util/Preconditions") ∈ b_Ws := bw_1 (List.mem_of_getElem? (i := 24) rfl) rfl
set_option maxRecDepth 20000 in
theorem w_3_187 : (Jvm.Cond.fieldLink "AssembleLines$Operation" (94 : Nat) "AssembleLines$Operation" "ALL" "[LAssembleLines$Operation;") ∈ b_Ws := bw_3 (List.mem_of_getElem? (i := 187) rfl) rfl
set_option maxRecDepth 20000 in
theorem w_3_189 : (Jvm.Cond.methodLink "AssembleLines$Operation" (97 : Nat) ({ cls := "java/lang/String", name := "isEmpty", desc := "()Z" } : Jvm.MethodName)) ∈ b_Ws := bw_3 (List.mem_of_getElem? (i := 189) rfl) rfl
set_option maxRecDepth 20000 in
theorem w_3_190 : (Jvm.Cond.instanceMethod ({ cls := "java/lang/String", name := "isEmpty", desc := "()Z" } : Jvm.MethodName)) ∈ b_Ws := bw_3 (List.mem_of_getElem? (i := 190) rfl) rfl
set_option maxRecDepth 20000 in
theorem w_3_191 : (Jvm.Cond.selects "java/lang/String" ({ cls := "java/lang/String", name := "isEmpty", desc := "()Z" } : Jvm.MethodName) ({ cls := "java/lang/String", name := "isEmpty", desc := "()Z" } : Jvm.MethodName)) ∈ b_Ws := bw_3 (List.mem_of_getElem? (i := 191) rfl) rfl
set_option maxRecDepth 20000 in
theorem w_3_192 : (Jvm.Cond.code ({ cls := "java/lang/String", name := "isEmpty", desc := "()Z" } : Jvm.MethodName) prog_24_method_55_code (1 : Nat) (Option.some Jvm.ClassFile.FieldType.boolean)) ∈ b_Ws := bw_3 (List.mem_of_getElem? (i := 192) rfl) rfl
set_option maxRecDepth 20000 in
theorem w_3_193 : (Jvm.Cond.methodLink "AssembleLines$Operation" (103 : Nat) ({ cls := "AssembleLines$Scanner", name := "spells", desc := "(Ljava/lang/String;)Z" } : Jvm.MethodName)) ∈ b_Ws := bw_3 (List.mem_of_getElem? (i := 193) rfl) rfl
set_option maxRecDepth 20000 in
theorem w_3_194 : (Jvm.Cond.instanceMethod ({ cls := "AssembleLines$Scanner", name := "spells", desc := "(Ljava/lang/String;)Z" } : Jvm.MethodName)) ∈ b_Ws := bw_3 (List.mem_of_getElem? (i := 194) rfl) rfl
set_option maxRecDepth 20000 in
theorem w_3_195 : (Jvm.Cond.selects "AssembleLines$Scanner" ({ cls := "AssembleLines$Scanner", name := "spells", desc := "(Ljava/lang/String;)Z" } : Jvm.MethodName) ({ cls := "AssembleLines$Scanner", name := "spells", desc := "(Ljava/lang/String;)Z" } : Jvm.MethodName)) ∈ b_Ws := bw_3 (List.mem_of_getElem? (i := 195) rfl) rfl
set_option maxRecDepth 20000 in
theorem w_3_196 : (Jvm.Cond.code ({ cls := "AssembleLines$Scanner", name := "spells", desc := "(Ljava/lang/String;)Z" } : Jvm.MethodName) prog_11_method_18_code (3 : Nat) (Option.some Jvm.ClassFile.FieldType.boolean)) ∈ b_Ws := bw_3 (List.mem_of_getElem? (i := 196) rfl) rfl
set_option maxRecDepth 20000 in
theorem w_3_197 : (Jvm.Cond.methodLink "AssembleLines$Scanner" (63 : Nat) ({ cls := "java/lang/String", name := "length", desc := "()I" } : Jvm.MethodName)) ∈ b_Ws := bw_3 (List.mem_of_getElem? (i := 197) rfl) rfl
set_option maxRecDepth 20000 in
theorem w_3_198 : (Jvm.Cond.instanceMethod ({ cls := "java/lang/String", name := "length", desc := "()I" } : Jvm.MethodName)) ∈ b_Ws := bw_3 (List.mem_of_getElem? (i := 198) rfl) rfl
set_option maxRecDepth 20000 in
theorem w_3_199 : (Jvm.Cond.selects "java/lang/String" ({ cls := "java/lang/String", name := "length", desc := "()I" } : Jvm.MethodName) ({ cls := "java/lang/String", name := "length", desc := "()I" } : Jvm.MethodName)) ∈ b_Ws := bw_3 (List.mem_of_getElem? (i := 199) rfl) rfl
set_option maxRecDepth 20000 in
theorem w_3_200 : (Jvm.Cond.code ({ cls := "java/lang/String", name := "length", desc := "()I" } : Jvm.MethodName) prog_24_method_54_code (1 : Nat) (Option.some Jvm.ClassFile.FieldType.int)) ∈ b_Ws := bw_3 (List.mem_of_getElem? (i := 200) rfl) rfl
set_option maxRecDepth 20000 in
theorem w_3_201 : (Jvm.Cond.methodLink "java/lang/String" (335 : Nat) ({ cls := "java/lang/String", name := "coder", desc := "()B" } : Jvm.MethodName)) ∈ b_Ws := bw_3 (List.mem_of_getElem? (i := 201) rfl) rfl
set_option maxRecDepth 20000 in
theorem w_3_202 : (Jvm.Cond.instanceMethod ({ cls := "java/lang/String", name := "coder", desc := "()B" } : Jvm.MethodName)) ∈ b_Ws := bw_3 (List.mem_of_getElem? (i := 202) rfl) rfl
set_option maxRecDepth 20000 in
theorem w_3_203 : (Jvm.Cond.selects "java/lang/String" ({ cls := "java/lang/String", name := "coder", desc := "()B" } : Jvm.MethodName) ({ cls := "java/lang/String", name := "coder", desc := "()B" } : Jvm.MethodName)) ∈ b_Ws := bw_3 (List.mem_of_getElem? (i := 203) rfl) rfl
set_option maxRecDepth 20000 in
theorem w_3_204 : (Jvm.Cond.code ({ cls := "java/lang/String", name := "coder", desc := "()B" } : Jvm.MethodName) prog_24_method_152_code (1 : Nat) (Option.some Jvm.ClassFile.FieldType.byte)) ∈ b_Ws := bw_3 (List.mem_of_getElem? (i := 204) rfl) rfl
set_option maxRecDepth 20000 in
theorem w_3_205 : (Jvm.Cond.fieldLink "java/lang/String" (38 : Nat) "java/lang/String" "COMPACT_STRINGS" "Z") ∈ b_Ws := bw_3 (List.mem_of_getElem? (i := 205) rfl) rfl
set_option maxRecDepth 20000 in
theorem w_3_207 : (Jvm.Cond.methodLink "AssembleLines$Scanner" (69 : Nat) ({ cls := "java/lang/String", name := "charAt", desc := "(I)C" } : Jvm.MethodName)) ∈ b_Ws := bw_3 (List.mem_of_getElem? (i := 207) rfl) rfl
set_option maxRecDepth 20000 in
theorem w_3_208 : (Jvm.Cond.instanceMethod ({ cls := "java/lang/String", name := "charAt", desc := "(I)C" } : Jvm.MethodName)) ∈ b_Ws := bw_3 (List.mem_of_getElem? (i := 208) rfl) rfl
set_option maxRecDepth 20000 in
theorem w_3_209 : (Jvm.Cond.selects "java/lang/String" ({ cls := "java/lang/String", name := "charAt", desc := "(I)C" } : Jvm.MethodName) ({ cls := "java/lang/String", name := "charAt", desc := "(I)C" } : Jvm.MethodName)) ∈ b_Ws := bw_3 (List.mem_of_getElem? (i := 209) rfl) rfl
set_option maxRecDepth 20000 in
theorem w_3_210 : (Jvm.Cond.code ({ cls := "java/lang/String", name := "charAt", desc := "(I)C" } : Jvm.MethodName) prog_24_method_56_code (2 : Nat) (Option.some Jvm.ClassFile.FieldType.char)) ∈ b_Ws := bw_3 (List.mem_of_getElem? (i := 210) rfl) rfl
set_option maxRecDepth 20000 in
theorem w_3_211 : (Jvm.Cond.methodLink "java/lang/String" (492 : Nat) ({ cls := "java/lang/String", name := "isLatin1", desc := "()Z" } : Jvm.MethodName)) ∈ b_Ws := bw_3 (List.mem_of_getElem? (i := 211) rfl) rfl
set_option maxRecDepth 20000 in
theorem w_3_212 : (Jvm.Cond.instanceMethod ({ cls := "java/lang/String", name := "isLatin1", desc := "()Z" } : Jvm.MethodName)) ∈ b_Ws := bw_3 (List.mem_of_getElem? (i := 212) rfl) rfl
set_option maxRecDepth 20000 in
theorem w_3_213 : (Jvm.Cond.selects "java/lang/String" ({ cls := "java/lang/String", name := "isLatin1", desc := "()Z" } : Jvm.MethodName) ({ cls := "java/lang/String", name := "isLatin1", desc := "()Z" } : Jvm.MethodName)) ∈ b_Ws := bw_3 (List.mem_of_getElem? (i := 213) rfl) rfl
set_option maxRecDepth 20000 in
theorem w_3_214 : (Jvm.Cond.code ({ cls := "java/lang/String", name := "isLatin1", desc := "()Z" } : Jvm.MethodName) prog_24_method_154_code (1 : Nat) (Option.some Jvm.ClassFile.FieldType.boolean)) ∈ b_Ws := bw_3 (List.mem_of_getElem? (i := 214) rfl) rfl
set_option maxRecDepth 20000 in
theorem w_3_215 : (Jvm.Cond.methodLink "java/lang/String" (495 : Nat) ({ cls := "java/lang/StringLatin1", name := "charAt", desc := "([BI)C" } : Jvm.MethodName)) ∈ b_Ws := bw_3 (List.mem_of_getElem? (i := 215) rfl) rfl
set_option maxRecDepth 20000 in
theorem w_3_216 : (Jvm.Cond.static ({ cls := "java/lang/StringLatin1", name := "charAt", desc := "([BI)C" } : Jvm.MethodName)) ∈ b_Ws := bw_3 (List.mem_of_getElem? (i := 216) rfl) rfl
set_option maxRecDepth 20000 in
theorem w_3_217 : (Jvm.Cond.code ({ cls := "java/lang/StringLatin1", name := "charAt", desc := "([BI)C" } : Jvm.MethodName) prog_25_method_2_code (2 : Nat) (Option.some Jvm.ClassFile.FieldType.char)) ∈ b_Ws := bw_3 (List.mem_of_getElem? (i := 217) rfl) rfl
set_option maxRecDepth 20000 in
theorem w_3_218 : (Jvm.Cond.methodLink "java/lang/StringLatin1" (9 : Nat) ({ cls := "java/lang/String", name := "checkIndex", desc := "(II)V" } : Jvm.MethodName)) ∈ b_Ws := bw_3 (List.mem_of_getElem? (i := 218) rfl) rfl
set_option maxRecDepth 20000 in
theorem w_3_219 : (Jvm.Cond.static ({ cls := "java/lang/String", name := "checkIndex", desc := "(II)V" } : Jvm.MethodName)) ∈ b_Ws := bw_3 (List.mem_of_getElem? (i := 219) rfl) rfl
set_option maxRecDepth 20000 in
theorem w_3_220 : (Jvm.Cond.code ({ cls := "java/lang/String", name := "checkIndex", desc := "(II)V" } : Jvm.MethodName) prog_24_method_155_code (2 : Nat) (Option.none : Option Jvm.ClassFile.FieldType)) ∈ b_Ws := bw_3 (List.mem_of_getElem? (i := 220) rfl) rfl
set_option maxRecDepth 20000 in
theorem w_3_221 : (Jvm.Cond.fieldLink "java/lang/String" (1053 : Nat) "jdk/internal/util/Preconditions" "SIOOBE_FORMATTER" "Ljava/util/function/BiFunction;") ∈ b_Ws := bw_3 (List.mem_of_getElem? (i := 221) rfl) rfl
set_option maxRecDepth 20000 in
theorem w_3_223 : (Jvm.Cond.methodLink "java/lang/String" (1059 : Nat) ({ cls := "jdk/internal/util/Preconditions", name := "checkIndex", desc := "(IILjava/util/function/BiFunction;)I" } : Jvm.MethodName)) ∈ b_Ws := bw_3 (List.mem_of_getElem? (i := 223) rfl) rfl
set_option maxRecDepth 20000 in
theorem w_3_224 : (Jvm.Cond.static ({ cls := "jdk/internal/util/Preconditions", name := "checkIndex", desc := "(IILjava/util/function/BiFunction;)I" } : Jvm.MethodName)) ∈ b_Ws := bw_3 (List.mem_of_getElem? (i := 224) rfl) rfl
set_option maxRecDepth 20000 in
theorem w_3_225 : (Jvm.Cond.code ({ cls := "jdk/internal/util/Preconditions", name := "checkIndex", desc := "(IILjava/util/function/BiFunction;)I" } : Jvm.MethodName) prog_30_method_11_code (3 : Nat) (Option.some Jvm.ClassFile.FieldType.int)) ∈ b_Ws := bw_3 (List.mem_of_getElem? (i := 225) rfl) rfl
set_option maxRecDepth 20000 in
theorem w_4_5 : (Jvm.Cond.fieldLink "AssembleLines$Operation" (9 : Nat) "AssembleLines$Operation" "UNHEARD" "LAssembleLines$Operation;") ∈ b_Ws := bw_4 (List.mem_of_getElem? (i := 5) rfl) rfl
set_option maxRecDepth 20000 in
theorem w_7_237 : (Jvm.Cond.fieldLink "AssembleLines$Operation" (76 : Nat) "AssembleLines$Operation" "spelling" "Ljava/lang/String;") ∈ b_Ws := bw_7 (List.mem_of_getElem? (i := 237) rfl) rfl
set_option maxRecDepth 20000 in
theorem w_7_238 : (Jvm.Cond.fieldLink "java/lang/String" (9 : Nat) "java/lang/String" "value" "[B") ∈ b_Ws := bw_7 (List.mem_of_getElem? (i := 238) rfl) rfl
set_option maxRecDepth 20000 in
theorem w_7_239 : (Jvm.Cond.fieldLink "java/lang/String" (15 : Nat) "java/lang/String" "coder" "B") ∈ b_Ws := bw_7 (List.mem_of_getElem? (i := 239) rfl) rfl
set_option maxRecDepth 20000 in
theorem w_8_0 : (Jvm.Cond.fieldLink "java/lang/Enum" (7 : Nat) "java/lang/Enum" "ordinal" "I") ∈ b_Ws := bw_8 (List.mem_of_getElem? (i := 0) rfl) rfl
theorem dJ0_coder_7d493_0 : decode cJ0_coder_7d493 0 = .ok (.getstatic 38, 3) := by decide +kernel
theorem dJ0_coder_7d493_3 : decode cJ0_coder_7d493 3 = .ok (.ifCond .eq 10, 3) := by decide +kernel
theorem dJ0_coder_7d493_6 : decode cJ0_coder_7d493 6 = .ok (.aload_n 0, 1) := by decide +kernel
theorem dJ0_coder_7d493_7 : decode cJ0_coder_7d493 7 = .ok (.getfield 15, 3) := by decide +kernel
theorem dJ0_coder_7d493_10 : decode cJ0_coder_7d493 10 = .ok (.goto 4, 3) := by decide +kernel
theorem dJ0_coder_7d493_13 : decode cJ0_coder_7d493 13 = .ok (.iconst 1, 1) := by decide +kernel
theorem dJ0_coder_7d493_14 : decode cJ0_coder_7d493 14 = .ok (.ireturn, 1) := by decide +kernel
theorem dJ0_isLatin1_aae02_0 : decode cJ0_isLatin1_aae02 0 = .ok (.getstatic 38, 3) := by decide +kernel
theorem dJ0_isLatin1_aae02_3 : decode cJ0_isLatin1_aae02 3 = .ok (.ifCond .eq 14, 3) := by decide +kernel
theorem dJ0_isLatin1_aae02_6 : decode cJ0_isLatin1_aae02 6 = .ok (.aload_n 0, 1) := by decide +kernel
theorem dJ0_isLatin1_aae02_7 : decode cJ0_isLatin1_aae02 7 = .ok (.getfield 15, 3) := by decide +kernel
theorem dJ0_isLatin1_aae02_10 : decode cJ0_isLatin1_aae02 10 = .ok (.ifCond .ne 7, 3) := by decide +kernel
theorem dJ0_isLatin1_aae02_13 : decode cJ0_isLatin1_aae02 13 = .ok (.iconst 1, 1) := by decide +kernel
theorem dJ0_isLatin1_aae02_14 : decode cJ0_isLatin1_aae02 14 = .ok (.goto 4, 3) := by decide +kernel
theorem dJ0_isLatin1_aae02_17 : decode cJ0_isLatin1_aae02 17 = .ok (.iconst 0, 1) := by decide +kernel
theorem dJ0_isLatin1_aae02_18 : decode cJ0_isLatin1_aae02 18 = .ok (.ireturn, 1) := by decide +kernel
theorem dJ0_isEmpty_aae02_0 : decode cJ0_isEmpty_aae02 0 = .ok (.aload_n 0, 1) := by decide +kernel
theorem dJ0_isEmpty_aae02_1 : decode cJ0_isEmpty_aae02 1 = .ok (.getfield 9, 3) := by decide +kernel
theorem dJ0_isEmpty_aae02_4 : decode cJ0_isEmpty_aae02 4 = .ok (.arraylength, 1) := by decide +kernel
theorem dJ0_isEmpty_aae02_5 : decode cJ0_isEmpty_aae02 5 = .ok (.ifCond .ne 7, 3) := by decide +kernel
theorem dJ0_isEmpty_aae02_8 : decode cJ0_isEmpty_aae02 8 = .ok (.iconst 1, 1) := by decide +kernel
theorem dJ0_isEmpty_aae02_9 : decode cJ0_isEmpty_aae02 9 = .ok (.goto 4, 3) := by decide +kernel
theorem dJ0_isEmpty_aae02_12 : decode cJ0_isEmpty_aae02 12 = .ok (.iconst 0, 1) := by decide +kernel
theorem dJ0_isEmpty_aae02_13 : decode cJ0_isEmpty_aae02 13 = .ok (.ireturn, 1) := by decide +kernel
theorem dJ0_length_8abf5_0 : decode cJ0_length_8abf5 0 = .ok (.aload_n 0, 1) := by decide +kernel
theorem dJ0_length_8abf5_1 : decode cJ0_length_8abf5 1 = .ok (.getfield 9, 3) := by decide +kernel
theorem dJ0_length_8abf5_4 : decode cJ0_length_8abf5 4 = .ok (.arraylength, 1) := by decide +kernel
theorem dJ0_length_8abf5_5 : decode cJ0_length_8abf5 5 = .ok (.aload_n 0, 1) := by decide +kernel
theorem dJ0_length_8abf5_6 : decode cJ0_length_8abf5 6 = .ok (.invokevirtual 335, 3) := by decide +kernel
theorem dJ0_length_8abf5_9 : decode cJ0_length_8abf5 9 = .ok (.ishr, 1) := by decide +kernel
theorem dJ0_length_8abf5_10 : decode cJ0_length_8abf5 10 = .ok (.ireturn, 1) := by decide +kernel
theorem dJ3_checkIndex_8e157_0 : decode cJ3_checkIndex_8e157 0 = .ok (.iload_n 0, 1) := by decide +kernel
theorem dJ3_checkIndex_8e157_1 : decode cJ3_checkIndex_8e157 1 = .ok (.ifCond .lt 8, 3) := by decide +kernel
theorem dJ3_checkIndex_8e157_4 : decode cJ3_checkIndex_8e157 4 = .ok (.iload_n 0, 1) := by decide +kernel
theorem dJ3_checkIndex_8e157_5 : decode cJ3_checkIndex_8e157 5 = .ok (.iload_n 1, 1) := by decide +kernel
theorem dJ3_checkIndex_8e157_6 : decode cJ3_checkIndex_8e157 6 = .ok (.if_icmp .lt 10, 3) := by decide +kernel
theorem dJ3_checkIndex_8e157_9 : decode cJ3_checkIndex_8e157 9 = .ok (.aload_n 2, 1) := by decide +kernel
theorem dJ3_checkIndex_8e157_10 : decode cJ3_checkIndex_8e157 10 = .ok (.iload_n 0, 1) := by decide +kernel
theorem dJ3_checkIndex_8e157_11 : decode cJ3_checkIndex_8e157 11 = .ok (.iload_n 1, 1) := by decide +kernel
theorem dJ3_checkIndex_8e157_12 : decode cJ3_checkIndex_8e157 12 = .ok (.invokestatic 95, 3) := by decide +kernel
theorem dJ3_checkIndex_8e157_15 : decode cJ3_checkIndex_8e157 15 = .ok (.athrow, 1) := by decide +kernel
theorem dJ3_checkIndex_8e157_16 : decode cJ3_checkIndex_8e157 16 = .ok (.iload_n 0, 1) := by decide +kernel
theorem dJ3_checkIndex_8e157_17 : decode cJ3_checkIndex_8e157 17 = .ok (.ireturn, 1) := by decide +kernel
theorem dJ0_checkIndex_df160_0 : decode cJ0_checkIndex_df160 0 = .ok (.iload_n 0, 1) := by decide +kernel
theorem dJ0_checkIndex_df160_1 : decode cJ0_checkIndex_df160 1 = .ok (.iload_n 1, 1) := by decide +kernel
theorem dJ0_checkIndex_df160_2 : decode cJ0_checkIndex_df160 2 = .ok (.getstatic 1053, 3) := by decide +kernel
theorem dJ0_checkIndex_df160_5 : decode cJ0_checkIndex_df160 5 = .ok (.invokestatic 1059, 3) := by decide +kernel
theorem dJ0_checkIndex_df160_8 : decode cJ0_checkIndex_df160 8 = .ok (.pop, 1) := by decide +kernel
theorem dJ0_checkIndex_df160_9 : decode cJ0_checkIndex_df160 9 = .ok (.return_, 1) := by decide +kernel
theorem dJ1_charAt_3b067_0 : decode cJ1_charAt_3b067 0 = .ok (.iload_n 1, 1) := by decide +kernel
theorem dJ1_charAt_3b067_1 : decode cJ1_charAt_3b067 1 = .ok (.aload_n 0, 1) := by decide +kernel
theorem dJ1_charAt_3b067_2 : decode cJ1_charAt_3b067 2 = .ok (.arraylength, 1) := by decide +kernel
theorem dJ1_charAt_3b067_3 : decode cJ1_charAt_3b067 3 = .ok (.invokestatic 9, 3) := by decide +kernel
theorem dJ1_charAt_3b067_6 : decode cJ1_charAt_3b067 6 = .ok (.aload_n 0, 1) := by decide +kernel
theorem dJ1_charAt_3b067_7 : decode cJ1_charAt_3b067 7 = .ok (.iload_n 1, 1) := by decide +kernel
theorem dJ1_charAt_3b067_8 : decode cJ1_charAt_3b067 8 = .ok (.baload, 1) := by decide +kernel
theorem dJ1_charAt_3b067_9 : decode cJ1_charAt_3b067 9 = .ok (.sipush 255, 3) := by decide +kernel
theorem dJ1_charAt_3b067_12 : decode cJ1_charAt_3b067 12 = .ok (.iand, 1) := by decide +kernel
theorem dJ1_charAt_3b067_13 : decode cJ1_charAt_3b067 13 = .ok (.i2c, 1) := by decide +kernel
theorem dJ1_charAt_3b067_14 : decode cJ1_charAt_3b067 14 = .ok (.ireturn, 1) := by decide +kernel
theorem dJ0_charAt_5068e_0 : decode cJ0_charAt_5068e 0 = .ok (.aload_n 0, 1) := by decide +kernel
theorem dJ0_charAt_5068e_1 : decode cJ0_charAt_5068e 1 = .ok (.invokevirtual 492, 3) := by decide +kernel
theorem dJ0_charAt_5068e_4 : decode cJ0_charAt_5068e 4 = .ok (.ifCond .eq 12, 3) := by decide +kernel
theorem dJ0_charAt_5068e_7 : decode cJ0_charAt_5068e 7 = .ok (.aload_n 0, 1) := by decide +kernel
theorem dJ0_charAt_5068e_8 : decode cJ0_charAt_5068e 8 = .ok (.getfield 9, 3) := by decide +kernel
theorem dJ0_charAt_5068e_11 : decode cJ0_charAt_5068e 11 = .ok (.iload_n 1, 1) := by decide +kernel
theorem dJ0_charAt_5068e_12 : decode cJ0_charAt_5068e 12 = .ok (.invokestatic 495, 3) := by decide +kernel
theorem dJ0_charAt_5068e_15 : decode cJ0_charAt_5068e 15 = .ok (.ireturn, 1) := by decide +kernel
theorem dJ0_charAt_5068e_16 : decode cJ0_charAt_5068e 16 = .ok (.aload_n 0, 1) := by decide +kernel
theorem dJ0_charAt_5068e_17 : decode cJ0_charAt_5068e 17 = .ok (.getfield 9, 3) := by decide +kernel
theorem dJ0_charAt_5068e_20 : decode cJ0_charAt_5068e 20 = .ok (.iload_n 1, 1) := by decide +kernel
theorem dJ0_charAt_5068e_21 : decode cJ0_charAt_5068e 21 = .ok (.invokestatic 498, 3) := by decide +kernel
theorem dJ0_charAt_5068e_24 : decode cJ0_charAt_5068e 24 = .ok (.ireturn, 1) := by decide +kernel
theorem dJx29ce0_ordinal_8abf5_0 : decode cJx29ce0_ordinal_8abf5 0 = .ok (.aload_n 0, 1) := by decide +kernel
theorem dJx29ce0_ordinal_8abf5_1 : decode cJx29ce0_ordinal_8abf5 1 = .ok (.getfield 7, 3) := by decide +kernel
theorem dJx29ce0_ordinal_8abf5_4 : decode cJx29ce0_ordinal_8abf5 4 = .ok (.ireturn, 1) := by decide +kernel
theorem dX9_spells_0 : decode cX9_spells 0 = .ok (.aload_n 0, 1) := by decide +kernel
theorem dX9_spells_1 : decode cX9_spells 1 = .ok (.getfield 38, 3) := by decide +kernel
theorem dX9_spells_4 : decode cX9_spells 4 = .ok (.aload_n 0, 1) := by decide +kernel
theorem dX9_spells_5 : decode cX9_spells 5 = .ok (.getfield 29, 3) := by decide +kernel
theorem dX9_spells_8 : decode cX9_spells 8 = .ok (.isub, 1) := by decide +kernel
theorem dX9_spells_9 : decode cX9_spells 9 = .ok (.aload_n 1, 1) := by decide +kernel
theorem dX9_spells_10 : decode cX9_spells 10 = .ok (.invokevirtual 63, 3) := by decide +kernel
theorem dX9_spells_13 : decode cX9_spells 13 = .ok (.if_icmp .ne 15, 3) := by decide +kernel
theorem dX9_spells_16 : decode cX9_spells 16 = .ok (.aload_n 0, 1) := by decide +kernel
theorem dX9_spells_17 : decode cX9_spells 17 = .ok (.getfield 38, 3) := by decide +kernel
theorem dX9_spells_20 : decode cX9_spells 20 = .ok (.aload_n 0, 1) := by decide +kernel
theorem dX9_spells_21 : decode cX9_spells 21 = .ok (.getfield 11, 3) := by decide +kernel
theorem dX9_spells_24 : decode cX9_spells 24 = .ok (.arraylength, 1) := by decide +kernel
theorem dX9_spells_25 : decode cX9_spells 25 = .ok (.if_icmp .le 5, 3) := by decide +kernel
theorem dX9_spells_28 : decode cX9_spells 28 = .ok (.iconst 0, 1) := by decide +kernel
theorem dX9_spells_29 : decode cX9_spells 29 = .ok (.ireturn, 1) := by decide +kernel
theorem dX9_spells_30 : decode cX9_spells 30 = .ok (.iconst 0, 1) := by decide +kernel
theorem dX9_spells_31 : decode cX9_spells 31 = .ok (.istore_n 2, 1) := by decide +kernel
theorem dX9_spells_32 : decode cX9_spells 32 = .ok (.iload_n 2, 1) := by decide +kernel
theorem dX9_spells_33 : decode cX9_spells 33 = .ok (.aload_n 1, 1) := by decide +kernel
theorem dX9_spells_34 : decode cX9_spells 34 = .ok (.invokevirtual 63, 3) := by decide +kernel
theorem dX9_spells_37 : decode cX9_spells 37 = .ok (.if_icmp .ge 30, 3) := by decide +kernel
theorem dX9_spells_40 : decode cX9_spells 40 = .ok (.aload_n 0, 1) := by decide +kernel
theorem dX9_spells_41 : decode cX9_spells 41 = .ok (.getfield 11, 3) := by decide +kernel
theorem dX9_spells_44 : decode cX9_spells 44 = .ok (.aload_n 0, 1) := by decide +kernel
theorem dX9_spells_45 : decode cX9_spells 45 = .ok (.getfield 29, 3) := by decide +kernel
theorem dX9_spells_48 : decode cX9_spells 48 = .ok (.iload_n 2, 1) := by decide +kernel
theorem dX9_spells_49 : decode cX9_spells 49 = .ok (.iadd, 1) := by decide +kernel
theorem dX9_spells_50 : decode cX9_spells 50 = .ok (.baload, 1) := by decide +kernel
theorem dX9_spells_51 : decode cX9_spells 51 = .ok (.aload_n 1, 1) := by decide +kernel
theorem dX9_spells_52 : decode cX9_spells 52 = .ok (.iload_n 2, 1) := by decide +kernel
theorem dX9_spells_53 : decode cX9_spells 53 = .ok (.invokevirtual 69, 3) := by decide +kernel
theorem dX9_spells_56 : decode cX9_spells 56 = .ok (.if_icmp .eq 5, 3) := by decide +kernel
theorem dX9_spells_59 : decode cX9_spells 59 = .ok (.iconst 0, 1) := by decide +kernel
theorem dX9_spells_60 : decode cX9_spells 60 = .ok (.ireturn, 1) := by decide +kernel
theorem dX9_spells_61 : decode cX9_spells 61 = .ok (.iinc 2 1, 3) := by decide +kernel
theorem dX9_spells_64 : decode cX9_spells 64 = .ok (.goto (-32), 3) := by decide +kernel
theorem dX9_spells_67 : decode cX9_spells 67 = .ok (.iconst 1, 1) := by decide +kernel
theorem dX9_spells_68 : decode cX9_spells 68 = .ok (.ireturn, 1) := by decide +kernel
theorem dX7_spelledBy_0 : decode cX7_spelledBy 0 = .ok (.iconst 0, 1) := by decide +kernel
theorem dX7_spelledBy_1 : decode cX7_spelledBy 1 = .ok (.istore_n 1, 1) := by decide +kernel
theorem dX7_spelledBy_2 : decode cX7_spelledBy 2 = .ok (.iload_n 1, 1) := by decide +kernel
theorem dX7_spelledBy_3 : decode cX7_spelledBy 3 = .ok (.getstatic 94, 3) := by decide +kernel
theorem dX7_spelledBy_6 : decode cX7_spelledBy 6 = .ok (.arraylength, 1) := by decide +kernel
theorem dX7_spelledBy_7 : decode cX7_spelledBy 7 = .ok (.if_icmp .ge 44, 3) := by decide +kernel
theorem dX7_spelledBy_10 : decode cX7_spelledBy 10 = .ok (.getstatic 94, 3) := by decide +kernel
theorem dX7_spelledBy_13 : decode cX7_spelledBy 13 = .ok (.iload_n 1, 1) := by decide +kernel
theorem dX7_spelledBy_14 : decode cX7_spelledBy 14 = .ok (.aaload, 1) := by decide +kernel
theorem dX7_spelledBy_15 : decode cX7_spelledBy 15 = .ok (.getfield 76, 3) := by decide +kernel
theorem dX7_spelledBy_18 : decode cX7_spelledBy 18 = .ok (.invokevirtual 97, 3) := by decide +kernel
theorem dX7_spelledBy_21 : decode cX7_spelledBy 21 = .ok (.ifCond .ne 24, 3) := by decide +kernel
theorem dX7_spelledBy_24 : decode cX7_spelledBy 24 = .ok (.aload_n 0, 1) := by decide +kernel
theorem dX7_spelledBy_25 : decode cX7_spelledBy 25 = .ok (.getstatic 94, 3) := by decide +kernel
theorem dX7_spelledBy_28 : decode cX7_spelledBy 28 = .ok (.iload_n 1, 1) := by decide +kernel
theorem dX7_spelledBy_29 : decode cX7_spelledBy 29 = .ok (.aaload, 1) := by decide +kernel
theorem dX7_spelledBy_30 : decode cX7_spelledBy 30 = .ok (.getfield 76, 3) := by decide +kernel
theorem dX7_spelledBy_33 : decode cX7_spelledBy 33 = .ok (.invokevirtual 103, 3) := by decide +kernel
theorem dX7_spelledBy_36 : decode cX7_spelledBy 36 = .ok (.ifCond .eq 9, 3) := by decide +kernel
theorem dX7_spelledBy_39 : decode cX7_spelledBy 39 = .ok (.getstatic 94, 3) := by decide +kernel
theorem dX7_spelledBy_42 : decode cX7_spelledBy 42 = .ok (.iload_n 1, 1) := by decide +kernel
theorem dX7_spelledBy_43 : decode cX7_spelledBy 43 = .ok (.aaload, 1) := by decide +kernel
theorem dX7_spelledBy_44 : decode cX7_spelledBy 44 = .ok (.areturn, 1) := by decide +kernel
theorem dX7_spelledBy_45 : decode cX7_spelledBy 45 = .ok (.iinc 1 1, 3) := by decide +kernel
theorem dX7_spelledBy_48 : decode cX7_spelledBy 48 = .ok (.goto (-46), 3) := by decide +kernel
theorem dX7_spelledBy_51 : decode cX7_spelledBy 51 = .ok (.getstatic 9, 3) := by decide +kernel
theorem dX7_spelledBy_54 : decode cX7_spelledBy 54 = .ok (.areturn, 1) := by decide +kernel

