set_option maxRecDepth 20000 in
theorem w_5_230 : (Jvm.Cond.fieldLink "AssembleLinesModel" (359 : Nat) "AssembleLinesModel" "calls" "I") ∈ b_Ws := bw_5 (List.mem_of_getElem? (i := 230) rfl) rfl
set_option maxRecDepth 20000 in
theorem w_6_34 : (Jvm.Cond.fieldLink "AssembleLinesModel" (422 : Nat) "AssembleLinesModel" "rounds" "I") ∈ b_Ws := bw_6 (List.mem_of_getElem? (i := 34) rfl) rfl
theorem dX13_error_0 : decode cX13_error 0 = .ok (.aload_n 0, 1) := by decide +kernel
theorem dX13_error_1 : decode cX13_error 1 = .ok (.iconst 0, 1) := by decide +kernel
theorem dX13_error_2 : decode cX13_error 2 = .ok (.putfield 157, 3) := by decide +kernel
theorem dX13_error_5 : decode cX13_error 5 = .ok (.iload_n 1, 1) := by decide +kernel
theorem dX13_error_6 : decode cX13_error 6 = .ok (.iconst 0, 1) := by decide +kernel
theorem dX13_error_7 : decode cX13_error 7 = .ok (.aload_n 0, 1) := by decide +kernel
theorem dX13_error_8 : decode cX13_error 8 = .ok (.getfield 176, 3) := by decide +kernel
theorem dX13_error_11 : decode cX13_error 11 = .ok (.iconst 1, 1) := by decide +kernel
theorem dX13_error_12 : decode cX13_error 12 = .ok (.isub, 1) := by decide +kernel
theorem dX13_error_13 : decode cX13_error 13 = .ok (.invokestatic 168, 3) := by decide +kernel
theorem dX13_error_16 : decode cX13_error 16 = .ok (.ifCond .eq 12, 3) := by decide +kernel
theorem dX13_error_19 : decode cX13_error 19 = .ok (.iload_n 2, 1) := by decide +kernel
theorem dX13_error_20 : decode cX13_error 20 = .ok (.iconst 0, 1) := by decide +kernel
theorem dX13_error_21 : decode cX13_error 21 = .ok (.iconst 1, 1) := by decide +kernel
theorem dX13_error_22 : decode cX13_error 22 = .ok (.invokestatic 168, 3) := by decide +kernel
theorem dX13_error_25 : decode cX13_error 25 = .ok (.ifCond .ne 9, 3) := by decide +kernel
theorem dX13_error_28 : decode cX13_error 28 = .ok (.aload_n 0, 1) := by decide +kernel
theorem dX13_error_29 : decode cX13_error 29 = .ok (.iconst 1, 1) := by decide +kernel
theorem dX13_error_30 : decode cX13_error 30 = .ok (.invokevirtual 164, 3) := by decide +kernel
theorem dX13_error_33 : decode cX13_error 33 = .ok (.ireturn, 1) := by decide +kernel
theorem dX13_error_34 : decode cX13_error 34 = .ok (.iload_n 2, 1) := by decide +kernel
theorem dX13_error_35 : decode cX13_error 35 = .ok (.ifCond .ne 12, 3) := by decide +kernel
theorem dX13_error_38 : decode cX13_error 38 = .ok (.aload_n 0, 1) := by decide +kernel
theorem dX13_error_39 : decode cX13_error 39 = .ok (.getfield 144, 3) := by decide +kernel
theorem dX13_error_42 : decode cX13_error 42 = .ok (.iload_n 1, 1) := by decide +kernel
theorem dX13_error_43 : decode cX13_error 43 = .ok (.iaload, 1) := by decide +kernel
theorem dX13_error_44 : decode cX13_error 44 = .ok (.goto 9, 3) := by decide +kernel
theorem dX13_error_47 : decode cX13_error 47 = .ok (.aload_n 0, 1) := by decide +kernel
theorem dX13_error_48 : decode cX13_error 48 = .ok (.getfield 147, 3) := by decide +kernel
theorem dX13_error_51 : decode cX13_error 51 = .ok (.iload_n 1, 1) := by decide +kernel
theorem dX13_error_52 : decode cX13_error 52 = .ok (.iaload, 1) := by decide +kernel
theorem dX13_error_53 : decode cX13_error 53 = .ok (.ireturn, 1) := by decide +kernel
theorem dX13_word_0 : decode cX13_word 0 = .ok (.aload_n 0, 1) := by decide +kernel
theorem dX13_word_1 : decode cX13_word 1 = .ok (.iconst 0, 1) := by decide +kernel
theorem dX13_word_2 : decode cX13_word 2 = .ok (.putfield 157, 3) := by decide +kernel
theorem dX13_word_5 : decode cX13_word 5 = .ok (.iload_n 1, 1) := by decide +kernel
theorem dX13_word_6 : decode cX13_word 6 = .ok (.iconst 0, 1) := by decide +kernel
theorem dX13_word_7 : decode cX13_word 7 = .ok (.aload_n 0, 1) := by decide +kernel
theorem dX13_word_8 : decode cX13_word 8 = .ok (.getfield 441, 3) := by decide +kernel
theorem dX13_word_11 : decode cX13_word 11 = .ok (.iconst 1, 1) := by decide +kernel
theorem dX13_word_12 : decode cX13_word 12 = .ok (.isub, 1) := by decide +kernel
theorem dX13_word_13 : decode cX13_word 13 = .ok (.invokestatic 168, 3) := by decide +kernel
theorem dX13_word_16 : decode cX13_word 16 = .ok (.ifCond .eq 12, 3) := by decide +kernel
theorem dX13_word_19 : decode cX13_word 19 = .ok (.aload_n 0, 1) := by decide +kernel
theorem dX13_word_20 : decode cX13_word 20 = .ok (.getfield 151, 3) := by decide +kernel
theorem dX13_word_23 : decode cX13_word 23 = .ok (.iload_n 1, 1) := by decide +kernel
theorem dX13_word_24 : decode cX13_word 24 = .ok (.iaload, 1) := by decide +kernel
theorem dX13_word_25 : decode cX13_word 25 = .ok (.goto 8, 3) := by decide +kernel
theorem dX13_word_28 : decode cX13_word 28 = .ok (.aload_n 0, 1) := by decide +kernel
theorem dX13_word_29 : decode cX13_word 29 = .ok (.iconst 1, 1) := by decide +kernel
theorem dX13_word_30 : decode cX13_word 30 = .ok (.invokevirtual 164, 3) := by decide +kernel
theorem dX13_word_33 : decode cX13_word 33 = .ok (.ireturn, 1) := by decide +kernel
theorem dX13_statement_0 : decode cX13_statement 0 = .ok (.aload_n 0, 1) := by decide +kernel
theorem dX13_statement_1 : decode cX13_statement 1 = .ok (.iconst 0, 1) := by decide +kernel
theorem dX13_statement_2 : decode cX13_statement 2 = .ok (.putfield 157, 3) := by decide +kernel
theorem dX13_statement_5 : decode cX13_statement 5 = .ok (.iload_n 1, 1) := by decide +kernel
theorem dX13_statement_6 : decode cX13_statement 6 = .ok (.iconst 0, 1) := by decide +kernel
theorem dX13_statement_7 : decode cX13_statement 7 = .ok (.aload_n 0, 1) := by decide +kernel
theorem dX13_statement_8 : decode cX13_statement 8 = .ok (.getfield 217, 3) := by decide +kernel
theorem dX13_statement_11 : decode cX13_statement 11 = .ok (.iconst 1, 1) := by decide +kernel
theorem dX13_statement_12 : decode cX13_statement 12 = .ok (.isub, 1) := by decide +kernel
theorem dX13_statement_13 : decode cX13_statement 13 = .ok (.invokestatic 168, 3) := by decide +kernel
theorem dX13_statement_16 : decode cX13_statement 16 = .ok (.ifCond .eq 12, 3) := by decide +kernel
theorem dX13_statement_19 : decode cX13_statement 19 = .ok (.iload_n 2, 1) := by decide +kernel
theorem dX13_statement_20 : decode cX13_statement 20 = .ok (.iconst 0, 1) := by decide +kernel
theorem dX13_statement_21 : decode cX13_statement 21 = .ok (.iconst 3, 1) := by decide +kernel
theorem dX13_statement_22 : decode cX13_statement 22 = .ok (.invokestatic 168, 3) := by decide +kernel
theorem dX13_statement_25 : decode cX13_statement 25 = .ok (.ifCond .ne 9, 3) := by decide +kernel
theorem dX13_statement_28 : decode cX13_statement 28 = .ok (.aload_n 0, 1) := by decide +kernel
theorem dX13_statement_29 : decode cX13_statement 29 = .ok (.iconst 1, 1) := by decide +kernel
theorem dX13_statement_30 : decode cX13_statement 30 = .ok (.invokevirtual 164, 3) := by decide +kernel
theorem dX13_statement_33 : decode cX13_statement 33 = .ok (.ireturn, 1) := by decide +kernel
theorem dX13_statement_34 : decode cX13_statement 34 = .ok (.iload_n 2, 1) := by decide +kernel
theorem dX13_statement_35 : decode cX13_statement 35 = .ok (.ifCond .ne 12, 3) := by decide +kernel
theorem dX13_statement_38 : decode cX13_statement 38 = .ok (.aload_n 0, 1) := by decide +kernel
theorem dX13_statement_39 : decode cX13_statement 39 = .ok (.getfield 85, 3) := by decide +kernel
theorem dX13_statement_42 : decode cX13_statement 42 = .ok (.iload_n 1, 1) := by decide +kernel
theorem dX13_statement_43 : decode cX13_statement 43 = .ok (.iaload, 1) := by decide +kernel
theorem dX13_statement_44 : decode cX13_statement 44 = .ok (.goto 44, 3) := by decide +kernel
theorem dX13_statement_47 : decode cX13_statement 47 = .ok (.iload_n 2, 1) := by decide +kernel
theorem dX13_statement_48 : decode cX13_statement 48 = .ok (.iconst 1, 1) := by decide +kernel
theorem dX13_statement_49 : decode cX13_statement 49 = .ok (.if_icmp .ne 12, 3) := by decide +kernel
theorem dX13_statement_52 : decode cX13_statement 52 = .ok (.aload_n 0, 1) := by decide +kernel
theorem dX13_statement_53 : decode cX13_statement 53 = .ok (.getfield 113, 3) := by decide +kernel
theorem dX13_statement_56 : decode cX13_statement 56 = .ok (.iload_n 1, 1) := by decide +kernel
theorem dX13_statement_57 : decode cX13_statement 57 = .ok (.iaload, 1) := by decide +kernel
theorem dX13_statement_58 : decode cX13_statement 58 = .ok (.goto 30, 3) := by decide +kernel
theorem dX13_statement_61 : decode cX13_statement 61 = .ok (.iload_n 2, 1) := by decide +kernel
theorem dX13_statement_62 : decode cX13_statement 62 = .ok (.iconst 2, 1) := by decide +kernel
theorem dX13_statement_63 : decode cX13_statement 63 = .ok (.if_icmp .ne 11, 3) := by decide +kernel
theorem dX13_statement_66 : decode cX13_statement 66 = .ok (.aload_n 0, 1) := by decide +kernel
theorem dX13_statement_67 : decode cX13_statement 67 = .ok (.iload_n 1, 1) := by decide +kernel
theorem dX13_statement_68 : decode cX13_statement 68 = .ok (.invokevirtual 412, 3) := by decide +kernel
theorem dX13_statement_71 : decode cX13_statement 71 = .ok (.goto 17, 3) := by decide +kernel
theorem dX13_statement_74 : decode cX13_statement 74 = .ok (.aload_n 0, 1) := by decide +kernel
theorem dX13_statement_75 : decode cX13_statement 75 = .ok (.getfield 109, 3) := by decide +kernel
theorem dX13_statement_78 : decode cX13_statement 78 = .ok (.iload_n 1, 1) := by decide +kernel
theorem dX13_statement_79 : decode cX13_statement 79 = .ok (.baload, 1) := by decide +kernel
theorem dX13_statement_80 : decode cX13_statement 80 = .ok (.ifCond .eq 7, 3) := by decide +kernel
theorem dX13_statement_83 : decode cX13_statement 83 = .ok (.iconst 1, 1) := by decide +kernel
theorem dX13_statement_84 : decode cX13_statement 84 = .ok (.goto 4, 3) := by decide +kernel
theorem dX13_statement_87 : decode cX13_statement 87 = .ok (.iconst 0, 1) := by decide +kernel
theorem dX13_statement_88 : decode cX13_statement 88 = .ok (.ireturn, 1) := by decide +kernel
theorem dX13_count_0 : decode cX13_count 0 = .ok (.aload_n 0, 1) := by decide +kernel
theorem dX13_count_1 : decode cX13_count 1 = .ok (.iconst 0, 1) := by decide +kernel
theorem dX13_count_2 : decode cX13_count 2 = .ok (.putfield 157, 3) := by decide +kernel
theorem dX13_count_5 : decode cX13_count 5 = .ok (.iload_n 1, 1) := by decide +kernel
theorem dX13_count_6 : decode cX13_count 6 = .ok (.tableswitch 104 0 9 #[54, 59, 64, 69, 74, 79, 84, 89, 94, 99], 54) := by decide +kernel
theorem dX13_count_60 : decode cX13_count 60 = .ok (.aload_n 0, 1) := by decide +kernel
theorem dX13_count_61 : decode cX13_count 61 = .ok (.getfield 161, 3) := by decide +kernel
theorem dX13_count_64 : decode cX13_count 64 = .ok (.ireturn, 1) := by decide +kernel
theorem dX13_count_65 : decode cX13_count 65 = .ok (.aload_n 0, 1) := by decide +kernel
theorem dX13_count_66 : decode cX13_count 66 = .ok (.getfield 441, 3) := by decide +kernel
theorem dX13_count_69 : decode cX13_count 69 = .ok (.ireturn, 1) := by decide +kernel
theorem dX13_count_70 : decode cX13_count 70 = .ok (.aload_n 0, 1) := by decide +kernel
theorem dX13_count_71 : decode cX13_count 71 = .ok (.getfield 217, 3) := by decide +kernel
theorem dX13_count_74 : decode cX13_count 74 = .ok (.ireturn, 1) := by decide +kernel
theorem dX13_count_75 : decode cX13_count 75 = .ok (.aload_n 0, 1) := by decide +kernel
theorem dX13_count_76 : decode cX13_count 76 = .ok (.getfield 271, 3) := by decide +kernel
theorem dX13_count_79 : decode cX13_count 79 = .ok (.ireturn, 1) := by decide +kernel
theorem dX13_count_80 : decode cX13_count 80 = .ok (.aload_n 0, 1) := by decide +kernel
theorem dX13_count_81 : decode cX13_count 81 = .ok (.getfield 283, 3) := by decide +kernel
theorem dX13_count_84 : decode cX13_count 84 = .ok (.ireturn, 1) := by decide +kernel
theorem dX13_count_85 : decode cX13_count 85 = .ok (.aload_n 0, 1) := by decide +kernel
theorem dX13_count_86 : decode cX13_count 86 = .ok (.getfield 214, 3) := by decide +kernel
theorem dX13_count_89 : decode cX13_count 89 = .ok (.ireturn, 1) := by decide +kernel
theorem dX13_count_90 : decode cX13_count 90 = .ok (.aload_n 0, 1) := by decide +kernel
theorem dX13_count_91 : decode cX13_count 91 = .ok (.getfield 359, 3) := by decide +kernel
theorem dX13_count_94 : decode cX13_count 94 = .ok (.ireturn, 1) := by decide +kernel
theorem dX13_count_95 : decode cX13_count 95 = .ok (.aload_n 0, 1) := by decide +kernel
theorem dX13_count_96 : decode cX13_count 96 = .ok (.getfield 422, 3) := by decide +kernel
theorem dX13_count_99 : decode cX13_count 99 = .ok (.ireturn, 1) := by decide +kernel
theorem dX13_count_100 : decode cX13_count 100 = .ok (.aload_n 0, 1) := by decide +kernel
theorem dX13_count_101 : decode cX13_count 101 = .ok (.getfield 176, 3) := by decide +kernel
theorem dX13_count_104 : decode cX13_count 104 = .ok (.ireturn, 1) := by decide +kernel
theorem dX13_count_105 : decode cX13_count 105 = .ok (.aload_n 0, 1) := by decide +kernel
theorem dX13_count_106 : decode cX13_count 106 = .ok (.getfield 454, 3) := by decide +kernel
theorem dX13_count_109 : decode cX13_count 109 = .ok (.ireturn, 1) := by decide +kernel
theorem dX13_count_110 : decode cX13_count 110 = .ok (.iconst (-1), 1) := by decide +kernel
theorem dX13_count_111 : decode cX13_count 111 = .ok (.ireturn, 1) := by decide +kernel

